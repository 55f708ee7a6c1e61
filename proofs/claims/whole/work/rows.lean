section
/-- a private method of a class that the tables say can be made, by its rows of tables_1 -/
def lw_okq (q : MethodName × Nat) : Prop := (q.1.cls ≠ "java/lang/invoke/MethodHandle" ∧ q.1.cls ≠ "java/lang/invoke/VarHandle") ∧ Cond.instantiable q.1.cls q.2 ∈ tables_1 ∧ Cond.privateMethod q.1 ∈ tables_1 ∧ Cond.instanceMethod q.1 ∈ tables_1
theorem lw_p0 : lw_okq (⟨"java/lang/Throwable", "fillInStackTrace", "(I)Ljava/lang/Throwable;"⟩, 6) := ⟨⟨by decide +kernel, by decide +kernel⟩, List.mem_of_getElem? (i := 154) (by decide +kernel), List.mem_of_getElem? (i := 152) (by decide +kernel), List.mem_of_getElem? (i := 153) (by decide +kernel)⟩
theorem lw_p1 : lw_okq (⟨"WarpSearch", "checkRow", "(I)V"⟩, 11) := ⟨⟨by decide +kernel, by decide +kernel⟩, List.mem_of_getElem? (i := 15) (by decide +kernel), List.mem_of_getElem? (i := 254) (by decide +kernel), List.mem_of_getElem? (i := 255) (by decide +kernel)⟩
theorem lw_p2 : lw_okq (⟨"WarpSearch", "placeRow", "(I)V"⟩, 11) := ⟨⟨by decide +kernel, by decide +kernel⟩, List.mem_of_getElem? (i := 15) (by decide +kernel), List.mem_of_getElem? (i := 274) (by decide +kernel), List.mem_of_getElem? (i := 275) (by decide +kernel)⟩
theorem lw_p3 : lw_okq (⟨"WarpSearch$Comparison", "fillLine", "(I)I"⟩, 7) := ⟨⟨by decide +kernel, by decide +kernel⟩, List.mem_of_getElem? (i := 23) (by decide +kernel), List.mem_of_getElem? (i := 291) (by decide +kernel), List.mem_of_getElem? (i := 292) (by decide +kernel)⟩
theorem lw_p4 : lw_okq (⟨"WarpSearch$Comparison", "lastInBand", "(I)I"⟩, 7) := ⟨⟨by decide +kernel, by decide +kernel⟩, List.mem_of_getElem? (i := 23) (by decide +kernel), List.mem_of_getElem? (i := 296) (by decide +kernel), List.mem_of_getElem? (i := 297) (by decide +kernel)⟩
theorem lw_p5 : lw_okq (⟨"WarpSearch$Comparison", "firstInBand", "(I)I"⟩, 7) := ⟨⟨by decide +kernel, by decide +kernel⟩, List.mem_of_getElem? (i := 23) (by decide +kernel), List.mem_of_getElem? (i := 300) (by decide +kernel), List.mem_of_getElem? (i := 301) (by decide +kernel)⟩
theorem lw_p6 : lw_okq (⟨"WarpSearch$Comparison", "leastBefore", "(II)I"⟩, 7) := ⟨⟨by decide +kernel, by decide +kernel⟩, List.mem_of_getElem? (i := 23) (by decide +kernel), List.mem_of_getElem? (i := 304) (by decide +kernel), List.mem_of_getElem? (i := 305) (by decide +kernel)⟩
theorem lw_p7 : lw_okq (⟨"WarpSearch$Comparison", "costAt", "(II)I"⟩, 7) := ⟨⟨by decide +kernel, by decide +kernel⟩, List.mem_of_getElem? (i := 23) (by decide +kernel), List.mem_of_getElem? (i := 308) (by decide +kernel), List.mem_of_getElem? (i := 309) (by decide +kernel)⟩
theorem lw_p8 : lw_okq (⟨"WarpSearch$Comparison", "hullBound", "([I[I)I"⟩, 7) := ⟨⟨by decide +kernel, by decide +kernel⟩, List.mem_of_getElem? (i := 23) (by decide +kernel), List.mem_of_getElem? (i := 330) (by decide +kernel), List.mem_of_getElem? (i := 331) (by decide +kernel)⟩
theorem lw_p9 : lw_okq (⟨"WarpSearch", "checkAnyRow", "()V"⟩, 11) := ⟨⟨by decide +kernel, by decide +kernel⟩, List.mem_of_getElem? (i := 15) (by decide +kernel), List.mem_of_getElem? (i := 375) (by decide +kernel), List.mem_of_getElem? (i := 376) (by decide +kernel)⟩
theorem lw_p10 : lw_okq (⟨"WarpSearch", "searchAmong", "([IIII)I"⟩, 11) := ⟨⟨by decide +kernel, by decide +kernel⟩, List.mem_of_getElem? (i := 15) (by decide +kernel), List.mem_of_getElem? (i := 380) (by decide +kernel), List.mem_of_getElem? (i := 381) (by decide +kernel)⟩
theorem lw_p11 : lw_okq (⟨"WarpSearch", "weigh", "(I)V"⟩, 11) := ⟨⟨by decide +kernel, by decide +kernel⟩, List.mem_of_getElem? (i := 15) (by decide +kernel), List.mem_of_getElem? (i := 384) (by decide +kernel), List.mem_of_getElem? (i := 385) (by decide +kernel)⟩
theorem lw_p12 : lw_okq (⟨"WarpSearch", "passingBound", "(I)I"⟩, 11) := ⟨⟨by decide +kernel, by decide +kernel⟩, List.mem_of_getElem? (i := 15) (by decide +kernel), List.mem_of_getElem? (i := 392) (by decide +kernel), List.mem_of_getElem? (i := 393) (by decide +kernel)⟩
theorem lw_p13 : lw_okq (⟨"WarpSearch", "votesFor", "(I)I"⟩, 11) := ⟨⟨by decide +kernel, by decide +kernel⟩, List.mem_of_getElem? (i := 15) (by decide +kernel), List.mem_of_getElem? (i := 416) (by decide +kernel), List.mem_of_getElem? (i := 417) (by decide +kernel)⟩
theorem lw_p14 : lw_okq (⟨"WarpSearchModel", "isRow", "(I)Z"⟩, 17) := ⟨⟨by decide +kernel, by decide +kernel⟩, List.mem_of_getElem? (i := 452) (by decide +kernel), List.mem_of_getElem? (i := 533) (by decide +kernel), List.mem_of_getElem? (i := 534) (by decide +kernel)⟩
theorem lw_p15 : lw_okq (⟨"WarpSearchModel", "takeRow", "(I)V"⟩, 17) := ⟨⟨by decide +kernel, by decide +kernel⟩, List.mem_of_getElem? (i := 452) (by decide +kernel), List.mem_of_getElem? (i := 545) (by decide +kernel), List.mem_of_getElem? (i := 546) (by decide +kernel)⟩
def lw_privs_1 : List (MethodName × Nat) := [(⟨"java/lang/Throwable", "fillInStackTrace", "(I)Ljava/lang/Throwable;"⟩, 6), (⟨"WarpSearch", "checkRow", "(I)V"⟩, 11), (⟨"WarpSearch", "placeRow", "(I)V"⟩, 11), (⟨"WarpSearch$Comparison", "fillLine", "(I)I"⟩, 7), (⟨"WarpSearch$Comparison", "lastInBand", "(I)I"⟩, 7), (⟨"WarpSearch$Comparison", "firstInBand", "(I)I"⟩, 7), (⟨"WarpSearch$Comparison", "leastBefore", "(II)I"⟩, 7), (⟨"WarpSearch$Comparison", "costAt", "(II)I"⟩, 7), (⟨"WarpSearch$Comparison", "hullBound", "([I[I)I"⟩, 7), (⟨"WarpSearch", "checkAnyRow", "()V"⟩, 11), (⟨"WarpSearch", "searchAmong", "([IIII)I"⟩, 11), (⟨"WarpSearch", "weigh", "(I)V"⟩, 11), (⟨"WarpSearch", "passingBound", "(I)I"⟩, 11), (⟨"WarpSearch", "votesFor", "(I)I"⟩, 11), (⟨"WarpSearchModel", "isRow", "(I)Z"⟩, 17), (⟨"WarpSearchModel", "takeRow", "(I)V"⟩, 17)]
theorem lw_r1 : ∀ q ∈ lw_privs_1, lw_okq q := List.forall_mem_cons.mpr ⟨lw_p0, List.forall_mem_cons.mpr ⟨lw_p1, List.forall_mem_cons.mpr ⟨lw_p2, List.forall_mem_cons.mpr ⟨lw_p3, List.forall_mem_cons.mpr ⟨lw_p4, List.forall_mem_cons.mpr ⟨lw_p5, List.forall_mem_cons.mpr ⟨lw_p6, List.forall_mem_cons.mpr ⟨lw_p7, List.forall_mem_cons.mpr ⟨lw_p8, List.forall_mem_cons.mpr ⟨lw_p9, List.forall_mem_cons.mpr ⟨lw_p10, List.forall_mem_cons.mpr ⟨lw_p11, List.forall_mem_cons.mpr ⟨lw_p12, List.forall_mem_cons.mpr ⟨lw_p13, List.forall_mem_cons.mpr ⟨lw_p14, List.forall_mem_cons.mpr ⟨lw_p15, fun _ h => absurd h List.not_mem_nil⟩⟩⟩⟩⟩⟩⟩⟩⟩⟩⟩⟩⟩⟩⟩⟩
theorem lw_p16 : lw_okq (⟨"WarpSearchModel", "fill", "()V"⟩, 17) := ⟨⟨by decide +kernel, by decide +kernel⟩, List.mem_of_getElem? (i := 452) (by decide +kernel), List.mem_of_getElem? (i := 549) (by decide +kernel), List.mem_of_getElem? (i := 550) (by decide +kernel)⟩
theorem lw_p17 : lw_okq (⟨"WarpSearchModel", "inBand", "(II)Z"⟩, 17) := ⟨⟨by decide +kernel, by decide +kernel⟩, List.mem_of_getElem? (i := 452) (by decide +kernel), List.mem_of_getElem? (i := 553) (by decide +kernel), List.mem_of_getElem? (i := 554) (by decide +kernel)⟩
theorem lw_p18 : lw_okq (⟨"WarpSearchModel", "costAt", "(II)I"⟩, 17) := ⟨⟨by decide +kernel, by decide +kernel⟩, List.mem_of_getElem? (i := 452) (by decide +kernel), List.mem_of_getElem? (i := 557) (by decide +kernel), List.mem_of_getElem? (i := 558) (by decide +kernel)⟩
theorem lw_p19 : lw_okq (⟨"WarpSearchModel", "boundOf", "(I)I"⟩, 17) := ⟨⟨by decide +kernel, by decide +kernel⟩, List.mem_of_getElem? (i := 452) (by decide +kernel), List.mem_of_getElem? (i := 568) (by decide +kernel), List.mem_of_getElem? (i := 569) (by decide +kernel)⟩
theorem lw_p20 : lw_okq (⟨"WarpSearchModel", "beyond", "(IIZ)I"⟩, 17) := ⟨⟨by decide +kernel, by decide +kernel⟩, List.mem_of_getElem? (i := 452) (by decide +kernel), List.mem_of_getElem? (i := 572) (by decide +kernel), List.mem_of_getElem? (i := 573) (by decide +kernel)⟩
theorem lw_p21 : lw_okq (⟨"WarpSearchModel", "walk", "()I"⟩, 17) := ⟨⟨by decide +kernel, by decide +kernel⟩, List.mem_of_getElem? (i := 452) (by decide +kernel), List.mem_of_getElem? (i := 580) (by decide +kernel), List.mem_of_getElem? (i := 581) (by decide +kernel)⟩
theorem lw_p22 : lw_okq (⟨"WarpSearchModel", "start", "(I)V"⟩, 17) := ⟨⟨by decide +kernel, by decide +kernel⟩, List.mem_of_getElem? (i := 452) (by decide +kernel), List.mem_of_getElem? (i := 592) (by decide +kernel), List.mem_of_getElem? (i := 593) (by decide +kernel)⟩
theorem lw_p23 : lw_okq (⟨"WarpSearchModel", "turn", "(I)V"⟩, 17) := ⟨⟨by decide +kernel, by decide +kernel⟩, List.mem_of_getElem? (i := 452) (by decide +kernel), List.mem_of_getElem? (i := 596) (by decide +kernel), List.mem_of_getElem? (i := 597) (by decide +kernel)⟩
theorem lw_p24 : lw_okq (⟨"WarpSearchModel", "tally", "(I)V"⟩, 17) := ⟨⟨by decide +kernel, by decide +kernel⟩, List.mem_of_getElem? (i := 452) (by decide +kernel), List.mem_of_getElem? (i := 600) (by decide +kernel), List.mem_of_getElem? (i := 601) (by decide +kernel)⟩
theorem lw_p25 : lw_okq (⟨"WarpSearchModel", "givesUp", "(I)Z"⟩, 17) := ⟨⟨by decide +kernel, by decide +kernel⟩, List.mem_of_getElem? (i := 452) (by decide +kernel), List.mem_of_getElem? (i := 604) (by decide +kernel), List.mem_of_getElem? (i := 605) (by decide +kernel)⟩
theorem lw_p26 : lw_okq (⟨"WarpSearchModel", "takeWindow", "(I)V"⟩, 17) := ⟨⟨by decide +kernel, by decide +kernel⟩, List.mem_of_getElem? (i := 452) (by decide +kernel), List.mem_of_getElem? (i := 612) (by decide +kernel), List.mem_of_getElem? (i := 613) (by decide +kernel)⟩
def lw_privs_2 : List (MethodName × Nat) := [(⟨"WarpSearchModel", "fill", "()V"⟩, 17), (⟨"WarpSearchModel", "inBand", "(II)Z"⟩, 17), (⟨"WarpSearchModel", "costAt", "(II)I"⟩, 17), (⟨"WarpSearchModel", "boundOf", "(I)I"⟩, 17), (⟨"WarpSearchModel", "beyond", "(IIZ)I"⟩, 17), (⟨"WarpSearchModel", "walk", "()I"⟩, 17), (⟨"WarpSearchModel", "start", "(I)V"⟩, 17), (⟨"WarpSearchModel", "turn", "(I)V"⟩, 17), (⟨"WarpSearchModel", "tally", "(I)V"⟩, 17), (⟨"WarpSearchModel", "givesUp", "(I)Z"⟩, 17), (⟨"WarpSearchModel", "takeWindow", "(I)V"⟩, 17)]
theorem lw_r2 : ∀ q ∈ lw_privs_2, lw_okq q := List.forall_mem_cons.mpr ⟨lw_p16, List.forall_mem_cons.mpr ⟨lw_p17, List.forall_mem_cons.mpr ⟨lw_p18, List.forall_mem_cons.mpr ⟨lw_p19, List.forall_mem_cons.mpr ⟨lw_p20, List.forall_mem_cons.mpr ⟨lw_p21, List.forall_mem_cons.mpr ⟨lw_p22, List.forall_mem_cons.mpr ⟨lw_p23, List.forall_mem_cons.mpr ⟨lw_p24, List.forall_mem_cons.mpr ⟨lw_p25, List.forall_mem_cons.mpr ⟨lw_p26, fun _ h => absurd h List.not_mem_nil⟩⟩⟩⟩⟩⟩⟩⟩⟩⟩⟩
def lw_privs : List (MethodName × Nat) := lw_privs_1 ++ (lw_privs_2)
def lw_tbl : List Cond := k2_sels lw_privs ++ tables_1
theorem lw_privs_ok : ∀ q ∈ lw_privs, lw_okq q := by
  show ∀ q ∈ lw_privs_1 ++ (lw_privs_2), lw_okq q
  exact List.forall_mem_append.mpr ⟨lw_r1, lw_r2⟩
end
section
/-! whole numbers: an int of the machine by the number that it stands for -/
def iI (z : Int) : Int32 := Int32.ofInt z
def iA (F : Nat → Int) : Nat → Int32 := fun k => iI (F k)
def zU (F : Nat → Int) (k : Nat) (z : Int) : Nat → Int := fun j => if j = k then z else F j
def zC (F G : Nat → Int) (sp dp n : Nat) : Nat → Int := fun k => if dp ≤ k ∧ k < dp + n then F (sp + (k - dp)) else G k
theorem zU_s {F : Nat → Int} {k : Nat} {z : Int} : zU F k z k = z := by simp [zU]
theorem zU_n {F : Nat → Int} {k j : Nat} {z : Int} (h : j ≠ k) : zU F k z j = F j := by simp [zU, h]
theorem iI_ti {z : Int} (h : -2147483648 ≤ z ∧ z ≤ 2147483647) : (iI z).toInt = z := by
  unfold iI
  exact Int32.toInt_ofInt_of_le (by omega) (by omega)
theorem iI_of (x : Int32) : x = iI x.toInt := (Int32.ofInt_toInt x).symm
theorem iI_ex (x : Int32) : ∃ z : Int, x = iI z ∧ -2147483648 ≤ z ∧ z ≤ 2147483647 := by
  have h1 := Int32.toInt_lt x
  have h2 := Int32.le_toInt x
  exact ⟨x.toInt, iI_of x, by omega, by omega⟩
theorem iI_add (a b : Int) : iI a + iI b = iI (a + b) := (Int32.ofInt_add a b).symm
theorem iI_sub (a b : Int) : iI a - iI b = iI (a - b) := (Int32.ofInt_sub a b).symm
theorem iI_mul (a b : Int) : iI a * iI b = iI (a * b) := (Int32.ofInt_mul a b).symm
theorem iI_nat (n : Nat) : Int32.ofNat n = iI (n : Int) := Int32.ofInt_eq_ofNat.symm
theorem iI_le {a b : Int} (h : -2147483648 ≤ a ∧ a ≤ 2147483647 ∧ -2147483648 ≤ b ∧ b ≤ 2147483647) : iI a ≤ iI b ↔ a ≤ b := by
  rw [Int32.le_iff_toInt_le, iI_ti (by omega), iI_ti (by omega)]
theorem iI_lt {a b : Int} (h : -2147483648 ≤ a ∧ a ≤ 2147483647 ∧ -2147483648 ≤ b ∧ b ≤ 2147483647) : iI a < iI b ↔ a < b := by
  rw [Int32.lt_iff_toInt_lt, iI_ti (by omega), iI_ti (by omega)]
theorem iI_eq {a b : Int} (h : -2147483648 ≤ a ∧ a ≤ 2147483647 ∧ -2147483648 ≤ b ∧ b ≤ 2147483647) : iI a = iI b ↔ a = b := by
  constructor
  · intro q
    have q2 : (iI a).toInt = (iI b).toInt := by rw [q]
    rw [iI_ti (by omega), iI_ti (by omega)] at q2
    exact q2
  · intro q
    rw [q]
theorem iI_0 : (0 : Int32) = iI 0 := rfl
theorem iI_cl {z : Int} {k : Nat} (h : z = (k : Int)) (hk : k ≤ 2147483647) : (iI z).toNatClampNeg = k := by
  show (iI z).toInt.toNat = k
  rw [iI_ti (by omega), h]
  rfl
theorem iI_in {z : Int} {k n : Nat} (h : z = (k : Int) ∧ k < n ∧ n ≤ 2147483647) : vp_in (iI z) n := by
  intro q
  rcases q with q | q
  · rw [iI_0, iI_lt (by omega)] at q
    omega
  · rw [iI_cl h.1 (by omega)] at q
    omega
theorem iA_upd (F : Nat → Int) (k : Nat) (z : Int) : upd (iA F) k (iI z) = iA (zU F k z) := by
  funext j
  by_cases h : j = k
  · subst h
    simp [upd, iA, zU]
  · simp [upd, iA, zU, h]
theorem iA_cpy (F G : Nat → Int) (sp dp n : Nat) : va_cpy (iA F) (iA G) sp dp n = iA (zC F G sp dp n) := by
  funext j
  by_cases h : dp ≤ j ∧ j < dp + n
  · simp [va_cpy, iA, zC, h]
  · simp [va_cpy, iA, zC, h]
section ZR
variable {p : Program} {l : Launch} {e : Env} {R : Room} {s : State} {m : MethodId} {args : Array Value} {below : List Frame} {meth : Method} {c : Code} {H : Heap} {locs : List Loc} {cells slots : Nat} {Q : State → Prop} {cc : ByteArray} {pc : Nat} {ls : Array Slot} {rest : List Value}
/-- the room and the end get names -/
theorem z_intro {g : JFrame} (k : ∀ (R' : Room) (Q' : State → Prop), R' = R → Q' = Q → W p l e R' s m args below meth c H locs cells slots Q' g) : W p l e R s m args below meth c H locs cells slots Q g := k R Q rfl rfl
theorem z_q {g : JFrame} {Q' : State → Prop} (h : Q = Q') (k : W p l e R s m args below meth c H locs cells slots Q' g) : W p l e R s m args below meth c H locs cells slots Q g := h ▸ k
/-- the number on top is written otherwise -/
theorem z_top {a b : Int} (h : a = b) (k : W p l e R s m args below meth c H locs cells slots Q (F0 m pc ls (.int (iI b) :: rest))) : W p l e R s m args below meth c H locs cells slots Q (F0 m pc ls (.int (iI a) :: rest)) := h ▸ k
theorem z_iadd (hx : p.tables.exec = Jvm.exec) (hb : c.code = cc) {a b : Int} (hdg : decode cc pc = .ok (.iadd, 1)) (k : W p l e R s m args below meth c H locs cells slots Q (F0 m (pc + 1) ls (.int (iI (a + b)) :: rest))) : W p l e R s m args below meth c H locs cells slots Q (F0 m pc ls (.int (iI b) :: .int (iI a) :: rest)) :=
  lv_iadd hx hb hdg (by rw [iI_add]; exact k)
theorem z_isub (hx : p.tables.exec = Jvm.exec) (hb : c.code = cc) {a b : Int} (hdg : decode cc pc = .ok (.isub, 1)) (k : W p l e R s m args below meth c H locs cells slots Q (F0 m (pc + 1) ls (.int (iI (a - b)) :: rest))) : W p l e R s m args below meth c H locs cells slots Q (F0 m pc ls (.int (iI b) :: .int (iI a) :: rest)) :=
  lv_isub hx hb hdg (by rw [iI_sub]; exact k)
theorem z_imul (hx : p.tables.exec = Jvm.exec) (hb : c.code = cc) {a b : Int} (hdg : decode cc pc = .ok (.imul, 1)) (k : W p l e R s m args below meth c H locs cells slots Q (F0 m (pc + 1) ls (.int (iI (a * b)) :: rest))) : W p l e R s m args below meth c H locs cells slots Q (F0 m pc ls (.int (iI b) :: .int (iI a) :: rest)) :=
  lv_imul hx hb hdg (by rw [iI_mul]; exact k)
theorem z_icmp_eq (hx : p.tables.exec = Jvm.exec) (hb : c.code = cc) {a b : Int} {off : Int} {tgt : Nat} (hdg : decode cc pc = .ok (.if_icmp .eq off, 3)) (ht : (pc : Int) + off = (tgt : Int)) (h : -2147483648 ≤ a ∧ a ≤ 2147483647 ∧ -2147483648 ≤ b ∧ b ≤ 2147483647)
    (kt : a = b → W p l e R s m args below meth c H locs cells slots Q (F0 m tgt ls rest)) (kf : a ≠ b → W p l e R s m args below meth c H locs cells slots Q (F0 m (pc + 3) ls rest)) : W p l e R s m args below meth c H locs cells slots Q (F0 m pc ls (.int (iI b) :: .int (iI a) :: rest)) :=
  lv_icmp_eq hx hb hdg ht (fun q => kt ((iI_eq h).mp q)) (fun q => kf (fun w => q ((iI_eq h).mpr w)))
theorem z_icmp_ne (hx : p.tables.exec = Jvm.exec) (hb : c.code = cc) {a b : Int} {off : Int} {tgt : Nat} (hdg : decode cc pc = .ok (.if_icmp .ne off, 3)) (ht : (pc : Int) + off = (tgt : Int)) (h : -2147483648 ≤ a ∧ a ≤ 2147483647 ∧ -2147483648 ≤ b ∧ b ≤ 2147483647)
    (kt : a ≠ b → W p l e R s m args below meth c H locs cells slots Q (F0 m tgt ls rest)) (kf : a = b → W p l e R s m args below meth c H locs cells slots Q (F0 m (pc + 3) ls rest)) : W p l e R s m args below meth c H locs cells slots Q (F0 m pc ls (.int (iI b) :: .int (iI a) :: rest)) :=
  lv_icmp_ne hx hb hdg ht (fun q => kt (fun w => q ((iI_eq h).mpr w))) (fun q => kf ((iI_eq h).mp q))
theorem z_icmp_lt (hx : p.tables.exec = Jvm.exec) (hb : c.code = cc) {a b : Int} {off : Int} {tgt : Nat} (hdg : decode cc pc = .ok (.if_icmp .lt off, 3)) (ht : (pc : Int) + off = (tgt : Int)) (h : -2147483648 ≤ a ∧ a ≤ 2147483647 ∧ -2147483648 ≤ b ∧ b ≤ 2147483647)
    (kt : a < b → W p l e R s m args below meth c H locs cells slots Q (F0 m tgt ls rest)) (kf : b ≤ a → W p l e R s m args below meth c H locs cells slots Q (F0 m (pc + 3) ls rest)) : W p l e R s m args below meth c H locs cells slots Q (F0 m pc ls (.int (iI b) :: .int (iI a) :: rest)) :=
  lv_icmp_lt hx hb hdg ht (fun q => kt ((iI_lt h).mp q)) (fun q => kf (Int.not_lt.mp (fun w => q ((iI_lt h).mpr w))))
theorem z_icmp_ge (hx : p.tables.exec = Jvm.exec) (hb : c.code = cc) {a b : Int} {off : Int} {tgt : Nat} (hdg : decode cc pc = .ok (.if_icmp .ge off, 3)) (ht : (pc : Int) + off = (tgt : Int)) (h : -2147483648 ≤ a ∧ a ≤ 2147483647 ∧ -2147483648 ≤ b ∧ b ≤ 2147483647)
    (kt : b ≤ a → W p l e R s m args below meth c H locs cells slots Q (F0 m tgt ls rest)) (kf : a < b → W p l e R s m args below meth c H locs cells slots Q (F0 m (pc + 3) ls rest)) : W p l e R s m args below meth c H locs cells slots Q (F0 m pc ls (.int (iI b) :: .int (iI a) :: rest)) :=
  lv_icmp_ge hx hb hdg ht (fun q => kt ((iI_le (by omega)).mp q)) (fun q => kf (Int.not_le.mp (fun w => q ((iI_le (by omega)).mpr w))))
theorem z_icmp_gt (hx : p.tables.exec = Jvm.exec) (hb : c.code = cc) {a b : Int} {off : Int} {tgt : Nat} (hdg : decode cc pc = .ok (.if_icmp .gt off, 3)) (ht : (pc : Int) + off = (tgt : Int)) (h : -2147483648 ≤ a ∧ a ≤ 2147483647 ∧ -2147483648 ≤ b ∧ b ≤ 2147483647)
    (kt : b < a → W p l e R s m args below meth c H locs cells slots Q (F0 m tgt ls rest)) (kf : a ≤ b → W p l e R s m args below meth c H locs cells slots Q (F0 m (pc + 3) ls rest)) : W p l e R s m args below meth c H locs cells slots Q (F0 m pc ls (.int (iI b) :: .int (iI a) :: rest)) :=
  lv_icmp_gt hx hb hdg ht (fun q => kt ((iI_lt (by omega)).mp q)) (fun q => kf (Int.not_lt.mp (fun w => q ((iI_lt (by omega)).mpr w))))
theorem z_icmp_le (hx : p.tables.exec = Jvm.exec) (hb : c.code = cc) {a b : Int} {off : Int} {tgt : Nat} (hdg : decode cc pc = .ok (.if_icmp .le off, 3)) (ht : (pc : Int) + off = (tgt : Int)) (h : -2147483648 ≤ a ∧ a ≤ 2147483647 ∧ -2147483648 ≤ b ∧ b ≤ 2147483647)
    (kt : a ≤ b → W p l e R s m args below meth c H locs cells slots Q (F0 m tgt ls rest)) (kf : b < a → W p l e R s m args below meth c H locs cells slots Q (F0 m (pc + 3) ls rest)) : W p l e R s m args below meth c H locs cells slots Q (F0 m pc ls (.int (iI b) :: .int (iI a) :: rest)) :=
  lv_icmp_le hx hb hdg ht (fun q => kt ((iI_le h).mp q)) (fun q => kf (Int.not_le.mp (fun w => q ((iI_le h).mpr w))))
theorem z_if_eq (hx : p.tables.exec = Jvm.exec) (hb : c.code = cc) {a : Int} {off : Int} {tgt : Nat} (hdg : decode cc pc = .ok (.ifCond .eq off, 3)) (ht : (pc : Int) + off = (tgt : Int)) (h : -2147483648 ≤ a ∧ a ≤ 2147483647)
    (kt : a = 0 → W p l e R s m args below meth c H locs cells slots Q (F0 m tgt ls rest)) (kf : a ≠ 0 → W p l e R s m args below meth c H locs cells slots Q (F0 m (pc + 3) ls rest)) : W p l e R s m args below meth c H locs cells slots Q (F0 m pc ls (.int (iI a) :: rest)) :=
  lv_if_eq hx hb hdg ht (fun q => kt (by rw [iI_0] at q; exact (iI_eq ⟨h.1, h.2, by omega, by omega⟩).mp q)) (fun q => kf (fun w => q (by rw [iI_0]; exact (iI_eq ⟨h.1, h.2, by omega, by omega⟩).mpr w)))
theorem z_if_ne (hx : p.tables.exec = Jvm.exec) (hb : c.code = cc) {a : Int} {off : Int} {tgt : Nat} (hdg : decode cc pc = .ok (.ifCond .ne off, 3)) (ht : (pc : Int) + off = (tgt : Int)) (h : -2147483648 ≤ a ∧ a ≤ 2147483647)
    (kt : a ≠ 0 → W p l e R s m args below meth c H locs cells slots Q (F0 m tgt ls rest)) (kf : a = 0 → W p l e R s m args below meth c H locs cells slots Q (F0 m (pc + 3) ls rest)) : W p l e R s m args below meth c H locs cells slots Q (F0 m pc ls (.int (iI a) :: rest)) :=
  lv_if_ne hx hb hdg ht (fun q => kt (fun w => q (by rw [iI_0]; exact (iI_eq ⟨h.1, h.2, by omega, by omega⟩).mpr w))) (fun q => kf (by rw [iI_0] at q; exact (iI_eq ⟨h.1, h.2, by omega, by omega⟩).mp q))
theorem z_if_lt (hx : p.tables.exec = Jvm.exec) (hb : c.code = cc) {a : Int} {off : Int} {tgt : Nat} (hdg : decode cc pc = .ok (.ifCond .lt off, 3)) (ht : (pc : Int) + off = (tgt : Int)) (h : -2147483648 ≤ a ∧ a ≤ 2147483647)
    (kt : a < 0 → W p l e R s m args below meth c H locs cells slots Q (F0 m tgt ls rest)) (kf : 0 ≤ a → W p l e R s m args below meth c H locs cells slots Q (F0 m (pc + 3) ls rest)) : W p l e R s m args below meth c H locs cells slots Q (F0 m pc ls (.int (iI a) :: rest)) :=
  lv_if_lt hx hb hdg ht (fun q => kt (by rw [iI_0] at q; exact (iI_lt ⟨h.1, h.2, by omega, by omega⟩).mp q)) (fun q => kf (Int.not_lt.mp (fun w => q (by rw [iI_0]; exact (iI_lt ⟨h.1, h.2, by omega, by omega⟩).mpr w))))
theorem z_if_ge (hx : p.tables.exec = Jvm.exec) (hb : c.code = cc) {a : Int} {off : Int} {tgt : Nat} (hdg : decode cc pc = .ok (.ifCond .ge off, 3)) (ht : (pc : Int) + off = (tgt : Int)) (h : -2147483648 ≤ a ∧ a ≤ 2147483647)
    (kt : 0 ≤ a → W p l e R s m args below meth c H locs cells slots Q (F0 m tgt ls rest)) (kf : a < 0 → W p l e R s m args below meth c H locs cells slots Q (F0 m (pc + 3) ls rest)) : W p l e R s m args below meth c H locs cells slots Q (F0 m pc ls (.int (iI a) :: rest)) :=
  lv_if_ge hx hb hdg ht (fun q => kt (by rw [iI_0] at q; exact (iI_le ⟨by omega, by omega, h.1, h.2⟩).mp q)) (fun q => kf (Int.not_le.mp (fun w => q (by rw [iI_0]; exact (iI_le ⟨by omega, by omega, h.1, h.2⟩).mpr w))))
theorem z_if_gt (hx : p.tables.exec = Jvm.exec) (hb : c.code = cc) {a : Int} {off : Int} {tgt : Nat} (hdg : decode cc pc = .ok (.ifCond .gt off, 3)) (ht : (pc : Int) + off = (tgt : Int)) (h : -2147483648 ≤ a ∧ a ≤ 2147483647)
    (kt : 0 < a → W p l e R s m args below meth c H locs cells slots Q (F0 m tgt ls rest)) (kf : a ≤ 0 → W p l e R s m args below meth c H locs cells slots Q (F0 m (pc + 3) ls rest)) : W p l e R s m args below meth c H locs cells slots Q (F0 m pc ls (.int (iI a) :: rest)) :=
  lv_if_gt hx hb hdg ht (fun q => kt (by rw [iI_0] at q; exact (iI_lt ⟨by omega, by omega, h.1, h.2⟩).mp q)) (fun q => kf (Int.not_lt.mp (fun w => q (by rw [iI_0]; exact (iI_lt ⟨by omega, by omega, h.1, h.2⟩).mpr w))))
theorem z_if_le (hx : p.tables.exec = Jvm.exec) (hb : c.code = cc) {a : Int} {off : Int} {tgt : Nat} (hdg : decode cc pc = .ok (.ifCond .le off, 3)) (ht : (pc : Int) + off = (tgt : Int)) (h : -2147483648 ≤ a ∧ a ≤ 2147483647)
    (kt : a ≤ 0 → W p l e R s m args below meth c H locs cells slots Q (F0 m tgt ls rest)) (kf : 0 < a → W p l e R s m args below meth c H locs cells slots Q (F0 m (pc + 3) ls rest)) : W p l e R s m args below meth c H locs cells slots Q (F0 m pc ls (.int (iI a) :: rest)) :=
  lv_if_le hx hb hdg ht (fun q => kt (by rw [iI_0] at q; exact (iI_le ⟨h.1, h.2, by omega, by omega⟩).mp q)) (fun q => kf (Int.not_le.mp (fun w => q (by rw [iI_0]; exact (iI_le ⟨h.1, h.2, by omega, by omega⟩).mpr w))))
theorem z_ineg (hx : p.tables.exec = Jvm.exec) (hb : c.code = cc) {a : Int} (hdg : decode cc pc = .ok (.ineg, 1)) (k : W p l e R s m args below meth c H locs cells slots Q (F0 m (pc + 1) ls (.int (iI (-a)) :: rest))) : W p l e R s m args below meth c H locs cells slots Q (F0 m pc ls (.int (iI a) :: rest)) :=
  lv_ineg hx hb hdg (by rw [show -iI a = iI (-a) from (Int32.ofInt_neg a).symm]; exact k)
theorem z_iinc (hx : p.tables.exec = Jvm.exec) (hb : c.code = cc) {i nL k : Nat} {n : Int} {a b : Int} {lv lv' : List (Nat × Value)} (hdg : decode cc pc = .ok (.iinc i n, 3)) (h : lv_has ls nL lv) (hk : lv[k]? = some (i, .int (iI a))) (hv : a + n = b) (hn : i < nL) (hl : (i, Value.int (iI b)) :: lv.filter (fun q => !(q.1 == i) && !(q.1 + 1 == i && q.2.category == 2)) = lv')
    (kk : ∀ ls' : Array Slot, lv_has ls' nL lv' → W p l e R s m args below meth c H locs cells slots Q (F0 m (pc + 3) ls' rest)) : W p l e R s m args below meth c H locs cells slots Q (F0 m pc ls rest) :=
  lv_iinc (v := iI b) hx hb hdg h hk (by rw [show Int32.ofInt n = iI n from rfl, iI_add, hv]) hn hl kk
end ZR
section ZA
variable {p : Program} {l : Launch} {e : Env} {R : Room} {s : State} {m : MethodId} {args : Array Value} {below : List Frame} {meth : Method} {c : Code} {H : Heap} {locs : List Loc} {cells slots : Nat} {Q : State → Prop} {cc : ByteArray} {pc : Nat} {ls : Array Slot} {rest : List Value}
variable {D : va_G} {cl : List vw_C} {tys : List (ClassId × FieldType)} {ws : va_W} {A : Nat → Prop} {H0 : Heap} {a : Nat} {cA : ClassId} {n : Nat} {F : Nat → Int}
theorem z_iald (hx : p.tables.exec = Jvm.exec) (hb : c.code = cc) (hK : va_K D cl tys s) (hP : va_P D cl ws H) (q0 t0 : Nat) (ha : ws[q0]? = some (a, .inl (cA, n, .inl (iA F)))) (ht : tys[t0]? = some (cA, .int)) {z : Int} (k : Nat) (h : z = (k : Int) ∧ k < n ∧ n ≤ 2147483647) (hdg : decode cc pc = .ok (.iaload, 1))
    (kk : W p l e R s m args below meth c H locs cells slots Q (F0 m (pc + 1) ls (.int (iI (F k)) :: rest))) : W p l e R s m args below meth c H locs cells slots Q (F0 m pc ls (.int (iI z) :: .ref a :: rest)) :=
  va_iald hx hb hK hP q0 t0 ha ht (iI_in h) hdg (by rw [iI_cl h.1 (by omega)]; exact kk)
theorem z_iast (hx : p.tables.exec = Jvm.exec) (hb : c.code = cc) (hK : va_K D cl tys s) (hP : va_P D cl ws H) (hD : va_D A ws) (hS : va_S A H0 H locs) (q0 t0 : Nat) (ha : ws[q0]? = some (a, .inl (cA, n, .inl (iA F)))) (ht : tys[t0]? = some (cA, .int)) {z v : Int} (k : Nat) (h : z = (k : Int) ∧ k < n ∧ n ≤ 2147483647) (hdg : decode cc pc = .ok (.iastore, 1))
    (kk : ∀ (H1 : Heap) (locs1 : List Loc), va_P D cl (ws.set q0 (a, .inl (cA, n, .inl (iA (zU F k v))))) H1 → va_D A (ws.set q0 (a, .inl (cA, n, .inl (iA (zU F k v))))) → va_S A H0 H1 locs1 → W p l e R s m args below meth c H1 locs1 cells slots Q (F0 m (pc + 1) ls rest)) : W p l e R s m args below meth c H locs cells slots Q (F0 m pc ls (.int (iI v) :: .int (iI z) :: .ref a :: rest)) :=
  va_iast hx hb hK hP hD hS q0 t0 ha ht (iI_in h) hdg (by rw [iI_cl h.1 (by omega), iA_upd]; exact kk)
theorem z_alen (hx : p.tables.exec = Jvm.exec) (hb : c.code = cc) (hK : va_K D cl tys s) (hP : va_P D cl ws H) (q0 t0 : Nat) (ha : ws[q0]? = some (a, .inl (cA, n, .inl (iA F)))) (ht : tys[t0]? = some (cA, .int)) (hdg : decode cc pc = .ok (.arraylength, 1))
    (kk : W p l e R s m args below meth c H locs cells slots Q (F0 m (pc + 1) ls (.int (iI (n : Int)) :: rest))) : W p l e R s m args below meth c H locs cells slots Q (F0 m pc ls (.ref a :: rest)) :=
  va_alen (x := (n, .inl (iA F))) hx hb hK hP q0 t0 ha ht (iI_nat n) hdg kk
theorem z_max (hx : p.tables.exec = Jvm.exec) (hb : c.code = cc) (hml : c.maxLocals = ls.size) {own : String} {index : Nat} (hown : s.vm.findClass own = some m.cls) (hlink : (Cond.methodLink own index Lib.Math.max.name).before args s = true) (hstat : (Cond.static Lib.Math.max.name).before args s = true) (hini : (Cond.initialized "java/lang/Math").before args s = true) (hcode : (Cond.code Lib.Math.max.name Lib.Math.max.code 2 (some .int)).before args s = true)
    (hframes : 1 ≤ R.frames) (hlocals : (rest.map fun v => v.category).sum + 13 ≤ R.locals) (hc : cells ≤ R.cells) (hs : slots ≤ R.slots) {x y : Int} (h : -2147483648 ≤ x ∧ x ≤ 2147483647 ∧ -2147483648 ≤ y ∧ y ≤ 2147483647) (hdg : decode cc pc = .ok (.invokestatic index, 3))
    (kk : W p l e R s m args below meth c H locs cells slots Q (F0 m (pc + 3) ls (.int (iI (max x y)) :: rest))) : W p l e R s m args below meth c H locs cells slots Q (F0 m pc ls (.int (iI y) :: .int (iI x) :: rest)) :=
  va_mmax hx hb hml hown hlink hstat hini hcode hframes hlocals hc hs hdg (by
    have q : (if iI x < iI y then iI y else iI x) = iI (max x y) := by
      by_cases g : x < y
      · rw [if_pos ((iI_lt h).mpr g), Int.max_eq_right (by omega)]
      · rw [if_neg (fun w => g ((iI_lt h).mp w)), Int.max_eq_left (by omega)]
    rw [q]; exact kk)
theorem z_min (hx : p.tables.exec = Jvm.exec) (hb : c.code = cc) (hml : c.maxLocals = ls.size) {own : String} {index : Nat} (hown : s.vm.findClass own = some m.cls) (hlink : (Cond.methodLink own index Lib.Math.min.name).before args s = true) (hstat : (Cond.static Lib.Math.min.name).before args s = true) (hini : (Cond.initialized "java/lang/Math").before args s = true) (hcode : (Cond.code Lib.Math.min.name Lib.Math.min.code 2 (some .int)).before args s = true)
    (hframes : 1 ≤ R.frames) (hlocals : (rest.map fun v => v.category).sum + 13 ≤ R.locals) (hc : cells ≤ R.cells) (hs : slots ≤ R.slots) {x y : Int} (h : -2147483648 ≤ x ∧ x ≤ 2147483647 ∧ -2147483648 ≤ y ∧ y ≤ 2147483647) (hdg : decode cc pc = .ok (.invokestatic index, 3))
    (kk : W p l e R s m args below meth c H locs cells slots Q (F0 m (pc + 3) ls (.int (iI (min x y)) :: rest))) : W p l e R s m args below meth c H locs cells slots Q (F0 m pc ls (.int (iI y) :: .int (iI x) :: rest)) :=
  va_mmin hx hb hml hown hlink hstat hini hcode hframes hlocals hc hs hdg (by
    have q : (if iI y < iI x then iI y else iI x) = iI (min x y) := by
      by_cases g : y < x
      · rw [if_pos ((iI_lt (by omega)).mpr g), Int.min_eq_right (by omega)]
      · rw [if_neg (fun w => g ((iI_lt (by omega)).mp w)), Int.min_eq_left (by omega)]
    rw [q]; exact kk)
theorem z_copy (hx : p.tables.exec = Jvm.exec) (hb : c.code = cc) (hml : c.maxLocals = ls.size) {own : String} {index : Nat} (hown : s.vm.findClass own = some m.cls) (hlink : (Cond.methodLink own index arraycopyName).before args s = true) (hnat : (Cond.native arraycopyName).before args s = true) (hstat : (Cond.static arraycopyName).before args s = true) (hini : (Cond.initialized "java/lang/System").before args s = true)
    (hK : va_K D cl tys s) (hP : va_P D cl ws H) (hD : va_D A ws) (hS : va_S A H0 H locs) (q0 q1 t0 : Nat) {a0 n0 : Nat} {G : Nat → Int} (ha0 : ws[q0]? = some (a0, .inl (cA, n0, .inl (iA G)))) (ha1 : ws[q1]? = some (a, .inl (cA, n, .inl (iA F)))) (ht0 : tys[t0]? = some (cA, .int))
    {sp dp nn : Int} (sk dk nk : Nat) (h : sp = (sk : Int) ∧ dp = (dk : Int) ∧ nn = (nk : Int) ∧ sk + nk ≤ n0 ∧ dk + nk ≤ n ∧ n0 ≤ 2147483647 ∧ n ≤ 2147483647)
    (hframes : 1 ≤ R.frames) (hlocals : (rest.map fun v => v.category).sum + (nativeFrameWords "java/lang/System" "arraycopy" 5 + 11) ≤ R.locals) (hdg : decode cc pc = .ok (.invokestatic index, 3))
    (kk : ∀ (H1 : Heap) (locs1 : List Loc), va_P D cl (ws.set q1 (a, .inl (cA, n, .inl (iA (zC G F sk dk nk))))) H1 → va_D A (ws.set q1 (a, .inl (cA, n, .inl (iA (zC G F sk dk nk))))) → va_S A H0 H1 locs1 → W p l e R s m args below meth c H1 locs1 cells slots Q (F0 m (pc + 3) ls rest)) : W p l e R s m args below meth c H locs cells slots Q (F0 m pc ls (.int (iI nn) :: .int (iI dp) :: .ref a :: .int (iI sp) :: .ref a0 :: rest)) := by
  obtain ⟨h1, h2, h3, h4, h5, h6, h7⟩ := h
  have nz : ∀ {z : Int} {k : Nat}, z = (k : Int) → k ≤ 2147483647 → ¬ iI z < 0 := by
    intro z k q1 q2 q3
    rw [iI_0, iI_lt (by omega)] at q3
    omega
  refine va_copyi (ty := .int) hx hb hml hown hlink hnat hstat hini hK hP hD hS q0 q1 t0 t0 ha0 ha1 ht0 ht0 rfl (nz h1 (by omega)) (nz h2 (by omega)) (nz h3 (by omega)) ?_ ?_ (fun _ _ => rfl) hframes hlocals hdg ?_
  · rw [iI_cl h1 (by omega), iI_cl h3 (by omega)]; exact h4
  · rw [iI_cl h2 (by omega), iI_cl h3 (by omega)]; exact h5
  · rw [iI_cl h1 (by omega), iI_cl h2 (by omega), iI_cl h3 (by omega), iA_cpy]; exact kk
end ZA
end
section
def RX0 : String := "WarpSearch$Comparison"
def RX1 : String := "WarpSearch$Nearest"
def RX2 : String := "WarpSearch"
def RX3 : String := "WarpSearchModel"
def RL : String := "WarpSearchLaw"
def RJ7 : String := "java/util/Arrays"
def TX0 : u_T := fun k => match k with
  | 0 => ("WarpSearch$Comparison", "question", "[I", true)
  | 1 => ("WarpSearch$Comparison", "row", "[I", true)
  | 2 => ("WarpSearch$Comparison", "costs", "[I", true)
  | 3 => ("WarpSearch$Comparison", "path", "[I", true)
  | 4 => ("WarpSearch$Comparison", "pathStart", "I", false)
  | 5 => ("WarpSearch$Comparison", "length", "I", false)
  | _ => ("WarpSearch$Comparison", "width", "I", false)
def tyX0 : Nat → FieldType := fun k => match k with
  | 0 => .array .int
  | 1 => .array .int
  | 2 => .array .int
  | 3 => .array .int
  | 4 => .int
  | 5 => .int
  | _ => .int
theorem nmX0 : ∀ a, a < 7 → ∀ b, b < 7 → a ≠ b → (TX0 a).2.1 ≠ (TX0 b).2.1 := by decide +kernel
theorem tyX0_ok : ∀ k, k < 7 → parseFieldDescriptor (TX0 k).2.2.1 = some (tyX0 k) := by decide +kernel
def TX1 : u_T := fun k => match k with
  | 0 => ("WarpSearch$Nearest", "places", "[I", true)
  | 1 => ("WarpSearch$Nearest", "distances", "[I", true)
  | 2 => ("WarpSearch$Nearest", "size", "I", false)
  | _ => ("WarpSearch$Nearest", "wanted", "I", false)
def tyX1 : Nat → FieldType := fun k => match k with
  | 0 => .array .int
  | 1 => .array .int
  | 2 => .int
  | _ => .int
theorem nmX1 : ∀ a, a < 4 → ∀ b, b < 4 → a ≠ b → (TX1 a).2.1 ≠ (TX1 b).2.1 := by decide +kernel
theorem tyX1_ok : ∀ k, k < 4 → parseFieldDescriptor (TX1 k).2.2.1 = some (tyX1 k) := by decide +kernel
def TX2 : u_T := fun k => match k with
  | 0 => ("WarpSearch", "length", "I", false)
  | 1 => ("WarpSearch", "width", "I", false)
  | 2 => ("WarpSearch", "question", "[I", true)
  | 3 => ("WarpSearch", "rows", "[I", true)
  | 4 => ("WarpSearch", "labels", "[I", true)
  | 5 => ("WarpSearch", "rowCount", "I", false)
  | 6 => ("WarpSearch", "stream", "[I", true)
  | 7 => ("WarpSearch", "streamCount", "I", false)
  | 8 => ("WarpSearch", "comparison", "LWarpSearch$Comparison;", true)
  | 9 => ("WarpSearch", "nearest", "LWarpSearch$Nearest;", true)
  | _ => ("WarpSearch", "counts", "[I", true)
def tyX2 : Nat → FieldType := fun k => match k with
  | 0 => .int
  | 1 => .int
  | 2 => .array .int
  | 3 => .array .int
  | 4 => .array .int
  | 5 => .int
  | 6 => .array .int
  | 7 => .int
  | 8 => .object "WarpSearch$Comparison"
  | 9 => .object "WarpSearch$Nearest"
  | _ => .array .int
theorem nmX2 : ∀ a, a < 11 → ∀ b, b < 11 → a ≠ b → (TX2 a).2.1 ≠ (TX2 b).2.1 := by decide +kernel
theorem tyX2_ok : ∀ k, k < 11 → parseFieldDescriptor (TX2 k).2.2.1 = some (tyX2 k) := by decide +kernel
def TX3 : u_T := fun k => match k with
  | 0 => ("WarpSearchModel", "code", "I", false)
  | 1 => ("WarpSearchModel", "n", "I", false)
  | 2 => ("WarpSearchModel", "w", "I", false)
  | 3 => ("WarpSearchModel", "question", "[I", false)
  | 4 => ("WarpSearchModel", "rows", "I", false)
  | 5 => ("WarpSearchModel", "numbers", "[I", false)
  | 6 => ("WarpSearchModel", "labels", "[I", false)
  | 7 => ("WarpSearchModel", "length", "I", false)
  | 8 => ("WarpSearchModel", "stream", "[I", false)
  | 9 => ("WarpSearchModel", "row", "[I", false)
  | 10 => ("WarpSearchModel", "grid", "[I", false)
  | 11 => ("WarpSearchModel", "path", "[I", false)
  | 12 => ("WarpSearchModel", "most", "I", false)
  | 13 => ("WarpSearchModel", "found", "I", false)
  | 14 => ("WarpSearchModel", "places", "[I", false)
  | 15 => ("WarpSearchModel", "distances", "[I", false)
  | _ => ("WarpSearchModel", "counts", "[I", false)
def tyX3 : Nat → FieldType := fun k => match k with
  | 0 => .int
  | 1 => .int
  | 2 => .int
  | 3 => .array .int
  | 4 => .int
  | 5 => .array .int
  | 6 => .array .int
  | 7 => .int
  | 8 => .array .int
  | 9 => .array .int
  | 10 => .array .int
  | 11 => .array .int
  | 12 => .int
  | 13 => .int
  | 14 => .array .int
  | 15 => .array .int
  | _ => .array .int
theorem nmX3 : ∀ a, a < 17 → ∀ b, b < 17 → a ≠ b → (TX3 a).2.1 ≠ (TX3 b).2.1 := by decide +kernel
theorem tyX3_ok : ∀ k, k < 17 → parseFieldDescriptor (TX3 k).2.2.1 = some (tyX3 k) := by decide +kernel
abbrev vwCl : List vw_C := [(RX0, TX0, 7), (RX1, TX1, 4), (RX2, TX2, 11), (RX3, TX3, 17)]
/-- the words that every contract of mine may use: the good ones of the tables -/
def WA : List Cond := lw_tbl.filter goodWord
theorem wa_in {i : Nat} {w : Cond} (h : lw_tbl[i]? = some w) (hg : goodWord w = true) : w ∈ WA := List.mem_filter.mpr ⟨List.mem_of_getElem? h, hg⟩
theorem wa_good {w : Cond} (h : w ∈ WA) : (w.onTables && w.keeps) = true ∨ ∃ ty, w = .arrayClass ty := good_of_word (List.mem_filter.mp h).2
theorem ga_V {x : Cond} {own C : String} {index : Nat} {y : MethodName} {cc : ByteArray} {n : Nat} {r : Option FieldType} (h2 : Cond.methodLink own index y ∈ WA) (h3 : Cond.instanceMethod y ∈ WA) (h4 : Cond.selects C y y ∈ WA) (h1 : Cond.initialized C ∈ WA) (h5 : Cond.code y cc n r ∈ WA) : GoodIn (x :: WA) (wsV own index C y (.code y cc n r :: WA)) := by
  have key : ∀ w ∈ wsV own index C y (.code y cc n r :: WA), w ∈ WA := by
    intro w hw
    simp only [wsV, List.mem_append, List.mem_cons, List.not_mem_nil, or_false] at hw
    rcases hw with (rfl | rfl | rfl | rfl) | rfl | hw
    · exact h2
    · exact h3
    · exact h4
    · exact h1
    · exact h5
    · exact hw
  exact fun w hw => ⟨List.mem_cons_of_mem _ (key w hw), wa_good (key w hw)⟩
theorem ga_S {x : Cond} {own : String} {index : Nat} {y : MethodName} {cc : ByteArray} {n : Nat} {r : Option FieldType} (h2 : Cond.methodLink own index y ∈ WA) (h3 : Cond.static y ∈ WA) (h1 : Cond.initialized own ∈ WA) (h5 : Cond.code y cc n r ∈ WA) : GoodIn (x :: WA) (wsS own index y (.code y cc n r :: WA)) := by
  have key : ∀ w ∈ wsS own index y (.code y cc n r :: WA), w ∈ WA := by
    intro w hw
    simp only [wsS, List.mem_append, List.mem_cons, List.not_mem_nil, or_false] at hw
    rcases hw with (rfl | rfl | rfl) | rfl | hw
    · exact h2
    · exact h3
    · exact h1
    · exact h5
    · exact hw
  exact fun w hw => ⟨List.mem_cons_of_mem _ (key w hw), wa_good (key w hw)⟩
theorem wa_hts {x : Cond} {args : Array Value} {s : State} (hts : ∀ w ∈ x :: WA, w.before args s = true) {w : Cond} (h : w ∈ WA) : w.before args s = true := hts w (List.mem_cons_of_mem _ h)
abbrev cX2_init : ByteArray := prog_1_method_1_code
def yX2_init : MethodName := ⟨RX2, "<init>", "()V"⟩
abbrev wsX2_init : List Cond := .code yX2_init cX2_init 1 none :: WA
abbrev cX0_init : ByteArray := prog_2_method_1_code
def yX0_init : MethodName := ⟨RX0, "<init>", "()V"⟩
abbrev wsX0_init : List Cond := .code yX0_init cX0_init 1 none :: WA
abbrev cX1_init : ByteArray := prog_3_method_1_code
def yX1_init : MethodName := ⟨RX1, "<init>", "()V"⟩
abbrev wsX1_init : List Cond := .code yX1_init cX1_init 1 none :: WA
abbrev cL_begin : ByteArray := method_3_code
def yL_begin : MethodName := ⟨RL, "begin", "(LWarpSearch;I)I"⟩
abbrev wsL_begin : List Cond := .codeWith yL_begin cL_begin 3 (some .int) [(0, 5, 8, 13)] :: WA
abbrev cX2_begin : ByteArray := prog_1_method_2_code
def yX2_begin : MethodName := ⟨RX2, "begin", "(I)V"⟩
abbrev wsX2_begin : List Cond := .code yX2_begin cX2_begin 2 none :: WA
abbrev cJ7_fill : ByteArray := prog_15_method_103_code
def yJ7_fill : MethodName := ⟨RJ7, "fill", "([II)V"⟩
abbrev wsJ7_fill : List Cond := .code yJ7_fill cJ7_fill 4 none :: WA
abbrev cX1_startFor : ByteArray := prog_3_method_2_code
def yX1_startFor : MethodName := ⟨RX1, "startFor", "(I)V"⟩
abbrev wsX1_startFor : List Cond := .code yX1_startFor cX1_startFor 2 none :: WA
abbrev cL_ask : ByteArray := method_4_code
def yL_ask : MethodName := ⟨RL, "ask", "(LWarpSearch;II[J)I"⟩
abbrev wsL_ask : List Cond := .codeWith yL_ask cL_ask 5 (some .int) [(0, 10, 13, 19), (0, 10, 17, 13)] :: WA
abbrev cX2_ask : ByteArray := prog_1_method_3_code
def yX2_ask : MethodName := ⟨RX2, "ask", "(II)I"⟩
abbrev wsX2_ask : List Cond := .code yX2_ask cX2_ask 4 (some .int) :: WA
abbrev cX2_isValue : ByteArray := prog_1_method_18_code
def yX2_isValue : MethodName := ⟨RX2, "isValue", "(I)Z"⟩
abbrev wsX2_isValue : List Cond := .code yX2_isValue cX2_isValue 1 (some .boolean) :: WA
abbrev cL_keep : ByteArray := method_5_code
def yL_keep : MethodName := ⟨RL, "keep", "(LWarpSearch;I[J)I"⟩
abbrev wsL_keep : List Cond := .codeWith yL_keep cL_keep 4 (some .int) [(0, 9, 12, 13), (0, 9, 15, 25)] :: WA
abbrev cX2_keep : ByteArray := prog_1_method_4_code
def yX2_keep : MethodName := ⟨RX2, "keep", "(I)I"⟩
abbrev wsX2_keep : List Cond := .code yX2_keep cX2_keep 3 (some .int) :: WA
abbrev cL_recall : ByteArray := method_6_code
def yL_recall : MethodName := ⟨RL, "recall", "(LWarpSearch;I)I"⟩
abbrev wsL_recall : List Cond := .codeWith yL_recall cL_recall 3 (some .int) [(0, 5, 8, 19)] :: WA
abbrev cX2_recall : ByteArray := prog_1_method_5_code
def yX2_recall : MethodName := ⟨RX2, "recall", "(I)V"⟩
abbrev wsX2_recall : List Cond := .code yX2_recall cX2_recall 2 none :: WA
abbrev cX2_checkRow : ByteArray := prog_1_method_19_code
def yX2_checkRow : MethodName := ⟨RX2, "checkRow", "(I)V"⟩
abbrev wsX2_checkRow : List Cond := .code yX2_checkRow cX2_checkRow 2 none :: WA
abbrev cL_band : ByteArray := method_7_code
def yL_band : MethodName := ⟨RL, "band", "(LWarpSearch;I[J)I"⟩
abbrev wsL_band : List Cond := .codeWith yL_band cL_band 4 (some .int) [(0, 9, 12, 13)] :: WA
abbrev cX2_band : ByteArray := prog_1_method_6_code
def yX2_band : MethodName := ⟨RX2, "band", "(I)I"⟩
abbrev wsX2_band : List Cond := .code yX2_band cX2_band 3 (some .int) :: WA
abbrev cL_distance : ByteArray := method_8_code
def yL_distance : MethodName := ⟨RL, "distance", "(LWarpSearch;I[J)I"⟩
abbrev wsL_distance : List Cond := .codeWith yL_distance cL_distance 4 (some .int) [(0, 9, 12, 19)] :: WA
abbrev cX2_distance : ByteArray := prog_1_method_7_code
def yX2_distance : MethodName := ⟨RX2, "distance", "(I)I"⟩
abbrev wsX2_distance : List Cond := .code yX2_distance cX2_distance 2 (some .int) :: WA
abbrev cX2_placeRow : ByteArray := prog_1_method_22_code
def yX2_placeRow : MethodName := ⟨RX2, "placeRow", "(I)V"⟩
abbrev wsX2_placeRow : List Cond := .code yX2_placeRow cX2_placeRow 2 none :: WA
abbrev cX0_placeQuestion : ByteArray := prog_2_method_2_code
def yX0_placeQuestion : MethodName := ⟨RX0, "placeQuestion", "([III)V"⟩
abbrev wsX0_placeQuestion : List Cond := .code yX0_placeQuestion cX0_placeQuestion 4 none :: WA
abbrev cX0_placeBeside : ByteArray := prog_2_method_3_code
def yX0_placeBeside : MethodName := ⟨RX0, "placeBeside", "([II)V"⟩
abbrev wsX0_placeBeside : List Cond := .code yX0_placeBeside cX0_placeBeside 3 none :: WA
abbrev cX0_leastCost : ByteArray := prog_2_method_7_code
def yX0_leastCost : MethodName := ⟨RX0, "leastCost", "(I)I"⟩
abbrev wsX0_leastCost : List Cond := .code yX0_leastCost cX0_leastCost 4 (some .int) :: WA
abbrev cX0_fillLine : ByteArray := prog_2_method_8_code
def yX0_fillLine : MethodName := ⟨RX0, "fillLine", "(I)I"⟩
abbrev wsX0_fillLine : List Cond := .code yX0_fillLine cX0_fillLine 6 (some .int) :: WA
abbrev cX0_lastInBand : ByteArray := prog_2_method_14_code
def yX0_lastInBand : MethodName := ⟨RX0, "lastInBand", "(I)I"⟩
abbrev wsX0_lastInBand : List Cond := .code yX0_lastInBand cX0_lastInBand 2 (some .int) :: WA
abbrev cX0_firstInBand : ByteArray := prog_2_method_13_code
def yX0_firstInBand : MethodName := ⟨RX0, "firstInBand", "(I)I"⟩
abbrev wsX0_firstInBand : List Cond := .code yX0_firstInBand cX0_firstInBand 2 (some .int) :: WA
abbrev cX0_leastBefore : ByteArray := prog_2_method_9_code
def yX0_leastBefore : MethodName := ⟨RX0, "leastBefore", "(II)I"⟩
abbrev wsX0_leastBefore : List Cond := .code yX0_leastBefore cX0_leastBefore 3 (some .int) :: WA
abbrev cX0_costAt : ByteArray := prog_2_method_10_code
def yX0_costAt : MethodName := ⟨RX0, "costAt", "(II)I"⟩
abbrev wsX0_costAt : List Cond := .code yX0_costAt cX0_costAt 4 (some .int) :: WA
abbrev cX0_square : ByteArray := prog_2_method_15_code
def yX0_square : MethodName := ⟨RX0, "square", "(I)I"⟩
abbrev wsX0_square : List Cond := .code yX0_square cX0_square 1 (some .int) :: WA
abbrev cL_bound : ByteArray := method_9_code
def yL_bound : MethodName := ⟨RL, "bound", "(LWarpSearch;II[J)I"⟩
abbrev wsL_bound : List Cond := .codeWith yL_bound cL_bound 5 (some .int) [(0, 10, 13, 19), (0, 10, 17, 13)] :: WA
abbrev cX2_bound : ByteArray := prog_1_method_8_code
def yX2_bound : MethodName := ⟨RX2, "bound", "(II)I"⟩
abbrev wsX2_bound : List Cond := .code yX2_bound cX2_bound 3 (some .int) :: WA
abbrev cX0_lowerBound : ByteArray := prog_2_method_4_code
def yX0_lowerBound : MethodName := ⟨RX0, "lowerBound", "(I)I"⟩
abbrev wsX0_lowerBound : List Cond := .code yX0_lowerBound cX0_lowerBound 2 (some .int) :: WA
abbrev cX0_hullBound : ByteArray := prog_2_method_5_code
def yX0_hullBound : MethodName := ⟨RX0, "hullBound", "([I[I)I"⟩
abbrev wsX0_hullBound : List Cond := .code yX0_hullBound cX0_hullBound 9 (some .int) :: WA
abbrev cX0_gap : ByteArray := prog_2_method_6_code
def yX0_gap : MethodName := ⟨RX0, "gap", "(III)I"⟩
abbrev wsX0_gap : List Cond := .code yX0_gap cX0_gap 3 (some .int) :: WA
abbrev cL_steps : ByteArray := method_10_code
def yL_steps : MethodName := ⟨RL, "steps", "(LWarpSearch;I[J)I"⟩
abbrev wsL_steps : List Cond := .codeWith yL_steps cL_steps 4 (some .int) [(0, 9, 12, 19)] :: WA
abbrev cX2_steps : ByteArray := prog_1_method_9_code
def yX2_steps : MethodName := ⟨RX2, "steps", "(I)I"⟩
abbrev wsX2_steps : List Cond := .code yX2_steps cX2_steps 2 (some .int) :: WA
abbrev cX0_tracePath : ByteArray := prog_2_method_11_code
def yX0_tracePath : MethodName := ⟨RX0, "tracePath", "()I"⟩
abbrev wsX0_tracePath : List Cond := .code yX0_tracePath cX0_tracePath 9 (some .int) :: WA
abbrev cL_pair : ByteArray := method_11_code
def yL_pair : MethodName := ⟨RL, "pair", "(LWarpSearch;II[J)I"⟩
abbrev wsL_pair : List Cond := .codeWith yL_pair cL_pair 5 (some .int) [(0, 10, 13, 19)] :: WA
abbrev cX2_pair : ByteArray := prog_1_method_10_code
def yX2_pair : MethodName := ⟨RX2, "pair", "(II)I"⟩
abbrev wsX2_pair : List Cond := .code yX2_pair cX2_pair 4 (some .int) :: WA
abbrev cX0_pairOfPath : ByteArray := prog_2_method_12_code
def yX0_pairOfPath : MethodName := ⟨RX0, "pairOfPath", "(I)I"⟩
abbrev wsX0_pairOfPath : List Cond := .code yX0_pairOfPath cX0_pairOfPath 2 (some .int) :: WA
abbrev cL_search : ByteArray := method_12_code
def yL_search : MethodName := ⟨RL, "search", "(LWarpSearch;I[J)I"⟩
abbrev wsL_search : List Cond := .codeWith yL_search cL_search 4 (some .int) [(0, 9, 12, 13), (0, 9, 15, 25)] :: WA
abbrev cX2_search : ByteArray := prog_1_method_11_code
def yX2_search : MethodName := ⟨RX2, "search", "(I)I"⟩
abbrev wsX2_search : List Cond := .code yX2_search cX2_search 2 (some .int) :: WA
abbrev cX2_checkWanted : ByteArray := prog_1_method_21_code
def yX2_checkWanted : MethodName := ⟨RX2, "checkWanted", "(I)V"⟩
abbrev wsX2_checkWanted : List Cond := .code yX2_checkWanted cX2_checkWanted 1 none :: WA
abbrev cX2_checkAnyRow : ByteArray := prog_1_method_20_code
def yX2_checkAnyRow : MethodName := ⟨RX2, "checkAnyRow", "()V"⟩
abbrev wsX2_checkAnyRow : List Cond := .code yX2_checkAnyRow cX2_checkAnyRow 1 none :: WA
abbrev cX2_searchAmong : ByteArray := prog_1_method_23_code
def yX2_searchAmong : MethodName := ⟨RX2, "searchAmong", "([IIII)I"⟩
abbrev wsX2_searchAmong : List Cond := .code yX2_searchAmong cX2_searchAmong 6 (some .int) :: WA
abbrev cX2_weigh : ByteArray := prog_1_method_24_code
def yX2_weigh : MethodName := ⟨RX2, "weigh", "(I)V"⟩
abbrev wsX2_weigh : List Cond := .code yX2_weigh cX2_weigh 5 none :: WA
abbrev cX1_limit : ByteArray := prog_3_method_3_code
def yX1_limit : MethodName := ⟨RX1, "limit", "()I"⟩
abbrev wsX1_limit : List Cond := .code yX1_limit cX1_limit 1 (some .int) :: WA
abbrev cX2_passingBound : ByteArray := prog_1_method_25_code
def yX2_passingBound : MethodName := ⟨RX2, "passingBound", "(I)I"⟩
abbrev wsX2_passingBound : List Cond := .code yX2_passingBound cX2_passingBound 3 (some .int) :: WA
abbrev cX1_insert : ByteArray := prog_3_method_4_code
def yX1_insert : MethodName := ⟨RX1, "insert", "(II)V"⟩
abbrev wsX1_insert : List Cond := .code yX1_insert cX1_insert 4 none :: WA
abbrev cL_found : ByteArray := method_13_code
def yL_found : MethodName := ⟨RL, "found", "(LWarpSearch;IZ[J)I"⟩
abbrev wsL_found : List Cond := .codeWith yL_found cL_found 5 (some .int) [(0, 10, 13, 19)] :: WA
abbrev cX2_found : ByteArray := prog_1_method_12_code
def yX2_found : MethodName := ⟨RX2, "found", "(IZ)I"⟩
abbrev wsX2_found : List Cond := .code yX2_found cX2_found 3 (some .int) :: WA
abbrev cL_guess : ByteArray := method_14_code
def yL_guess : MethodName := ⟨RL, "guess", "(LWarpSearch;I[J)I"⟩
abbrev wsL_guess : List Cond := .codeWith yL_guess cL_guess 4 (some .int) [(0, 9, 12, 13), (0, 9, 15, 25)] :: WA
abbrev cX2_guess : ByteArray := prog_1_method_13_code
def yX2_guess : MethodName := ⟨RX2, "guess", "(I)I"⟩
abbrev wsX2_guess : List Cond := .code yX2_guess cX2_guess 8 (some .int) :: WA
abbrev cX2_votesFor : ByteArray := prog_1_method_26_code
def yX2_votesFor : MethodName := ⟨RX2, "votesFor", "(I)I"⟩
abbrev wsX2_votesFor : List Cond := .code yX2_votesFor cX2_votesFor 4 (some .int) :: WA
abbrev cL_count : ByteArray := method_15_code
def yL_count : MethodName := ⟨RL, "count", "(LWarpSearch;I[J)I"⟩
abbrev wsL_count : List Cond := .codeWith yL_count cL_count 4 (some .int) [(0, 9, 12, 13)] :: WA
abbrev cX2_count : ByteArray := prog_1_method_14_code
def yX2_count : MethodName := ⟨RX2, "count", "(I)I"⟩
abbrev wsX2_count : List Cond := .code yX2_count cX2_count 2 (some .int) :: WA
abbrev cL_push : ByteArray := method_16_code
def yL_push : MethodName := ⟨RL, "push", "(LWarpSearch;I[J)I"⟩
abbrev wsL_push : List Cond := .codeWith yL_push cL_push 4 (some .int) [(0, 9, 12, 13), (0, 9, 15, 25)] :: WA
abbrev cX2_push : ByteArray := prog_1_method_15_code
def yX2_push : MethodName := ⟨RX2, "push", "(I)I"⟩
abbrev wsX2_push : List Cond := .code yX2_push cX2_push 2 (some .int) :: WA
abbrev cL_scan : ByteArray := method_17_code
def yL_scan : MethodName := ⟨RL, "scan", "(LWarpSearch;I[J)I"⟩
abbrev wsL_scan : List Cond := .codeWith yL_scan cL_scan 4 (some .int) [(0, 9, 12, 13), (0, 9, 15, 25)] :: WA
abbrev cX2_scan : ByteArray := prog_1_method_16_code
def yX2_scan : MethodName := ⟨RX2, "scan", "(I)I"⟩
abbrev wsX2_scan : List Cond := .code yX2_scan cX2_scan 2 (some .int) :: WA
abbrev cL_shift : ByteArray := method_18_code
def yL_shift : MethodName := ⟨RL, "shift", "(LWarpSearch;I)I"⟩
abbrev wsL_shift : List Cond := .codeWith yL_shift cL_shift 3 (some .int) [(0, 5, 8, 13)] :: WA
abbrev cX2_shift : ByteArray := prog_1_method_17_code
def yX2_shift : MethodName := ⟨RX2, "shift", "(I)V"⟩
abbrev wsX2_shift : List Cond := .code yX2_shift cX2_shift 2 none :: WA
abbrev cX3_init : ByteArray := prog_5_method_1_code
def yX3_init : MethodName := ⟨RX3, "<init>", "()V"⟩
abbrev wsX3_init : List Cond := .code yX3_init cX3_init 1 none :: WA
abbrev cX3_thrown : ByteArray := prog_5_method_2_code
def yX3_thrown : MethodName := ⟨RX3, "thrown", "()I"⟩
abbrev wsX3_thrown : List Cond := .code yX3_thrown cX3_thrown 1 (some .int) :: WA
abbrev cX3_begin : ByteArray := prog_5_method_4_code
def yX3_begin : MethodName := ⟨RX3, "begin", "(I)V"⟩
abbrev wsX3_begin : List Cond := .code yX3_begin cX3_begin 3 none :: WA
abbrev cX3_within : ByteArray := prog_5_method_3_code
def yX3_within : MethodName := ⟨RX3, "within", "(III)Z"⟩
abbrev wsX3_within : List Cond := .code yX3_within cX3_within 3 (some .boolean) :: WA
abbrev cX3_ask : ByteArray := prog_5_method_5_code
def yX3_ask : MethodName := ⟨RX3, "ask", "(II)I"⟩
abbrev wsX3_ask : List Cond := .code yX3_ask cX3_ask 4 (some .int) :: WA
abbrev cX3_keep : ByteArray := prog_5_method_6_code
def yX3_keep : MethodName := ⟨RX3, "keep", "(I)I"⟩
abbrev wsX3_keep : List Cond := .code yX3_keep cX3_keep 3 (some .int) :: WA
abbrev cX3_recall : ByteArray := prog_5_method_8_code
def yX3_recall : MethodName := ⟨RX3, "recall", "(I)V"⟩
abbrev wsX3_recall : List Cond := .code yX3_recall cX3_recall 3 none :: WA
abbrev cX3_isRow : ByteArray := prog_5_method_7_code
def yX3_isRow : MethodName := ⟨RX3, "isRow", "(I)Z"⟩
abbrev wsX3_isRow : List Cond := .code yX3_isRow cX3_isRow 2 (some .boolean) :: WA
abbrev cX3_band : ByteArray := prog_5_method_9_code
def yX3_band : MethodName := ⟨RX3, "band", "(I)I"⟩
abbrev wsX3_band : List Cond := .code yX3_band cX3_band 3 (some .int) :: WA
abbrev cX3_distance : ByteArray := prog_5_method_16_code
def yX3_distance : MethodName := ⟨RX3, "distance", "(I)I"⟩
abbrev wsX3_distance : List Cond := .code yX3_distance cX3_distance 2 (some .int) :: WA
abbrev cX3_takeRow : ByteArray := prog_5_method_10_code
def yX3_takeRow : MethodName := ⟨RX3, "takeRow", "(I)V"⟩
abbrev wsX3_takeRow : List Cond := .code yX3_takeRow cX3_takeRow 3 none :: WA
abbrev cX3_fill : ByteArray := prog_5_method_15_code
def yX3_fill : MethodName := ⟨RX3, "fill", "()V"⟩
abbrev wsX3_fill : List Cond := .code yX3_fill cX3_fill 5 none :: WA
abbrev cX3_inBand : ByteArray := prog_5_method_12_code
def yX3_inBand : MethodName := ⟨RX3, "inBand", "(II)Z"⟩
abbrev wsX3_inBand : List Cond := .code yX3_inBand cX3_inBand 3 (some .boolean) :: WA
abbrev cX3_costAt : ByteArray := prog_5_method_13_code
def yX3_costAt : MethodName := ⟨RX3, "costAt", "(II)I"⟩
abbrev wsX3_costAt : List Cond := .code yX3_costAt cX3_costAt 3 (some .int) :: WA
abbrev cX3_lesser : ByteArray := prog_5_method_14_code
def yX3_lesser : MethodName := ⟨RX3, "lesser", "(II)I"⟩
abbrev wsX3_lesser : List Cond := .code yX3_lesser cX3_lesser 2 (some .int) :: WA
abbrev cX3_bound : ByteArray := prog_5_method_19_code
def yX3_bound : MethodName := ⟨RX3, "bound", "(II)I"⟩
abbrev wsX3_bound : List Cond := .code yX3_bound cX3_bound 3 (some .int) :: WA
abbrev cX3_boundOf : ByteArray := prog_5_method_18_code
def yX3_boundOf : MethodName := ⟨RX3, "boundOf", "(I)I"⟩
abbrev wsX3_boundOf : List Cond := .code yX3_boundOf cX3_boundOf 4 (some .int) :: WA
abbrev cX3_beyond : ByteArray := prog_5_method_17_code
def yX3_beyond : MethodName := ⟨RX3, "beyond", "(IIZ)I"⟩
abbrev wsX3_beyond : List Cond := .code yX3_beyond cX3_beyond 9 (some .int) :: WA
abbrev cX3_steps : ByteArray := prog_5_method_21_code
def yX3_steps : MethodName := ⟨RX3, "steps", "(I)I"⟩
abbrev wsX3_steps : List Cond := .code yX3_steps cX3_steps 2 (some .int) :: WA
abbrev cX3_walk : ByteArray := prog_5_method_20_code
def yX3_walk : MethodName := ⟨RX3, "walk", "()I"⟩
abbrev wsX3_walk : List Cond := .code yX3_walk cX3_walk 10 (some .int) :: WA
abbrev cX3_pair : ByteArray := prog_5_method_22_code
def yX3_pair : MethodName := ⟨RX3, "pair", "(II)I"⟩
abbrev wsX3_pair : List Cond := .code yX3_pair cX3_pair 4 (some .int) :: WA
abbrev cX3_search : ByteArray := prog_5_method_27_code
def yX3_search : MethodName := ⟨RX3, "search", "(I)I"⟩
abbrev wsX3_search : List Cond := .code yX3_search cX3_search 3 (some .int) :: WA
abbrev cX3_start : ByteArray := prog_5_method_23_code
def yX3_start : MethodName := ⟨RX3, "start", "(I)V"⟩
abbrev wsX3_start : List Cond := .code yX3_start cX3_start 3 none :: WA
abbrev cX3_turn : ByteArray := prog_5_method_26_code
def yX3_turn : MethodName := ⟨RX3, "turn", "(I)V"⟩
abbrev wsX3_turn : List Cond := .code yX3_turn cX3_turn 6 none :: WA
abbrev cX3_tally : ByteArray := prog_5_method_24_code
def yX3_tally : MethodName := ⟨RX3, "tally", "(I)V"⟩
abbrev wsX3_tally : List Cond := .code yX3_tally cX3_tally 2 none :: WA
abbrev cX3_givesUp : ByteArray := prog_5_method_25_code
def yX3_givesUp : MethodName := ⟨RX3, "givesUp", "(I)Z"⟩
abbrev wsX3_givesUp : List Cond := .code yX3_givesUp cX3_givesUp 5 (some .boolean) :: WA
abbrev cX3_scan : ByteArray := prog_5_method_28_code
def yX3_scan : MethodName := ⟨RX3, "scan", "(I)I"⟩
abbrev wsX3_scan : List Cond := .code yX3_scan cX3_scan 3 (some .int) :: WA
abbrev cX3_takeWindow : ByteArray := prog_5_method_11_code
def yX3_takeWindow : MethodName := ⟨RX3, "takeWindow", "(I)V"⟩
abbrev wsX3_takeWindow : List Cond := .code yX3_takeWindow cX3_takeWindow 3 none :: WA
abbrev cX3_found : ByteArray := prog_5_method_29_code
def yX3_found : MethodName := ⟨RX3, "found", "(IZ)I"⟩
abbrev wsX3_found : List Cond := .code yX3_found cX3_found 3 (some .int) :: WA
abbrev cX3_guess : ByteArray := prog_5_method_30_code
def yX3_guess : MethodName := ⟨RX3, "guess", "(I)I"⟩
abbrev wsX3_guess : List Cond := .code yX3_guess cX3_guess 8 (some .int) :: WA
abbrev cX3_count : ByteArray := prog_5_method_31_code
def yX3_count : MethodName := ⟨RX3, "count", "(I)I"⟩
abbrev wsX3_count : List Cond := .code yX3_count cX3_count 2 (some .int) :: WA
abbrev cX3_push : ByteArray := prog_5_method_32_code
def yX3_push : MethodName := ⟨RX3, "push", "(I)I"⟩
abbrev wsX3_push : List Cond := .code yX3_push cX3_push 2 (some .int) :: WA
abbrev cX3_shift : ByteArray := prog_5_method_33_code
def yX3_shift : MethodName := ⟨RX3, "shift", "(I)V"⟩
abbrev wsX3_shift : List Cond := .code yX3_shift cX3_shift 3 none :: WA
theorem wd_0 : (.selects "java/lang/Throwable" ⟨"java/lang/Throwable", "fillInStackTrace", "(I)Ljava/lang/Throwable;"⟩ ⟨"java/lang/Throwable", "fillInStackTrace", "(I)Ljava/lang/Throwable;"⟩ : Cond) ∈ WA := wa_in (i := 0) (by decide +kernel) (by decide +kernel)
theorem wd_1 : (.selects "WarpSearch" ⟨"WarpSearch", "checkRow", "(I)V"⟩ ⟨"WarpSearch", "checkRow", "(I)V"⟩ : Cond) ∈ WA := wa_in (i := 1) (by decide +kernel) (by decide +kernel)
theorem wd_2 : (.selects "WarpSearch" ⟨"WarpSearch", "placeRow", "(I)V"⟩ ⟨"WarpSearch", "placeRow", "(I)V"⟩ : Cond) ∈ WA := wa_in (i := 2) (by decide +kernel) (by decide +kernel)
theorem wd_3 : (.selects "WarpSearch$Comparison" ⟨"WarpSearch$Comparison", "fillLine", "(I)I"⟩ ⟨"WarpSearch$Comparison", "fillLine", "(I)I"⟩ : Cond) ∈ WA := wa_in (i := 3) (by decide +kernel) (by decide +kernel)
theorem wd_4 : (.selects "WarpSearch$Comparison" ⟨"WarpSearch$Comparison", "lastInBand", "(I)I"⟩ ⟨"WarpSearch$Comparison", "lastInBand", "(I)I"⟩ : Cond) ∈ WA := wa_in (i := 4) (by decide +kernel) (by decide +kernel)
theorem wd_5 : (.selects "WarpSearch$Comparison" ⟨"WarpSearch$Comparison", "firstInBand", "(I)I"⟩ ⟨"WarpSearch$Comparison", "firstInBand", "(I)I"⟩ : Cond) ∈ WA := wa_in (i := 5) (by decide +kernel) (by decide +kernel)
theorem wd_6 : (.selects "WarpSearch$Comparison" ⟨"WarpSearch$Comparison", "leastBefore", "(II)I"⟩ ⟨"WarpSearch$Comparison", "leastBefore", "(II)I"⟩ : Cond) ∈ WA := wa_in (i := 6) (by decide +kernel) (by decide +kernel)
theorem wd_7 : (.selects "WarpSearch$Comparison" ⟨"WarpSearch$Comparison", "costAt", "(II)I"⟩ ⟨"WarpSearch$Comparison", "costAt", "(II)I"⟩ : Cond) ∈ WA := wa_in (i := 7) (by decide +kernel) (by decide +kernel)
theorem wd_8 : (.selects "WarpSearch$Comparison" ⟨"WarpSearch$Comparison", "hullBound", "([I[I)I"⟩ ⟨"WarpSearch$Comparison", "hullBound", "([I[I)I"⟩ : Cond) ∈ WA := wa_in (i := 8) (by decide +kernel) (by decide +kernel)
theorem wd_9 : (.selects "WarpSearch" ⟨"WarpSearch", "checkAnyRow", "()V"⟩ ⟨"WarpSearch", "checkAnyRow", "()V"⟩ : Cond) ∈ WA := wa_in (i := 9) (by decide +kernel) (by decide +kernel)
theorem wd_10 : (.selects "WarpSearch" ⟨"WarpSearch", "searchAmong", "([IIII)I"⟩ ⟨"WarpSearch", "searchAmong", "([IIII)I"⟩ : Cond) ∈ WA := wa_in (i := 10) (by decide +kernel) (by decide +kernel)
theorem wd_11 : (.selects "WarpSearch" ⟨"WarpSearch", "weigh", "(I)V"⟩ ⟨"WarpSearch", "weigh", "(I)V"⟩ : Cond) ∈ WA := wa_in (i := 11) (by decide +kernel) (by decide +kernel)
theorem wd_12 : (.selects "WarpSearch" ⟨"WarpSearch", "passingBound", "(I)I"⟩ ⟨"WarpSearch", "passingBound", "(I)I"⟩ : Cond) ∈ WA := wa_in (i := 12) (by decide +kernel) (by decide +kernel)
theorem wd_13 : (.selects "WarpSearch" ⟨"WarpSearch", "votesFor", "(I)I"⟩ ⟨"WarpSearch", "votesFor", "(I)I"⟩ : Cond) ∈ WA := wa_in (i := 13) (by decide +kernel) (by decide +kernel)
theorem wd_14 : (.selects "WarpSearchModel" ⟨"WarpSearchModel", "isRow", "(I)Z"⟩ ⟨"WarpSearchModel", "isRow", "(I)Z"⟩ : Cond) ∈ WA := wa_in (i := 14) (by decide +kernel) (by decide +kernel)
theorem wd_15 : (.selects "WarpSearchModel" ⟨"WarpSearchModel", "takeRow", "(I)V"⟩ ⟨"WarpSearchModel", "takeRow", "(I)V"⟩ : Cond) ∈ WA := wa_in (i := 15) (by decide +kernel) (by decide +kernel)
theorem wd_16 : (.selects "WarpSearchModel" ⟨"WarpSearchModel", "fill", "()V"⟩ ⟨"WarpSearchModel", "fill", "()V"⟩ : Cond) ∈ WA := wa_in (i := 16) (by decide +kernel) (by decide +kernel)
theorem wd_17 : (.selects "WarpSearchModel" ⟨"WarpSearchModel", "inBand", "(II)Z"⟩ ⟨"WarpSearchModel", "inBand", "(II)Z"⟩ : Cond) ∈ WA := wa_in (i := 17) (by decide +kernel) (by decide +kernel)
theorem wd_18 : (.selects "WarpSearchModel" ⟨"WarpSearchModel", "costAt", "(II)I"⟩ ⟨"WarpSearchModel", "costAt", "(II)I"⟩ : Cond) ∈ WA := wa_in (i := 18) (by decide +kernel) (by decide +kernel)
theorem wd_19 : (.selects "WarpSearchModel" ⟨"WarpSearchModel", "boundOf", "(I)I"⟩ ⟨"WarpSearchModel", "boundOf", "(I)I"⟩ : Cond) ∈ WA := wa_in (i := 19) (by decide +kernel) (by decide +kernel)
theorem wd_20 : (.selects "WarpSearchModel" ⟨"WarpSearchModel", "beyond", "(IIZ)I"⟩ ⟨"WarpSearchModel", "beyond", "(IIZ)I"⟩ : Cond) ∈ WA := wa_in (i := 20) (by decide +kernel) (by decide +kernel)
theorem wd_21 : (.selects "WarpSearchModel" ⟨"WarpSearchModel", "walk", "()I"⟩ ⟨"WarpSearchModel", "walk", "()I"⟩ : Cond) ∈ WA := wa_in (i := 21) (by decide +kernel) (by decide +kernel)
theorem wd_22 : (.selects "WarpSearchModel" ⟨"WarpSearchModel", "start", "(I)V"⟩ ⟨"WarpSearchModel", "start", "(I)V"⟩ : Cond) ∈ WA := wa_in (i := 22) (by decide +kernel) (by decide +kernel)
theorem wd_23 : (.selects "WarpSearchModel" ⟨"WarpSearchModel", "turn", "(I)V"⟩ ⟨"WarpSearchModel", "turn", "(I)V"⟩ : Cond) ∈ WA := wa_in (i := 23) (by decide +kernel) (by decide +kernel)
theorem wd_24 : (.selects "WarpSearchModel" ⟨"WarpSearchModel", "tally", "(I)V"⟩ ⟨"WarpSearchModel", "tally", "(I)V"⟩ : Cond) ∈ WA := wa_in (i := 24) (by decide +kernel) (by decide +kernel)
theorem wd_25 : (.selects "WarpSearchModel" ⟨"WarpSearchModel", "givesUp", "(I)Z"⟩ ⟨"WarpSearchModel", "givesUp", "(I)Z"⟩ : Cond) ∈ WA := wa_in (i := 25) (by decide +kernel) (by decide +kernel)
theorem wd_26 : (.selects "WarpSearchModel" ⟨"WarpSearchModel", "takeWindow", "(I)V"⟩ ⟨"WarpSearchModel", "takeWindow", "(I)V"⟩ : Cond) ∈ WA := wa_in (i := 26) (by decide +kernel) (by decide +kernel)
theorem wd_27 : (.initialized "WarpSearchLaw" : Cond) ∈ WA := wa_in (i := 27) (by decide +kernel) (by decide +kernel)
theorem wd_28 : (.initialized "WarpSearch" : Cond) ∈ WA := wa_in (i := 28) (by decide +kernel) (by decide +kernel)
theorem wd_29 : (.initialized "WarpSearch$Comparison" : Cond) ∈ WA := wa_in (i := 29) (by decide +kernel) (by decide +kernel)
theorem wd_30 : (.initialized "WarpSearch$Nearest" : Cond) ∈ WA := wa_in (i := 30) (by decide +kernel) (by decide +kernel)
theorem wd_31 : (.initialized "WarpSearchModel" : Cond) ∈ WA := wa_in (i := 31) (by decide +kernel) (by decide +kernel)
theorem wd_32 : (.initialized "java/lang/Throwable" : Cond) ∈ WA := wa_in (i := 32) (by decide +kernel) (by decide +kernel)
theorem wd_33 : (.initialized "java/lang/Exception" : Cond) ∈ WA := wa_in (i := 33) (by decide +kernel) (by decide +kernel)
theorem wd_34 : (.initialized "java/lang/RuntimeException" : Cond) ∈ WA := wa_in (i := 34) (by decide +kernel) (by decide +kernel)
theorem wd_35 : (.initialized "java/lang/IllegalArgumentException" : Cond) ∈ WA := wa_in (i := 35) (by decide +kernel) (by decide +kernel)
theorem wd_36 : (.initialized "java/util/Arrays" : Cond) ∈ WA := wa_in (i := 36) (by decide +kernel) (by decide +kernel)
theorem wd_37 : (.initialized "java/lang/IndexOutOfBoundsException" : Cond) ∈ WA := wa_in (i := 37) (by decide +kernel) (by decide +kernel)
theorem wd_38 : (.initialized "java/lang/IllegalStateException" : Cond) ∈ WA := wa_in (i := 38) (by decide +kernel) (by decide +kernel)
theorem wd_39 : (.initialized "java/lang/System" : Cond) ∈ WA := wa_in (i := 39) (by decide +kernel) (by decide +kernel)
theorem wd_40 : (.initialized "java/lang/Math" : Cond) ∈ WA := wa_in (i := 40) (by decide +kernel) (by decide +kernel)
theorem wd_41 : (.classLink "WarpSearchLaw" 8 "WarpSearch" : Cond) ∈ WA := wa_in (i := 41) (by decide +kernel) (by decide +kernel)
theorem wd_42 : (.instantiable "WarpSearch" 11 : Cond) ∈ WA := wa_in (i := 42) (by decide +kernel) (by decide +kernel)
theorem wd_43 : (.methodLink "WarpSearchLaw" 67 ⟨"WarpSearch", "<init>", "()V"⟩ : Cond) ∈ WA := wa_in (i := 43) (by decide +kernel) (by decide +kernel)
theorem wd_44 : (.instanceMethod ⟨"WarpSearch", "<init>", "()V"⟩ : Cond) ∈ WA := wa_in (i := 44) (by decide +kernel) (by decide +kernel)
set_option maxRecDepth 20000 in
theorem wd_45 : (.code ⟨"WarpSearch", "<init>", "()V"⟩ prog_1_method_1_code 1 none : Cond) ∈ WA := wa_in (i := 45) rfl (by decide +kernel)
theorem wd_46 : (.methodLink "WarpSearch" 3 ⟨"java/lang/Object", "<init>", "()V"⟩ : Cond) ∈ WA := wa_in (i := 46) (by decide +kernel) (by decide +kernel)
theorem wd_47 : (.instanceMethod ⟨"java/lang/Object", "<init>", "()V"⟩ : Cond) ∈ WA := wa_in (i := 47) (by decide +kernel) (by decide +kernel)
set_option maxRecDepth 20000 in
theorem wd_48 : (.code ⟨"java/lang/Object", "<init>", "()V"⟩ object_method_1_code 1 none : Cond) ∈ WA := wa_in (i := 48) rfl (by decide +kernel)
theorem wd_49 : (.classLink "WarpSearch" 35 "WarpSearch$Comparison" : Cond) ∈ WA := wa_in (i := 49) (by decide +kernel) (by decide +kernel)
theorem wd_50 : (.instantiable "WarpSearch$Comparison" 7 : Cond) ∈ WA := wa_in (i := 50) (by decide +kernel) (by decide +kernel)
theorem wd_52 : (.instanceMethod ⟨"WarpSearch$Comparison", "<init>", "()V"⟩ : Cond) ∈ WA := wa_in (i := 52) (by decide +kernel) (by decide +kernel)
set_option maxRecDepth 20000 in
theorem wd_53 : (.code ⟨"WarpSearch$Comparison", "<init>", "()V"⟩ prog_2_method_1_code 1 none : Cond) ∈ WA := wa_in (i := 53) rfl (by decide +kernel)
theorem wd_54 : (.methodLink "WarpSearch$Comparison" 3 ⟨"java/lang/Object", "<init>", "()V"⟩ : Cond) ∈ WA := wa_in (i := 54) (by decide +kernel) (by decide +kernel)
theorem wd_55 : (.fieldLink "WarpSearch$Comparison" 9 "WarpSearch$Comparison" "question" "[I" : Cond) ∈ WA := wa_in (i := 55) (by decide +kernel) (by decide +kernel)
theorem wd_56 : (.fieldLink "WarpSearch$Comparison" 15 "WarpSearch$Comparison" "row" "[I" : Cond) ∈ WA := wa_in (i := 56) (by decide +kernel) (by decide +kernel)
theorem wd_57 : (.fieldLink "WarpSearch$Comparison" 18 "WarpSearch$Comparison" "costs" "[I" : Cond) ∈ WA := wa_in (i := 57) (by decide +kernel) (by decide +kernel)
theorem wd_58 : (.fieldLink "WarpSearch$Comparison" 21 "WarpSearch$Comparison" "path" "[I" : Cond) ∈ WA := wa_in (i := 58) (by decide +kernel) (by decide +kernel)
theorem wd_59 : (.fieldLink "WarpSearch$Comparison" 24 "WarpSearch$Comparison" "pathStart" "I" : Cond) ∈ WA := wa_in (i := 59) (by decide +kernel) (by decide +kernel)
theorem wd_60 : (.fieldLink "WarpSearch$Comparison" 28 "WarpSearch$Comparison" "length" "I" : Cond) ∈ WA := wa_in (i := 60) (by decide +kernel) (by decide +kernel)
theorem wd_61 : (.fieldLink "WarpSearch$Comparison" 31 "WarpSearch$Comparison" "width" "I" : Cond) ∈ WA := wa_in (i := 61) (by decide +kernel) (by decide +kernel)
theorem wd_62 : (.laysFinal "WarpSearch$Comparison" "WarpSearch$Comparison" "question" "[I" : Cond) ∈ WA := wa_in (i := 62) (by decide +kernel) (by decide +kernel)
theorem wd_64 : (.laysFinal "WarpSearch$Comparison" "WarpSearch$Comparison" "row" "[I" : Cond) ∈ WA := wa_in (i := 64) (by decide +kernel) (by decide +kernel)
theorem wd_66 : (.laysFinal "WarpSearch$Comparison" "WarpSearch$Comparison" "costs" "[I" : Cond) ∈ WA := wa_in (i := 66) (by decide +kernel) (by decide +kernel)
theorem wd_68 : (.laysFinal "WarpSearch$Comparison" "WarpSearch$Comparison" "path" "[I" : Cond) ∈ WA := wa_in (i := 68) (by decide +kernel) (by decide +kernel)
theorem wd_70 : (.lays "WarpSearch$Comparison" "WarpSearch$Comparison" "pathStart" "I" : Cond) ∈ WA := wa_in (i := 70) (by decide +kernel) (by decide +kernel)
theorem wd_72 : (.lays "WarpSearch$Comparison" "WarpSearch$Comparison" "length" "I" : Cond) ∈ WA := wa_in (i := 72) (by decide +kernel) (by decide +kernel)
theorem wd_74 : (.lays "WarpSearch$Comparison" "WarpSearch$Comparison" "width" "I" : Cond) ∈ WA := wa_in (i := 74) (by decide +kernel) (by decide +kernel)
theorem wd_77 : (.arrayClass .int : Cond) ∈ WA := wa_in (i := 77) (by decide +kernel) (by decide +kernel)
theorem wd_78 : (.classLink "WarpSearch" 42 "WarpSearch$Nearest" : Cond) ∈ WA := wa_in (i := 78) (by decide +kernel) (by decide +kernel)
theorem wd_79 : (.instantiable "WarpSearch$Nearest" 4 : Cond) ∈ WA := wa_in (i := 79) (by decide +kernel) (by decide +kernel)
theorem wd_81 : (.instanceMethod ⟨"WarpSearch$Nearest", "<init>", "()V"⟩ : Cond) ∈ WA := wa_in (i := 81) (by decide +kernel) (by decide +kernel)
set_option maxRecDepth 20000 in
theorem wd_82 : (.code ⟨"WarpSearch$Nearest", "<init>", "()V"⟩ prog_3_method_1_code 1 none : Cond) ∈ WA := wa_in (i := 82) rfl (by decide +kernel)
theorem wd_83 : (.methodLink "WarpSearch$Nearest" 3 ⟨"java/lang/Object", "<init>", "()V"⟩ : Cond) ∈ WA := wa_in (i := 83) (by decide +kernel) (by decide +kernel)
theorem wd_84 : (.fieldLink "WarpSearch$Nearest" 9 "WarpSearch$Nearest" "places" "[I" : Cond) ∈ WA := wa_in (i := 84) (by decide +kernel) (by decide +kernel)
theorem wd_86 : (.fieldLink "WarpSearch$Nearest" 15 "WarpSearch$Nearest" "distances" "[I" : Cond) ∈ WA := wa_in (i := 86) (by decide +kernel) (by decide +kernel)
theorem wd_88 : (.fieldLink "WarpSearch$Nearest" 18 "WarpSearch$Nearest" "size" "I" : Cond) ∈ WA := wa_in (i := 88) (by decide +kernel) (by decide +kernel)
theorem wd_90 : (.fieldLink "WarpSearch$Nearest" 22 "WarpSearch$Nearest" "wanted" "I" : Cond) ∈ WA := wa_in (i := 90) (by decide +kernel) (by decide +kernel)
theorem wd_91 : (.laysFinal "WarpSearch$Nearest" "WarpSearch$Nearest" "places" "[I" : Cond) ∈ WA := wa_in (i := 91) (by decide +kernel) (by decide +kernel)
theorem wd_93 : (.laysFinal "WarpSearch$Nearest" "WarpSearch$Nearest" "distances" "[I" : Cond) ∈ WA := wa_in (i := 93) (by decide +kernel) (by decide +kernel)
theorem wd_95 : (.lays "WarpSearch$Nearest" "WarpSearch$Nearest" "size" "I" : Cond) ∈ WA := wa_in (i := 95) (by decide +kernel) (by decide +kernel)
theorem wd_97 : (.lays "WarpSearch$Nearest" "WarpSearch$Nearest" "wanted" "I" : Cond) ∈ WA := wa_in (i := 97) (by decide +kernel) (by decide +kernel)
theorem wd_100 : (.fieldLink "WarpSearch" 9 "WarpSearch" "length" "I" : Cond) ∈ WA := wa_in (i := 100) (by decide +kernel) (by decide +kernel)
theorem wd_101 : (.fieldLink "WarpSearch" 13 "WarpSearch" "width" "I" : Cond) ∈ WA := wa_in (i := 101) (by decide +kernel) (by decide +kernel)
theorem wd_102 : (.fieldLink "WarpSearch" 16 "WarpSearch" "question" "[I" : Cond) ∈ WA := wa_in (i := 102) (by decide +kernel) (by decide +kernel)
theorem wd_103 : (.fieldLink "WarpSearch" 20 "WarpSearch" "rows" "[I" : Cond) ∈ WA := wa_in (i := 103) (by decide +kernel) (by decide +kernel)
theorem wd_104 : (.fieldLink "WarpSearch" 23 "WarpSearch" "labels" "[I" : Cond) ∈ WA := wa_in (i := 104) (by decide +kernel) (by decide +kernel)
theorem wd_105 : (.fieldLink "WarpSearch" 26 "WarpSearch" "rowCount" "I" : Cond) ∈ WA := wa_in (i := 105) (by decide +kernel) (by decide +kernel)
theorem wd_106 : (.fieldLink "WarpSearch" 29 "WarpSearch" "stream" "[I" : Cond) ∈ WA := wa_in (i := 106) (by decide +kernel) (by decide +kernel)
theorem wd_107 : (.fieldLink "WarpSearch" 32 "WarpSearch" "streamCount" "I" : Cond) ∈ WA := wa_in (i := 107) (by decide +kernel) (by decide +kernel)
theorem wd_108 : (.fieldLink "WarpSearch" 38 "WarpSearch" "comparison" "LWarpSearch$Comparison;" : Cond) ∈ WA := wa_in (i := 108) (by decide +kernel) (by decide +kernel)
theorem wd_109 : (.fieldLink "WarpSearch" 45 "WarpSearch" "nearest" "LWarpSearch$Nearest;" : Cond) ∈ WA := wa_in (i := 109) (by decide +kernel) (by decide +kernel)
theorem wd_110 : (.fieldLink "WarpSearch" 49 "WarpSearch" "counts" "[I" : Cond) ∈ WA := wa_in (i := 110) (by decide +kernel) (by decide +kernel)
theorem wd_111 : (.lays "WarpSearch" "WarpSearch" "length" "I" : Cond) ∈ WA := wa_in (i := 111) (by decide +kernel) (by decide +kernel)
theorem wd_113 : (.lays "WarpSearch" "WarpSearch" "width" "I" : Cond) ∈ WA := wa_in (i := 113) (by decide +kernel) (by decide +kernel)
theorem wd_115 : (.laysFinal "WarpSearch" "WarpSearch" "question" "[I" : Cond) ∈ WA := wa_in (i := 115) (by decide +kernel) (by decide +kernel)
theorem wd_117 : (.laysFinal "WarpSearch" "WarpSearch" "rows" "[I" : Cond) ∈ WA := wa_in (i := 117) (by decide +kernel) (by decide +kernel)
theorem wd_119 : (.laysFinal "WarpSearch" "WarpSearch" "labels" "[I" : Cond) ∈ WA := wa_in (i := 119) (by decide +kernel) (by decide +kernel)
theorem wd_121 : (.lays "WarpSearch" "WarpSearch" "rowCount" "I" : Cond) ∈ WA := wa_in (i := 121) (by decide +kernel) (by decide +kernel)
theorem wd_123 : (.laysFinal "WarpSearch" "WarpSearch" "stream" "[I" : Cond) ∈ WA := wa_in (i := 123) (by decide +kernel) (by decide +kernel)
theorem wd_125 : (.lays "WarpSearch" "WarpSearch" "streamCount" "I" : Cond) ∈ WA := wa_in (i := 125) (by decide +kernel) (by decide +kernel)
theorem wd_127 : (.laysFinal "WarpSearch" "WarpSearch" "comparison" "LWarpSearch$Comparison;" : Cond) ∈ WA := wa_in (i := 127) (by decide +kernel) (by decide +kernel)
theorem wd_129 : (.laysFinal "WarpSearch" "WarpSearch" "nearest" "LWarpSearch$Nearest;" : Cond) ∈ WA := wa_in (i := 129) (by decide +kernel) (by decide +kernel)
theorem wd_131 : (.laysFinal "WarpSearch" "WarpSearch" "counts" "[I" : Cond) ∈ WA := wa_in (i := 131) (by decide +kernel) (by decide +kernel)
theorem wd_134 : (.methodLink "WarpSearchLaw" 71 ⟨"WarpSearchLaw", "begin", "(LWarpSearch;I)I"⟩ : Cond) ∈ WA := wa_in (i := 134) (by decide +kernel) (by decide +kernel)
theorem wd_135 : (.static ⟨"WarpSearchLaw", "begin", "(LWarpSearch;I)I"⟩ : Cond) ∈ WA := wa_in (i := 135) (by decide +kernel) (by decide +kernel)
set_option maxRecDepth 20000 in
theorem wd_136 : (.codeWith ⟨"WarpSearchLaw", "begin", "(LWarpSearch;I)I"⟩ method_3_code 3 (some .int) [(0, 5, 8, 13)] : Cond) ∈ WA := wa_in (i := 136) rfl (by decide +kernel)
theorem wd_137 : (.classLink "WarpSearchLaw" 13 "java/lang/IllegalArgumentException" : Cond) ∈ WA := wa_in (i := 137) (by decide +kernel) (by decide +kernel)
theorem wd_138 : (.methodLink "WarpSearchLaw" 7 ⟨"WarpSearch", "begin", "(I)V"⟩ : Cond) ∈ WA := wa_in (i := 138) (by decide +kernel) (by decide +kernel)
theorem wd_139 : (.instanceMethod ⟨"WarpSearch", "begin", "(I)V"⟩ : Cond) ∈ WA := wa_in (i := 139) (by decide +kernel) (by decide +kernel)
theorem wd_140 : (.selects "WarpSearch" ⟨"WarpSearch", "begin", "(I)V"⟩ ⟨"WarpSearch", "begin", "(I)V"⟩ : Cond) ∈ WA := wa_in (i := 140) (by decide +kernel) (by decide +kernel)
set_option maxRecDepth 20000 in
theorem wd_141 : (.code ⟨"WarpSearch", "begin", "(I)V"⟩ prog_1_method_2_code 2 none : Cond) ∈ WA := wa_in (i := 141) rfl (by decide +kernel)
theorem wd_142 : (.classLink "WarpSearch" 52 "java/lang/IllegalArgumentException" : Cond) ∈ WA := wa_in (i := 142) (by decide +kernel) (by decide +kernel)
theorem wd_143 : (.instantiable "java/lang/IllegalArgumentException" 6 : Cond) ∈ WA := wa_in (i := 143) (by decide +kernel) (by decide +kernel)
theorem wd_151 : (.selects "java/lang/IllegalArgumentException" ⟨"java/lang/Throwable", "fillInStackTrace", "(I)Ljava/lang/Throwable;"⟩ ⟨"java/lang/Throwable", "fillInStackTrace", "(I)Ljava/lang/Throwable;"⟩ : Cond) ∈ WA := wa_in (i := 151) (by decide +kernel) (by decide +kernel)
theorem wd_152 : (.selects "java/lang/IllegalArgumentException" ⟨"java/lang/Throwable", "fillInStackTrace", "()Ljava/lang/Throwable;"⟩ ⟨"java/lang/Throwable", "fillInStackTrace", "()Ljava/lang/Throwable;"⟩ : Cond) ∈ WA := wa_in (i := 152) (by decide +kernel) (by decide +kernel)
theorem wd_153 : (.lays "java/lang/IllegalArgumentException" "java/lang/Throwable" "cause" "Ljava/lang/Throwable;" : Cond) ∈ WA := wa_in (i := 153) (by decide +kernel) (by decide +kernel)
theorem wd_154 : (.lays "java/lang/Throwable" "java/lang/Throwable" "cause" "Ljava/lang/Throwable;" : Cond) ∈ WA := wa_in (i := 154) (by decide +kernel) (by decide +kernel)
theorem wd_155 : (.lays "java/lang/IllegalArgumentException" "java/lang/Throwable" "stackTrace" "[Ljava/lang/StackTraceElement;" : Cond) ∈ WA := wa_in (i := 155) (by decide +kernel) (by decide +kernel)
theorem wd_156 : (.lays "java/lang/Throwable" "java/lang/Throwable" "stackTrace" "[Ljava/lang/StackTraceElement;" : Cond) ∈ WA := wa_in (i := 156) (by decide +kernel) (by decide +kernel)
theorem wd_157 : (.lays "java/lang/IllegalArgumentException" "java/lang/Throwable" "suppressedExceptions" "Ljava/util/List;" : Cond) ∈ WA := wa_in (i := 157) (by decide +kernel) (by decide +kernel)
theorem wd_158 : (.lays "java/lang/Throwable" "java/lang/Throwable" "suppressedExceptions" "Ljava/util/List;" : Cond) ∈ WA := wa_in (i := 158) (by decide +kernel) (by decide +kernel)
theorem wd_159 : (.lays "java/lang/IllegalArgumentException" "java/lang/Throwable" "detailMessage" "Ljava/lang/String;" : Cond) ∈ WA := wa_in (i := 159) (by decide +kernel) (by decide +kernel)
theorem wd_160 : (.lays "java/lang/Throwable" "java/lang/Throwable" "detailMessage" "Ljava/lang/String;" : Cond) ∈ WA := wa_in (i := 160) (by decide +kernel) (by decide +kernel)
theorem wd_161 : (.lays "java/lang/IllegalArgumentException" "java/lang/Throwable" "backtrace" "Ljava/lang/Object;" : Cond) ∈ WA := wa_in (i := 161) (by decide +kernel) (by decide +kernel)
theorem wd_162 : (.lays "java/lang/Throwable" "java/lang/Throwable" "backtrace" "Ljava/lang/Object;" : Cond) ∈ WA := wa_in (i := 162) (by decide +kernel) (by decide +kernel)
theorem wd_163 : (.fieldLink "java/lang/Throwable" 198 "java/lang/Throwable" "backtrace" "Ljava/lang/Object;" : Cond) ∈ WA := wa_in (i := 163) (by decide +kernel) (by decide +kernel)
theorem wd_165 : (.instanceMethod ⟨"java/lang/Throwable", "<init>", "()V"⟩ : Cond) ∈ WA := wa_in (i := 165) (by decide +kernel) (by decide +kernel)
set_option maxRecDepth 20000 in
theorem wd_166 : (.code ⟨"java/lang/Throwable", "<init>", "()V"⟩ prog_14_method_1_code 1 none : Cond) ∈ WA := wa_in (i := 166) rfl (by decide +kernel)
theorem wd_167 : (.methodLink "java/lang/Throwable" 1 ⟨"java/lang/Object", "<init>", "()V"⟩ : Cond) ∈ WA := wa_in (i := 167) (by decide +kernel) (by decide +kernel)
theorem wd_168 : (.fieldLink "java/lang/Throwable" 13 "java/lang/Throwable" "UNASSIGNED_STACK" "[Ljava/lang/StackTraceElement;" : Cond) ∈ WA := wa_in (i := 168) (by decide +kernel) (by decide +kernel)
theorem wd_170 : (.fieldLink "java/lang/Throwable" 20 "java/lang/Throwable" "SUPPRESSED_SENTINEL" "Ljava/util/List;" : Cond) ∈ WA := wa_in (i := 170) (by decide +kernel) (by decide +kernel)
theorem wd_172 : (.methodLink "java/lang/Throwable" 27 ⟨"java/lang/Throwable", "fillInStackTrace", "()Ljava/lang/Throwable;"⟩ : Cond) ∈ WA := wa_in (i := 172) (by decide +kernel) (by decide +kernel)
theorem wd_173 : (.instanceMethod ⟨"java/lang/Throwable", "fillInStackTrace", "()Ljava/lang/Throwable;"⟩ : Cond) ∈ WA := wa_in (i := 173) (by decide +kernel) (by decide +kernel)
theorem wd_175 : (.selects "java/lang/IllegalStateException" ⟨"java/lang/Throwable", "fillInStackTrace", "()Ljava/lang/Throwable;"⟩ ⟨"java/lang/Throwable", "fillInStackTrace", "()Ljava/lang/Throwable;"⟩ : Cond) ∈ WA := wa_in (i := 175) (by decide +kernel) (by decide +kernel)
theorem wd_176 : (.selects "java/lang/IndexOutOfBoundsException" ⟨"java/lang/Throwable", "fillInStackTrace", "()Ljava/lang/Throwable;"⟩ ⟨"java/lang/Throwable", "fillInStackTrace", "()Ljava/lang/Throwable;"⟩ : Cond) ∈ WA := wa_in (i := 176) (by decide +kernel) (by decide +kernel)
theorem wd_178 : (.methodLink "java/lang/Throwable" 202 ⟨"java/lang/Throwable", "fillInStackTrace", "(I)Ljava/lang/Throwable;"⟩ : Cond) ∈ WA := wa_in (i := 178) (by decide +kernel) (by decide +kernel)
theorem wd_180 : (.instanceMethod ⟨"java/lang/Throwable", "fillInStackTrace", "(I)Ljava/lang/Throwable;"⟩ : Cond) ∈ WA := wa_in (i := 180) (by decide +kernel) (by decide +kernel)
theorem wd_181 : (.instantiable "java/lang/Throwable" 6 : Cond) ∈ WA := wa_in (i := 181) (by decide +kernel) (by decide +kernel)
theorem wd_182 : (.native ⟨"java/lang/Throwable", "fillInStackTrace", "(I)Ljava/lang/Throwable;"⟩ : Cond) ∈ WA := wa_in (i := 182) (by decide +kernel) (by decide +kernel)
theorem wd_184 : (.methodLink "WarpSearch" 56 ⟨"java/lang/IllegalArgumentException", "<init>", "(Ljava/lang/String;)V"⟩ : Cond) ∈ WA := wa_in (i := 184) (by decide +kernel) (by decide +kernel)
theorem wd_185 : (.instanceMethod ⟨"java/lang/IllegalArgumentException", "<init>", "(Ljava/lang/String;)V"⟩ : Cond) ∈ WA := wa_in (i := 185) (by decide +kernel) (by decide +kernel)
set_option maxRecDepth 20000 in
theorem wd_186 : (.code ⟨"java/lang/IllegalArgumentException", "<init>", "(Ljava/lang/String;)V"⟩ prog_7_method_2_code 2 none : Cond) ∈ WA := wa_in (i := 186) rfl (by decide +kernel)
theorem wd_187 : (.methodLink "java/lang/IllegalArgumentException" 7 ⟨"java/lang/RuntimeException", "<init>", "(Ljava/lang/String;)V"⟩ : Cond) ∈ WA := wa_in (i := 187) (by decide +kernel) (by decide +kernel)
theorem wd_188 : (.instanceMethod ⟨"java/lang/RuntimeException", "<init>", "(Ljava/lang/String;)V"⟩ : Cond) ∈ WA := wa_in (i := 188) (by decide +kernel) (by decide +kernel)
set_option maxRecDepth 20000 in
theorem wd_189 : (.code ⟨"java/lang/RuntimeException", "<init>", "(Ljava/lang/String;)V"⟩ prog_11_method_2_code 2 none : Cond) ∈ WA := wa_in (i := 189) rfl (by decide +kernel)
theorem wd_190 : (.methodLink "java/lang/RuntimeException" 7 ⟨"java/lang/Exception", "<init>", "(Ljava/lang/String;)V"⟩ : Cond) ∈ WA := wa_in (i := 190) (by decide +kernel) (by decide +kernel)
theorem wd_191 : (.instanceMethod ⟨"java/lang/Exception", "<init>", "(Ljava/lang/String;)V"⟩ : Cond) ∈ WA := wa_in (i := 191) (by decide +kernel) (by decide +kernel)
set_option maxRecDepth 20000 in
theorem wd_192 : (.code ⟨"java/lang/Exception", "<init>", "(Ljava/lang/String;)V"⟩ prog_6_method_2_code 2 none : Cond) ∈ WA := wa_in (i := 192) rfl (by decide +kernel)
theorem wd_193 : (.methodLink "java/lang/Exception" 7 ⟨"java/lang/Throwable", "<init>", "(Ljava/lang/String;)V"⟩ : Cond) ∈ WA := wa_in (i := 193) (by decide +kernel) (by decide +kernel)
theorem wd_194 : (.instanceMethod ⟨"java/lang/Throwable", "<init>", "(Ljava/lang/String;)V"⟩ : Cond) ∈ WA := wa_in (i := 194) (by decide +kernel) (by decide +kernel)
set_option maxRecDepth 20000 in
theorem wd_195 : (.code ⟨"java/lang/Throwable", "<init>", "(Ljava/lang/String;)V"⟩ prog_14_method_2_code 2 none : Cond) ∈ WA := wa_in (i := 195) rfl (by decide +kernel)
theorem wd_196 : (.fieldLink "java/lang/Throwable" 198 "java/lang/Throwable" "backtrace" "Ljava/lang/Object;" : Cond) ∈ WA := wa_in (i := 196) (by decide +kernel) (by decide +kernel)
theorem wd_197 : (.fieldLink "java/lang/Throwable" 31 "java/lang/Throwable" "detailMessage" "Ljava/lang/String;" : Cond) ∈ WA := wa_in (i := 197) (by decide +kernel) (by decide +kernel)
theorem wd_198 : (.fieldLink "java/lang/Throwable" 7 "java/lang/Throwable" "cause" "Ljava/lang/Throwable;" : Cond) ∈ WA := wa_in (i := 198) (by decide +kernel) (by decide +kernel)
theorem wd_199 : (.fieldLink "java/lang/Throwable" 17 "java/lang/Throwable" "stackTrace" "[Ljava/lang/StackTraceElement;" : Cond) ∈ WA := wa_in (i := 199) (by decide +kernel) (by decide +kernel)
theorem wd_200 : (.fieldLink "java/lang/Throwable" 24 "java/lang/Throwable" "suppressedExceptions" "Ljava/util/List;" : Cond) ∈ WA := wa_in (i := 200) (by decide +kernel) (by decide +kernel)
theorem wd_205 : (.lays "java/lang/IllegalArgumentException" "java/lang/Throwable" "depth" "I" : Cond) ∈ WA := wa_in (i := 205) (by decide +kernel) (by decide +kernel)
theorem wd_209 : (.arrayClass .byte : Cond) ∈ WA := wa_in (i := 209) (by decide +kernel) (by decide +kernel)
theorem wd_210 : (.methodLink "WarpSearch" 59 ⟨"java/util/Arrays", "fill", "([II)V"⟩ : Cond) ∈ WA := wa_in (i := 210) (by decide +kernel) (by decide +kernel)
theorem wd_211 : (.static ⟨"java/util/Arrays", "fill", "([II)V"⟩ : Cond) ∈ WA := wa_in (i := 211) (by decide +kernel) (by decide +kernel)
set_option maxRecDepth 20000 in
theorem wd_212 : (.code ⟨"java/util/Arrays", "fill", "([II)V"⟩ prog_15_method_103_code 4 none : Cond) ∈ WA := wa_in (i := 212) rfl (by decide +kernel)
theorem wd_213 : (.methodLink "WarpSearch" 65 ⟨"WarpSearch$Nearest", "startFor", "(I)V"⟩ : Cond) ∈ WA := wa_in (i := 213) (by decide +kernel) (by decide +kernel)
theorem wd_214 : (.instanceMethod ⟨"WarpSearch$Nearest", "startFor", "(I)V"⟩ : Cond) ∈ WA := wa_in (i := 214) (by decide +kernel) (by decide +kernel)
theorem wd_215 : (.selects "WarpSearch$Nearest" ⟨"WarpSearch$Nearest", "startFor", "(I)V"⟩ ⟨"WarpSearch$Nearest", "startFor", "(I)V"⟩ : Cond) ∈ WA := wa_in (i := 215) (by decide +kernel) (by decide +kernel)
set_option maxRecDepth 20000 in
theorem wd_216 : (.code ⟨"WarpSearch$Nearest", "startFor", "(I)V"⟩ prog_3_method_2_code 2 none : Cond) ∈ WA := wa_in (i := 216) rfl (by decide +kernel)
theorem wd_217 : (.methodLink "WarpSearchLaw" 81 ⟨"WarpSearchLaw", "ask", "(LWarpSearch;II[J)I"⟩ : Cond) ∈ WA := wa_in (i := 217) (by decide +kernel) (by decide +kernel)
theorem wd_218 : (.static ⟨"WarpSearchLaw", "ask", "(LWarpSearch;II[J)I"⟩ : Cond) ∈ WA := wa_in (i := 218) (by decide +kernel) (by decide +kernel)
set_option maxRecDepth 20000 in
theorem wd_219 : (.codeWith ⟨"WarpSearchLaw", "ask", "(LWarpSearch;II[J)I"⟩ method_4_code 5 (some .int) [(0, 10, 13, 19), (0, 10, 17, 13)] : Cond) ∈ WA := wa_in (i := 219) rfl (by decide +kernel)
theorem wd_220 : (.classLink "WarpSearchLaw" 19 "java/lang/IndexOutOfBoundsException" : Cond) ∈ WA := wa_in (i := 220) (by decide +kernel) (by decide +kernel)
theorem wd_221 : (.methodLink "WarpSearchLaw" 15 ⟨"WarpSearch", "ask", "(II)I"⟩ : Cond) ∈ WA := wa_in (i := 221) (by decide +kernel) (by decide +kernel)
theorem wd_222 : (.instanceMethod ⟨"WarpSearch", "ask", "(II)I"⟩ : Cond) ∈ WA := wa_in (i := 222) (by decide +kernel) (by decide +kernel)
theorem wd_223 : (.selects "WarpSearch" ⟨"WarpSearch", "ask", "(II)I"⟩ ⟨"WarpSearch", "ask", "(II)I"⟩ : Cond) ∈ WA := wa_in (i := 223) (by decide +kernel) (by decide +kernel)
set_option maxRecDepth 20000 in
theorem wd_224 : (.code ⟨"WarpSearch", "ask", "(II)I"⟩ prog_1_method_3_code 4 (some .int) : Cond) ∈ WA := wa_in (i := 224) rfl (by decide +kernel)
theorem wd_225 : (.classLink "WarpSearch" 69 "java/lang/IndexOutOfBoundsException" : Cond) ∈ WA := wa_in (i := 225) (by decide +kernel) (by decide +kernel)
theorem wd_226 : (.instantiable "java/lang/IndexOutOfBoundsException" 6 : Cond) ∈ WA := wa_in (i := 226) (by decide +kernel) (by decide +kernel)
theorem wd_228 : (.selects "java/lang/IndexOutOfBoundsException" ⟨"java/lang/Throwable", "fillInStackTrace", "(I)Ljava/lang/Throwable;"⟩ ⟨"java/lang/Throwable", "fillInStackTrace", "(I)Ljava/lang/Throwable;"⟩ : Cond) ∈ WA := wa_in (i := 228) (by decide +kernel) (by decide +kernel)
theorem wd_229 : (.lays "java/lang/IndexOutOfBoundsException" "java/lang/Throwable" "cause" "Ljava/lang/Throwable;" : Cond) ∈ WA := wa_in (i := 229) (by decide +kernel) (by decide +kernel)
theorem wd_230 : (.lays "java/lang/IndexOutOfBoundsException" "java/lang/Throwable" "stackTrace" "[Ljava/lang/StackTraceElement;" : Cond) ∈ WA := wa_in (i := 230) (by decide +kernel) (by decide +kernel)
theorem wd_231 : (.lays "java/lang/IndexOutOfBoundsException" "java/lang/Throwable" "suppressedExceptions" "Ljava/util/List;" : Cond) ∈ WA := wa_in (i := 231) (by decide +kernel) (by decide +kernel)
theorem wd_232 : (.lays "java/lang/IndexOutOfBoundsException" "java/lang/Throwable" "detailMessage" "Ljava/lang/String;" : Cond) ∈ WA := wa_in (i := 232) (by decide +kernel) (by decide +kernel)
theorem wd_233 : (.lays "java/lang/IndexOutOfBoundsException" "java/lang/Throwable" "backtrace" "Ljava/lang/Object;" : Cond) ∈ WA := wa_in (i := 233) (by decide +kernel) (by decide +kernel)
theorem wd_235 : (.methodLink "WarpSearch" 73 ⟨"java/lang/IndexOutOfBoundsException", "<init>", "(Ljava/lang/String;)V"⟩ : Cond) ∈ WA := wa_in (i := 235) (by decide +kernel) (by decide +kernel)
theorem wd_236 : (.instanceMethod ⟨"java/lang/IndexOutOfBoundsException", "<init>", "(Ljava/lang/String;)V"⟩ : Cond) ∈ WA := wa_in (i := 236) (by decide +kernel) (by decide +kernel)
set_option maxRecDepth 20000 in
theorem wd_237 : (.code ⟨"java/lang/IndexOutOfBoundsException", "<init>", "(Ljava/lang/String;)V"⟩ prog_9_method_2_code 2 none : Cond) ∈ WA := wa_in (i := 237) rfl (by decide +kernel)
theorem wd_238 : (.methodLink "java/lang/IndexOutOfBoundsException" 7 ⟨"java/lang/RuntimeException", "<init>", "(Ljava/lang/String;)V"⟩ : Cond) ∈ WA := wa_in (i := 238) (by decide +kernel) (by decide +kernel)
theorem wd_239 : (.lays "java/lang/IndexOutOfBoundsException" "java/lang/Throwable" "depth" "I" : Cond) ∈ WA := wa_in (i := 239) (by decide +kernel) (by decide +kernel)
theorem wd_241 : (.methodLink "WarpSearch" 74 ⟨"WarpSearch", "isValue", "(I)Z"⟩ : Cond) ∈ WA := wa_in (i := 241) (by decide +kernel) (by decide +kernel)
theorem wd_242 : (.static ⟨"WarpSearch", "isValue", "(I)Z"⟩ : Cond) ∈ WA := wa_in (i := 242) (by decide +kernel) (by decide +kernel)
set_option maxRecDepth 20000 in
theorem wd_243 : (.code ⟨"WarpSearch", "isValue", "(I)Z"⟩ prog_1_method_18_code 1 (some .boolean) : Cond) ∈ WA := wa_in (i := 243) rfl (by decide +kernel)
theorem wd_245 : (.methodLink "WarpSearchLaw" 85 ⟨"WarpSearchLaw", "keep", "(LWarpSearch;I[J)I"⟩ : Cond) ∈ WA := wa_in (i := 245) (by decide +kernel) (by decide +kernel)
theorem wd_246 : (.static ⟨"WarpSearchLaw", "keep", "(LWarpSearch;I[J)I"⟩ : Cond) ∈ WA := wa_in (i := 246) (by decide +kernel) (by decide +kernel)
set_option maxRecDepth 20000 in
theorem wd_247 : (.codeWith ⟨"WarpSearchLaw", "keep", "(LWarpSearch;I[J)I"⟩ method_5_code 4 (some .int) [(0, 9, 12, 13), (0, 9, 15, 25)] : Cond) ∈ WA := wa_in (i := 247) rfl (by decide +kernel)
theorem wd_248 : (.classLink "WarpSearchLaw" 25 "java/lang/IllegalStateException" : Cond) ∈ WA := wa_in (i := 248) (by decide +kernel) (by decide +kernel)
theorem wd_249 : (.methodLink "WarpSearchLaw" 21 ⟨"WarpSearch", "keep", "(I)I"⟩ : Cond) ∈ WA := wa_in (i := 249) (by decide +kernel) (by decide +kernel)
theorem wd_250 : (.instanceMethod ⟨"WarpSearch", "keep", "(I)I"⟩ : Cond) ∈ WA := wa_in (i := 250) (by decide +kernel) (by decide +kernel)
theorem wd_251 : (.selects "WarpSearch" ⟨"WarpSearch", "keep", "(I)I"⟩ ⟨"WarpSearch", "keep", "(I)I"⟩ : Cond) ∈ WA := wa_in (i := 251) (by decide +kernel) (by decide +kernel)
set_option maxRecDepth 20000 in
theorem wd_252 : (.code ⟨"WarpSearch", "keep", "(I)I"⟩ prog_1_method_4_code 3 (some .int) : Cond) ∈ WA := wa_in (i := 252) rfl (by decide +kernel)
theorem wd_254 : (.classLink "WarpSearch" 82 "java/lang/IllegalStateException" : Cond) ∈ WA := wa_in (i := 254) (by decide +kernel) (by decide +kernel)
theorem wd_255 : (.instantiable "java/lang/IllegalStateException" 6 : Cond) ∈ WA := wa_in (i := 255) (by decide +kernel) (by decide +kernel)
theorem wd_257 : (.selects "java/lang/IllegalStateException" ⟨"java/lang/Throwable", "fillInStackTrace", "(I)Ljava/lang/Throwable;"⟩ ⟨"java/lang/Throwable", "fillInStackTrace", "(I)Ljava/lang/Throwable;"⟩ : Cond) ∈ WA := wa_in (i := 257) (by decide +kernel) (by decide +kernel)
theorem wd_258 : (.lays "java/lang/IllegalStateException" "java/lang/Throwable" "cause" "Ljava/lang/Throwable;" : Cond) ∈ WA := wa_in (i := 258) (by decide +kernel) (by decide +kernel)
theorem wd_259 : (.lays "java/lang/IllegalStateException" "java/lang/Throwable" "stackTrace" "[Ljava/lang/StackTraceElement;" : Cond) ∈ WA := wa_in (i := 259) (by decide +kernel) (by decide +kernel)
theorem wd_260 : (.lays "java/lang/IllegalStateException" "java/lang/Throwable" "suppressedExceptions" "Ljava/util/List;" : Cond) ∈ WA := wa_in (i := 260) (by decide +kernel) (by decide +kernel)
theorem wd_261 : (.lays "java/lang/IllegalStateException" "java/lang/Throwable" "detailMessage" "Ljava/lang/String;" : Cond) ∈ WA := wa_in (i := 261) (by decide +kernel) (by decide +kernel)
theorem wd_262 : (.lays "java/lang/IllegalStateException" "java/lang/Throwable" "backtrace" "Ljava/lang/Object;" : Cond) ∈ WA := wa_in (i := 262) (by decide +kernel) (by decide +kernel)
theorem wd_264 : (.methodLink "WarpSearch" 86 ⟨"java/lang/IllegalStateException", "<init>", "(Ljava/lang/String;)V"⟩ : Cond) ∈ WA := wa_in (i := 264) (by decide +kernel) (by decide +kernel)
theorem wd_265 : (.instanceMethod ⟨"java/lang/IllegalStateException", "<init>", "(Ljava/lang/String;)V"⟩ : Cond) ∈ WA := wa_in (i := 265) (by decide +kernel) (by decide +kernel)
set_option maxRecDepth 20000 in
theorem wd_266 : (.code ⟨"java/lang/IllegalStateException", "<init>", "(Ljava/lang/String;)V"⟩ prog_8_method_2_code 2 none : Cond) ∈ WA := wa_in (i := 266) rfl (by decide +kernel)
theorem wd_267 : (.methodLink "java/lang/IllegalStateException" 7 ⟨"java/lang/RuntimeException", "<init>", "(Ljava/lang/String;)V"⟩ : Cond) ∈ WA := wa_in (i := 267) (by decide +kernel) (by decide +kernel)
theorem wd_268 : (.lays "java/lang/IllegalStateException" "java/lang/Throwable" "depth" "I" : Cond) ∈ WA := wa_in (i := 268) (by decide +kernel) (by decide +kernel)
theorem wd_270 : (.methodLink "WarpSearch" 87 ⟨"java/lang/System", "arraycopy", "(Ljava/lang/Object;ILjava/lang/Object;II)V"⟩ : Cond) ∈ WA := wa_in (i := 270) (by decide +kernel) (by decide +kernel)
theorem wd_271 : (.static ⟨"java/lang/System", "arraycopy", "(Ljava/lang/Object;ILjava/lang/Object;II)V"⟩ : Cond) ∈ WA := wa_in (i := 271) (by decide +kernel) (by decide +kernel)
theorem wd_272 : (.native ⟨"java/lang/System", "arraycopy", "(Ljava/lang/Object;ILjava/lang/Object;II)V"⟩ : Cond) ∈ WA := wa_in (i := 272) (by decide +kernel) (by decide +kernel)
theorem wd_273 : (.methodLink "WarpSearchLaw" 89 ⟨"WarpSearchLaw", "recall", "(LWarpSearch;I)I"⟩ : Cond) ∈ WA := wa_in (i := 273) (by decide +kernel) (by decide +kernel)
theorem wd_274 : (.static ⟨"WarpSearchLaw", "recall", "(LWarpSearch;I)I"⟩ : Cond) ∈ WA := wa_in (i := 274) (by decide +kernel) (by decide +kernel)
set_option maxRecDepth 20000 in
theorem wd_275 : (.codeWith ⟨"WarpSearchLaw", "recall", "(LWarpSearch;I)I"⟩ method_6_code 3 (some .int) [(0, 5, 8, 19)] : Cond) ∈ WA := wa_in (i := 275) rfl (by decide +kernel)
theorem wd_276 : (.methodLink "WarpSearchLaw" 27 ⟨"WarpSearch", "recall", "(I)V"⟩ : Cond) ∈ WA := wa_in (i := 276) (by decide +kernel) (by decide +kernel)
theorem wd_277 : (.instanceMethod ⟨"WarpSearch", "recall", "(I)V"⟩ : Cond) ∈ WA := wa_in (i := 277) (by decide +kernel) (by decide +kernel)
theorem wd_278 : (.selects "WarpSearch" ⟨"WarpSearch", "recall", "(I)V"⟩ ⟨"WarpSearch", "recall", "(I)V"⟩ : Cond) ∈ WA := wa_in (i := 278) (by decide +kernel) (by decide +kernel)
set_option maxRecDepth 20000 in
theorem wd_279 : (.code ⟨"WarpSearch", "recall", "(I)V"⟩ prog_1_method_5_code 2 none : Cond) ∈ WA := wa_in (i := 279) rfl (by decide +kernel)
theorem wd_280 : (.methodLink "WarpSearch" 93 ⟨"WarpSearch", "checkRow", "(I)V"⟩ : Cond) ∈ WA := wa_in (i := 280) (by decide +kernel) (by decide +kernel)
theorem wd_282 : (.instanceMethod ⟨"WarpSearch", "checkRow", "(I)V"⟩ : Cond) ∈ WA := wa_in (i := 282) (by decide +kernel) (by decide +kernel)
set_option maxRecDepth 20000 in
theorem wd_283 : (.code ⟨"WarpSearch", "checkRow", "(I)V"⟩ prog_1_method_19_code 2 none : Cond) ∈ WA := wa_in (i := 283) rfl (by decide +kernel)
theorem wd_285 : (.methodLink "WarpSearchLaw" 92 ⟨"WarpSearchLaw", "band", "(LWarpSearch;I[J)I"⟩ : Cond) ∈ WA := wa_in (i := 285) (by decide +kernel) (by decide +kernel)
theorem wd_286 : (.static ⟨"WarpSearchLaw", "band", "(LWarpSearch;I[J)I"⟩ : Cond) ∈ WA := wa_in (i := 286) (by decide +kernel) (by decide +kernel)
set_option maxRecDepth 20000 in
theorem wd_287 : (.codeWith ⟨"WarpSearchLaw", "band", "(LWarpSearch;I[J)I"⟩ method_7_code 4 (some .int) [(0, 9, 12, 13)] : Cond) ∈ WA := wa_in (i := 287) rfl (by decide +kernel)
theorem wd_288 : (.methodLink "WarpSearchLaw" 30 ⟨"WarpSearch", "band", "(I)I"⟩ : Cond) ∈ WA := wa_in (i := 288) (by decide +kernel) (by decide +kernel)
theorem wd_289 : (.instanceMethod ⟨"WarpSearch", "band", "(I)I"⟩ : Cond) ∈ WA := wa_in (i := 289) (by decide +kernel) (by decide +kernel)
theorem wd_290 : (.selects "WarpSearch" ⟨"WarpSearch", "band", "(I)I"⟩ ⟨"WarpSearch", "band", "(I)I"⟩ : Cond) ∈ WA := wa_in (i := 290) (by decide +kernel) (by decide +kernel)
set_option maxRecDepth 20000 in
theorem wd_291 : (.code ⟨"WarpSearch", "band", "(I)I"⟩ prog_1_method_6_code 3 (some .int) : Cond) ∈ WA := wa_in (i := 291) rfl (by decide +kernel)
theorem wd_293 : (.methodLink "WarpSearchLaw" 95 ⟨"WarpSearchLaw", "distance", "(LWarpSearch;I[J)I"⟩ : Cond) ∈ WA := wa_in (i := 293) (by decide +kernel) (by decide +kernel)
theorem wd_294 : (.static ⟨"WarpSearchLaw", "distance", "(LWarpSearch;I[J)I"⟩ : Cond) ∈ WA := wa_in (i := 294) (by decide +kernel) (by decide +kernel)
set_option maxRecDepth 20000 in
theorem wd_295 : (.codeWith ⟨"WarpSearchLaw", "distance", "(LWarpSearch;I[J)I"⟩ method_8_code 4 (some .int) [(0, 9, 12, 19)] : Cond) ∈ WA := wa_in (i := 295) rfl (by decide +kernel)
theorem wd_296 : (.methodLink "WarpSearchLaw" 33 ⟨"WarpSearch", "distance", "(I)I"⟩ : Cond) ∈ WA := wa_in (i := 296) (by decide +kernel) (by decide +kernel)
theorem wd_297 : (.instanceMethod ⟨"WarpSearch", "distance", "(I)I"⟩ : Cond) ∈ WA := wa_in (i := 297) (by decide +kernel) (by decide +kernel)
theorem wd_298 : (.selects "WarpSearch" ⟨"WarpSearch", "distance", "(I)I"⟩ ⟨"WarpSearch", "distance", "(I)I"⟩ : Cond) ∈ WA := wa_in (i := 298) (by decide +kernel) (by decide +kernel)
set_option maxRecDepth 20000 in
theorem wd_299 : (.code ⟨"WarpSearch", "distance", "(I)I"⟩ prog_1_method_7_code 2 (some .int) : Cond) ∈ WA := wa_in (i := 299) rfl (by decide +kernel)
theorem wd_300 : (.methodLink "WarpSearch" 98 ⟨"WarpSearch", "placeRow", "(I)V"⟩ : Cond) ∈ WA := wa_in (i := 300) (by decide +kernel) (by decide +kernel)
theorem wd_302 : (.instanceMethod ⟨"WarpSearch", "placeRow", "(I)V"⟩ : Cond) ∈ WA := wa_in (i := 302) (by decide +kernel) (by decide +kernel)
set_option maxRecDepth 20000 in
theorem wd_303 : (.code ⟨"WarpSearch", "placeRow", "(I)V"⟩ prog_1_method_22_code 2 none : Cond) ∈ WA := wa_in (i := 303) rfl (by decide +kernel)
theorem wd_304 : (.methodLink "WarpSearch" 157 ⟨"WarpSearch$Comparison", "placeQuestion", "([III)V"⟩ : Cond) ∈ WA := wa_in (i := 304) (by decide +kernel) (by decide +kernel)
theorem wd_305 : (.instanceMethod ⟨"WarpSearch$Comparison", "placeQuestion", "([III)V"⟩ : Cond) ∈ WA := wa_in (i := 305) (by decide +kernel) (by decide +kernel)
theorem wd_306 : (.selects "WarpSearch$Comparison" ⟨"WarpSearch$Comparison", "placeQuestion", "([III)V"⟩ ⟨"WarpSearch$Comparison", "placeQuestion", "([III)V"⟩ : Cond) ∈ WA := wa_in (i := 306) (by decide +kernel) (by decide +kernel)
set_option maxRecDepth 20000 in
theorem wd_307 : (.code ⟨"WarpSearch$Comparison", "placeQuestion", "([III)V"⟩ prog_2_method_2_code 4 none : Cond) ∈ WA := wa_in (i := 307) rfl (by decide +kernel)
theorem wd_308 : (.methodLink "WarpSearch$Comparison" 34 ⟨"java/lang/System", "arraycopy", "(Ljava/lang/Object;ILjava/lang/Object;II)V"⟩ : Cond) ∈ WA := wa_in (i := 308) (by decide +kernel) (by decide +kernel)
theorem wd_309 : (.methodLink "WarpSearch" 161 ⟨"WarpSearch$Comparison", "placeBeside", "([II)V"⟩ : Cond) ∈ WA := wa_in (i := 309) (by decide +kernel) (by decide +kernel)
theorem wd_310 : (.instanceMethod ⟨"WarpSearch$Comparison", "placeBeside", "([II)V"⟩ : Cond) ∈ WA := wa_in (i := 310) (by decide +kernel) (by decide +kernel)
theorem wd_311 : (.selects "WarpSearch$Comparison" ⟨"WarpSearch$Comparison", "placeBeside", "([II)V"⟩ ⟨"WarpSearch$Comparison", "placeBeside", "([II)V"⟩ : Cond) ∈ WA := wa_in (i := 311) (by decide +kernel) (by decide +kernel)
set_option maxRecDepth 20000 in
theorem wd_312 : (.code ⟨"WarpSearch$Comparison", "placeBeside", "([II)V"⟩ prog_2_method_3_code 3 none : Cond) ∈ WA := wa_in (i := 312) rfl (by decide +kernel)
theorem wd_313 : (.methodLink "WarpSearch" 101 ⟨"WarpSearch$Comparison", "leastCost", "(I)I"⟩ : Cond) ∈ WA := wa_in (i := 313) (by decide +kernel) (by decide +kernel)
theorem wd_314 : (.instanceMethod ⟨"WarpSearch$Comparison", "leastCost", "(I)I"⟩ : Cond) ∈ WA := wa_in (i := 314) (by decide +kernel) (by decide +kernel)
theorem wd_315 : (.selects "WarpSearch$Comparison" ⟨"WarpSearch$Comparison", "leastCost", "(I)I"⟩ ⟨"WarpSearch$Comparison", "leastCost", "(I)I"⟩ : Cond) ∈ WA := wa_in (i := 315) (by decide +kernel) (by decide +kernel)
set_option maxRecDepth 20000 in
theorem wd_316 : (.code ⟨"WarpSearch$Comparison", "leastCost", "(I)I"⟩ prog_2_method_7_code 4 (some .int) : Cond) ∈ WA := wa_in (i := 316) rfl (by decide +kernel)
theorem wd_317 : (.methodLink "WarpSearch$Comparison" 67 ⟨"WarpSearch$Comparison", "fillLine", "(I)I"⟩ : Cond) ∈ WA := wa_in (i := 317) (by decide +kernel) (by decide +kernel)
theorem wd_319 : (.instanceMethod ⟨"WarpSearch$Comparison", "fillLine", "(I)I"⟩ : Cond) ∈ WA := wa_in (i := 319) (by decide +kernel) (by decide +kernel)
set_option maxRecDepth 20000 in
theorem wd_320 : (.code ⟨"WarpSearch$Comparison", "fillLine", "(I)I"⟩ prog_2_method_8_code 6 (some .int) : Cond) ∈ WA := wa_in (i := 320) rfl (by decide +kernel)
theorem wd_321 : (.constant "WarpSearch$Comparison" 73 1000000000 : Cond) ∈ WA := wa_in (i := 321) (by decide +kernel) (by decide +kernel)
theorem wd_322 : (.methodLink "WarpSearch$Comparison" 48 ⟨"WarpSearch$Comparison", "lastInBand", "(I)I"⟩ : Cond) ∈ WA := wa_in (i := 322) (by decide +kernel) (by decide +kernel)
theorem wd_324 : (.instanceMethod ⟨"WarpSearch$Comparison", "lastInBand", "(I)I"⟩ : Cond) ∈ WA := wa_in (i := 324) (by decide +kernel) (by decide +kernel)
set_option maxRecDepth 20000 in
theorem wd_325 : (.code ⟨"WarpSearch$Comparison", "lastInBand", "(I)I"⟩ prog_2_method_14_code 2 (some .int) : Cond) ∈ WA := wa_in (i := 325) rfl (by decide +kernel)
theorem wd_326 : (.methodLink "WarpSearch$Comparison" 51 ⟨"WarpSearch$Comparison", "firstInBand", "(I)I"⟩ : Cond) ∈ WA := wa_in (i := 326) (by decide +kernel) (by decide +kernel)
theorem wd_328 : (.instanceMethod ⟨"WarpSearch$Comparison", "firstInBand", "(I)I"⟩ : Cond) ∈ WA := wa_in (i := 328) (by decide +kernel) (by decide +kernel)
set_option maxRecDepth 20000 in
theorem wd_329 : (.code ⟨"WarpSearch$Comparison", "firstInBand", "(I)I"⟩ prog_2_method_13_code 2 (some .int) : Cond) ∈ WA := wa_in (i := 329) rfl (by decide +kernel)
theorem wd_330 : (.methodLink "WarpSearch$Comparison" 74 ⟨"WarpSearch$Comparison", "leastBefore", "(II)I"⟩ : Cond) ∈ WA := wa_in (i := 330) (by decide +kernel) (by decide +kernel)
theorem wd_332 : (.instanceMethod ⟨"WarpSearch$Comparison", "leastBefore", "(II)I"⟩ : Cond) ∈ WA := wa_in (i := 332) (by decide +kernel) (by decide +kernel)
set_option maxRecDepth 20000 in
theorem wd_333 : (.code ⟨"WarpSearch$Comparison", "leastBefore", "(II)I"⟩ prog_2_method_9_code 3 (some .int) : Cond) ∈ WA := wa_in (i := 333) rfl (by decide +kernel)
theorem wd_334 : (.methodLink "WarpSearch$Comparison" 70 ⟨"WarpSearch$Comparison", "costAt", "(II)I"⟩ : Cond) ∈ WA := wa_in (i := 334) (by decide +kernel) (by decide +kernel)
theorem wd_336 : (.instanceMethod ⟨"WarpSearch$Comparison", "costAt", "(II)I"⟩ : Cond) ∈ WA := wa_in (i := 336) (by decide +kernel) (by decide +kernel)
set_option maxRecDepth 20000 in
theorem wd_337 : (.code ⟨"WarpSearch$Comparison", "costAt", "(II)I"⟩ prog_2_method_10_code 4 (some .int) : Cond) ∈ WA := wa_in (i := 337) rfl (by decide +kernel)
theorem wd_338 : (.methodLink "WarpSearch$Comparison" 54 ⟨"java/lang/Math", "min", "(II)I"⟩ : Cond) ∈ WA := wa_in (i := 338) (by decide +kernel) (by decide +kernel)
theorem wd_339 : (.static ⟨"java/lang/Math", "min", "(II)I"⟩ : Cond) ∈ WA := wa_in (i := 339) (by decide +kernel) (by decide +kernel)
set_option maxRecDepth 20000 in
theorem wd_340 : (.code ⟨"java/lang/Math", "min", "(II)I"⟩ prog_10_method_69_code 2 (some .int) : Cond) ∈ WA := wa_in (i := 340) rfl (by decide +kernel)
theorem wd_341 : (.methodLink "WarpSearch$Comparison" 40 ⟨"WarpSearch$Comparison", "square", "(I)I"⟩ : Cond) ∈ WA := wa_in (i := 341) (by decide +kernel) (by decide +kernel)
theorem wd_342 : (.static ⟨"WarpSearch$Comparison", "square", "(I)I"⟩ : Cond) ∈ WA := wa_in (i := 342) (by decide +kernel) (by decide +kernel)
set_option maxRecDepth 20000 in
theorem wd_343 : (.code ⟨"WarpSearch$Comparison", "square", "(I)I"⟩ prog_2_method_15_code 1 (some .int) : Cond) ∈ WA := wa_in (i := 343) rfl (by decide +kernel)
theorem wd_344 : (.methodLink "WarpSearchLaw" 98 ⟨"WarpSearchLaw", "bound", "(LWarpSearch;II[J)I"⟩ : Cond) ∈ WA := wa_in (i := 344) (by decide +kernel) (by decide +kernel)
theorem wd_345 : (.static ⟨"WarpSearchLaw", "bound", "(LWarpSearch;II[J)I"⟩ : Cond) ∈ WA := wa_in (i := 345) (by decide +kernel) (by decide +kernel)
set_option maxRecDepth 20000 in
theorem wd_346 : (.codeWith ⟨"WarpSearchLaw", "bound", "(LWarpSearch;II[J)I"⟩ method_9_code 5 (some .int) [(0, 10, 13, 19), (0, 10, 17, 13)] : Cond) ∈ WA := wa_in (i := 346) rfl (by decide +kernel)
theorem wd_347 : (.methodLink "WarpSearchLaw" 36 ⟨"WarpSearch", "bound", "(II)I"⟩ : Cond) ∈ WA := wa_in (i := 347) (by decide +kernel) (by decide +kernel)
theorem wd_348 : (.instanceMethod ⟨"WarpSearch", "bound", "(II)I"⟩ : Cond) ∈ WA := wa_in (i := 348) (by decide +kernel) (by decide +kernel)
theorem wd_349 : (.selects "WarpSearch" ⟨"WarpSearch", "bound", "(II)I"⟩ ⟨"WarpSearch", "bound", "(II)I"⟩ : Cond) ∈ WA := wa_in (i := 349) (by decide +kernel) (by decide +kernel)
set_option maxRecDepth 20000 in
theorem wd_350 : (.code ⟨"WarpSearch", "bound", "(II)I"⟩ prog_1_method_8_code 3 (some .int) : Cond) ∈ WA := wa_in (i := 350) rfl (by decide +kernel)
theorem wd_352 : (.methodLink "WarpSearch" 107 ⟨"WarpSearch$Comparison", "lowerBound", "(I)I"⟩ : Cond) ∈ WA := wa_in (i := 352) (by decide +kernel) (by decide +kernel)
theorem wd_353 : (.instanceMethod ⟨"WarpSearch$Comparison", "lowerBound", "(I)I"⟩ : Cond) ∈ WA := wa_in (i := 353) (by decide +kernel) (by decide +kernel)
theorem wd_354 : (.selects "WarpSearch$Comparison" ⟨"WarpSearch$Comparison", "lowerBound", "(I)I"⟩ ⟨"WarpSearch$Comparison", "lowerBound", "(I)I"⟩ : Cond) ∈ WA := wa_in (i := 354) (by decide +kernel) (by decide +kernel)
set_option maxRecDepth 20000 in
theorem wd_355 : (.code ⟨"WarpSearch$Comparison", "lowerBound", "(I)I"⟩ prog_2_method_4_code 2 (some .int) : Cond) ∈ WA := wa_in (i := 355) rfl (by decide +kernel)
theorem wd_356 : (.methodLink "WarpSearch$Comparison" 44 ⟨"WarpSearch$Comparison", "hullBound", "([I[I)I"⟩ : Cond) ∈ WA := wa_in (i := 356) (by decide +kernel) (by decide +kernel)
theorem wd_358 : (.instanceMethod ⟨"WarpSearch$Comparison", "hullBound", "([I[I)I"⟩ : Cond) ∈ WA := wa_in (i := 358) (by decide +kernel) (by decide +kernel)
set_option maxRecDepth 20000 in
theorem wd_359 : (.code ⟨"WarpSearch$Comparison", "hullBound", "([I[I)I"⟩ prog_2_method_5_code 9 (some .int) : Cond) ∈ WA := wa_in (i := 359) rfl (by decide +kernel)
theorem wd_360 : (.methodLink "WarpSearch$Comparison" 60 ⟨"java/lang/Math", "max", "(II)I"⟩ : Cond) ∈ WA := wa_in (i := 360) (by decide +kernel) (by decide +kernel)
theorem wd_361 : (.static ⟨"java/lang/Math", "max", "(II)I"⟩ : Cond) ∈ WA := wa_in (i := 361) (by decide +kernel) (by decide +kernel)
set_option maxRecDepth 20000 in
theorem wd_362 : (.code ⟨"java/lang/Math", "max", "(II)I"⟩ prog_10_method_65_code 2 (some .int) : Cond) ∈ WA := wa_in (i := 362) rfl (by decide +kernel)
theorem wd_363 : (.methodLink "WarpSearch$Comparison" 63 ⟨"WarpSearch$Comparison", "gap", "(III)I"⟩ : Cond) ∈ WA := wa_in (i := 363) (by decide +kernel) (by decide +kernel)
theorem wd_364 : (.static ⟨"WarpSearch$Comparison", "gap", "(III)I"⟩ : Cond) ∈ WA := wa_in (i := 364) (by decide +kernel) (by decide +kernel)
set_option maxRecDepth 20000 in
theorem wd_365 : (.code ⟨"WarpSearch$Comparison", "gap", "(III)I"⟩ prog_2_method_6_code 3 (some .int) : Cond) ∈ WA := wa_in (i := 365) rfl (by decide +kernel)
theorem wd_366 : (.methodLink "WarpSearchLaw" 101 ⟨"WarpSearchLaw", "steps", "(LWarpSearch;I[J)I"⟩ : Cond) ∈ WA := wa_in (i := 366) (by decide +kernel) (by decide +kernel)
theorem wd_367 : (.static ⟨"WarpSearchLaw", "steps", "(LWarpSearch;I[J)I"⟩ : Cond) ∈ WA := wa_in (i := 367) (by decide +kernel) (by decide +kernel)
set_option maxRecDepth 20000 in
theorem wd_368 : (.codeWith ⟨"WarpSearchLaw", "steps", "(LWarpSearch;I[J)I"⟩ method_10_code 4 (some .int) [(0, 9, 12, 19)] : Cond) ∈ WA := wa_in (i := 368) rfl (by decide +kernel)
theorem wd_369 : (.methodLink "WarpSearchLaw" 39 ⟨"WarpSearch", "steps", "(I)I"⟩ : Cond) ∈ WA := wa_in (i := 369) (by decide +kernel) (by decide +kernel)
theorem wd_370 : (.instanceMethod ⟨"WarpSearch", "steps", "(I)I"⟩ : Cond) ∈ WA := wa_in (i := 370) (by decide +kernel) (by decide +kernel)
theorem wd_371 : (.selects "WarpSearch" ⟨"WarpSearch", "steps", "(I)I"⟩ ⟨"WarpSearch", "steps", "(I)I"⟩ : Cond) ∈ WA := wa_in (i := 371) (by decide +kernel) (by decide +kernel)
set_option maxRecDepth 20000 in
theorem wd_372 : (.code ⟨"WarpSearch", "steps", "(I)I"⟩ prog_1_method_9_code 2 (some .int) : Cond) ∈ WA := wa_in (i := 372) rfl (by decide +kernel)
theorem wd_373 : (.methodLink "WarpSearch" 110 ⟨"WarpSearch$Comparison", "tracePath", "()I"⟩ : Cond) ∈ WA := wa_in (i := 373) (by decide +kernel) (by decide +kernel)
theorem wd_374 : (.instanceMethod ⟨"WarpSearch$Comparison", "tracePath", "()I"⟩ : Cond) ∈ WA := wa_in (i := 374) (by decide +kernel) (by decide +kernel)
theorem wd_375 : (.selects "WarpSearch$Comparison" ⟨"WarpSearch$Comparison", "tracePath", "()I"⟩ ⟨"WarpSearch$Comparison", "tracePath", "()I"⟩ : Cond) ∈ WA := wa_in (i := 375) (by decide +kernel) (by decide +kernel)
set_option maxRecDepth 20000 in
theorem wd_376 : (.code ⟨"WarpSearch$Comparison", "tracePath", "()I"⟩ prog_2_method_11_code 9 (some .int) : Cond) ∈ WA := wa_in (i := 376) rfl (by decide +kernel)
theorem wd_377 : (.methodLink "WarpSearch$Comparison" 77 ⟨"WarpSearch$Comparison", "leastCost", "(I)I"⟩ : Cond) ∈ WA := wa_in (i := 377) (by decide +kernel) (by decide +kernel)
theorem wd_378 : (.methodLink "WarpSearchLaw" 104 ⟨"WarpSearchLaw", "pair", "(LWarpSearch;II[J)I"⟩ : Cond) ∈ WA := wa_in (i := 378) (by decide +kernel) (by decide +kernel)
theorem wd_379 : (.static ⟨"WarpSearchLaw", "pair", "(LWarpSearch;II[J)I"⟩ : Cond) ∈ WA := wa_in (i := 379) (by decide +kernel) (by decide +kernel)
set_option maxRecDepth 20000 in
theorem wd_380 : (.codeWith ⟨"WarpSearchLaw", "pair", "(LWarpSearch;II[J)I"⟩ method_11_code 5 (some .int) [(0, 10, 13, 19)] : Cond) ∈ WA := wa_in (i := 380) rfl (by decide +kernel)
theorem wd_381 : (.methodLink "WarpSearchLaw" 42 ⟨"WarpSearch", "pair", "(II)I"⟩ : Cond) ∈ WA := wa_in (i := 381) (by decide +kernel) (by decide +kernel)
theorem wd_382 : (.instanceMethod ⟨"WarpSearch", "pair", "(II)I"⟩ : Cond) ∈ WA := wa_in (i := 382) (by decide +kernel) (by decide +kernel)
theorem wd_383 : (.selects "WarpSearch" ⟨"WarpSearch", "pair", "(II)I"⟩ ⟨"WarpSearch", "pair", "(II)I"⟩ : Cond) ∈ WA := wa_in (i := 383) (by decide +kernel) (by decide +kernel)
set_option maxRecDepth 20000 in
theorem wd_384 : (.code ⟨"WarpSearch", "pair", "(II)I"⟩ prog_1_method_10_code 4 (some .int) : Cond) ∈ WA := wa_in (i := 384) rfl (by decide +kernel)
theorem wd_386 : (.methodLink "WarpSearch" 116 ⟨"WarpSearch$Comparison", "pairOfPath", "(I)I"⟩ : Cond) ∈ WA := wa_in (i := 386) (by decide +kernel) (by decide +kernel)
theorem wd_387 : (.instanceMethod ⟨"WarpSearch$Comparison", "pairOfPath", "(I)I"⟩ : Cond) ∈ WA := wa_in (i := 387) (by decide +kernel) (by decide +kernel)
theorem wd_388 : (.selects "WarpSearch$Comparison" ⟨"WarpSearch$Comparison", "pairOfPath", "(I)I"⟩ ⟨"WarpSearch$Comparison", "pairOfPath", "(I)I"⟩ : Cond) ∈ WA := wa_in (i := 388) (by decide +kernel) (by decide +kernel)
set_option maxRecDepth 20000 in
theorem wd_389 : (.code ⟨"WarpSearch$Comparison", "pairOfPath", "(I)I"⟩ prog_2_method_12_code 2 (some .int) : Cond) ∈ WA := wa_in (i := 389) rfl (by decide +kernel)
theorem wd_390 : (.methodLink "WarpSearchLaw" 107 ⟨"WarpSearchLaw", "search", "(LWarpSearch;I[J)I"⟩ : Cond) ∈ WA := wa_in (i := 390) (by decide +kernel) (by decide +kernel)
theorem wd_391 : (.static ⟨"WarpSearchLaw", "search", "(LWarpSearch;I[J)I"⟩ : Cond) ∈ WA := wa_in (i := 391) (by decide +kernel) (by decide +kernel)
set_option maxRecDepth 20000 in
theorem wd_392 : (.codeWith ⟨"WarpSearchLaw", "search", "(LWarpSearch;I[J)I"⟩ method_12_code 4 (some .int) [(0, 9, 12, 13), (0, 9, 15, 25)] : Cond) ∈ WA := wa_in (i := 392) rfl (by decide +kernel)
theorem wd_393 : (.methodLink "WarpSearchLaw" 45 ⟨"WarpSearch", "search", "(I)I"⟩ : Cond) ∈ WA := wa_in (i := 393) (by decide +kernel) (by decide +kernel)
theorem wd_394 : (.instanceMethod ⟨"WarpSearch", "search", "(I)I"⟩ : Cond) ∈ WA := wa_in (i := 394) (by decide +kernel) (by decide +kernel)
theorem wd_395 : (.selects "WarpSearch" ⟨"WarpSearch", "search", "(I)I"⟩ ⟨"WarpSearch", "search", "(I)I"⟩ : Cond) ∈ WA := wa_in (i := 395) (by decide +kernel) (by decide +kernel)
set_option maxRecDepth 20000 in
theorem wd_396 : (.code ⟨"WarpSearch", "search", "(I)I"⟩ prog_1_method_11_code 2 (some .int) : Cond) ∈ WA := wa_in (i := 396) rfl (by decide +kernel)
theorem wd_397 : (.methodLink "WarpSearch" 119 ⟨"WarpSearch", "checkWanted", "(I)V"⟩ : Cond) ∈ WA := wa_in (i := 397) (by decide +kernel) (by decide +kernel)
theorem wd_398 : (.static ⟨"WarpSearch", "checkWanted", "(I)V"⟩ : Cond) ∈ WA := wa_in (i := 398) (by decide +kernel) (by decide +kernel)
set_option maxRecDepth 20000 in
theorem wd_399 : (.code ⟨"WarpSearch", "checkWanted", "(I)V"⟩ prog_1_method_21_code 1 none : Cond) ∈ WA := wa_in (i := 399) rfl (by decide +kernel)
theorem wd_401 : (.methodLink "WarpSearch" 122 ⟨"WarpSearch", "checkAnyRow", "()V"⟩ : Cond) ∈ WA := wa_in (i := 401) (by decide +kernel) (by decide +kernel)
theorem wd_403 : (.instanceMethod ⟨"WarpSearch", "checkAnyRow", "()V"⟩ : Cond) ∈ WA := wa_in (i := 403) (by decide +kernel) (by decide +kernel)
set_option maxRecDepth 20000 in
theorem wd_404 : (.code ⟨"WarpSearch", "checkAnyRow", "()V"⟩ prog_1_method_20_code 1 none : Cond) ∈ WA := wa_in (i := 404) rfl (by decide +kernel)
theorem wd_406 : (.methodLink "WarpSearch" 125 ⟨"WarpSearch", "searchAmong", "([IIII)I"⟩ : Cond) ∈ WA := wa_in (i := 406) (by decide +kernel) (by decide +kernel)
theorem wd_408 : (.instanceMethod ⟨"WarpSearch", "searchAmong", "([IIII)I"⟩ : Cond) ∈ WA := wa_in (i := 408) (by decide +kernel) (by decide +kernel)
set_option maxRecDepth 20000 in
theorem wd_409 : (.code ⟨"WarpSearch", "searchAmong", "([IIII)I"⟩ prog_1_method_23_code 6 (some .int) : Cond) ∈ WA := wa_in (i := 409) rfl (by decide +kernel)
theorem wd_410 : (.methodLink "WarpSearch" 164 ⟨"WarpSearch", "weigh", "(I)V"⟩ : Cond) ∈ WA := wa_in (i := 410) (by decide +kernel) (by decide +kernel)
theorem wd_412 : (.instanceMethod ⟨"WarpSearch", "weigh", "(I)V"⟩ : Cond) ∈ WA := wa_in (i := 412) (by decide +kernel) (by decide +kernel)
set_option maxRecDepth 20000 in
theorem wd_413 : (.code ⟨"WarpSearch", "weigh", "(I)V"⟩ prog_1_method_24_code 5 none : Cond) ∈ WA := wa_in (i := 413) rfl (by decide +kernel)
theorem wd_414 : (.methodLink "WarpSearch" 167 ⟨"WarpSearch$Nearest", "limit", "()I"⟩ : Cond) ∈ WA := wa_in (i := 414) (by decide +kernel) (by decide +kernel)
theorem wd_415 : (.instanceMethod ⟨"WarpSearch$Nearest", "limit", "()I"⟩ : Cond) ∈ WA := wa_in (i := 415) (by decide +kernel) (by decide +kernel)
theorem wd_416 : (.selects "WarpSearch$Nearest" ⟨"WarpSearch$Nearest", "limit", "()I"⟩ ⟨"WarpSearch$Nearest", "limit", "()I"⟩ : Cond) ∈ WA := wa_in (i := 416) (by decide +kernel) (by decide +kernel)
set_option maxRecDepth 20000 in
theorem wd_417 : (.code ⟨"WarpSearch$Nearest", "limit", "()I"⟩ prog_3_method_3_code 1 (some .int) : Cond) ∈ WA := wa_in (i := 417) rfl (by decide +kernel)
theorem wd_418 : (.methodLink "WarpSearch" 170 ⟨"WarpSearch", "passingBound", "(I)I"⟩ : Cond) ∈ WA := wa_in (i := 418) (by decide +kernel) (by decide +kernel)
theorem wd_420 : (.instanceMethod ⟨"WarpSearch", "passingBound", "(I)I"⟩ : Cond) ∈ WA := wa_in (i := 420) (by decide +kernel) (by decide +kernel)
set_option maxRecDepth 20000 in
theorem wd_421 : (.code ⟨"WarpSearch", "passingBound", "(I)I"⟩ prog_1_method_25_code 3 (some .int) : Cond) ∈ WA := wa_in (i := 421) rfl (by decide +kernel)
theorem wd_422 : (.methodLink "WarpSearch" 173 ⟨"WarpSearch$Nearest", "insert", "(II)V"⟩ : Cond) ∈ WA := wa_in (i := 422) (by decide +kernel) (by decide +kernel)
theorem wd_423 : (.instanceMethod ⟨"WarpSearch$Nearest", "insert", "(II)V"⟩ : Cond) ∈ WA := wa_in (i := 423) (by decide +kernel) (by decide +kernel)
theorem wd_424 : (.selects "WarpSearch$Nearest" ⟨"WarpSearch$Nearest", "insert", "(II)V"⟩ ⟨"WarpSearch$Nearest", "insert", "(II)V"⟩ : Cond) ∈ WA := wa_in (i := 424) (by decide +kernel) (by decide +kernel)
set_option maxRecDepth 20000 in
theorem wd_425 : (.code ⟨"WarpSearch$Nearest", "insert", "(II)V"⟩ prog_3_method_4_code 4 none : Cond) ∈ WA := wa_in (i := 425) rfl (by decide +kernel)
theorem wd_426 : (.methodLink "WarpSearch$Nearest" 25 ⟨"java/lang/Math", "min", "(II)I"⟩ : Cond) ∈ WA := wa_in (i := 426) (by decide +kernel) (by decide +kernel)
theorem wd_427 : (.methodLink "WarpSearchLaw" 110 ⟨"WarpSearchLaw", "found", "(LWarpSearch;IZ[J)I"⟩ : Cond) ∈ WA := wa_in (i := 427) (by decide +kernel) (by decide +kernel)
theorem wd_428 : (.static ⟨"WarpSearchLaw", "found", "(LWarpSearch;IZ[J)I"⟩ : Cond) ∈ WA := wa_in (i := 428) (by decide +kernel) (by decide +kernel)
set_option maxRecDepth 20000 in
theorem wd_429 : (.codeWith ⟨"WarpSearchLaw", "found", "(LWarpSearch;IZ[J)I"⟩ method_13_code 5 (some .int) [(0, 10, 13, 19)] : Cond) ∈ WA := wa_in (i := 429) rfl (by decide +kernel)
theorem wd_430 : (.methodLink "WarpSearchLaw" 48 ⟨"WarpSearch", "found", "(IZ)I"⟩ : Cond) ∈ WA := wa_in (i := 430) (by decide +kernel) (by decide +kernel)
theorem wd_431 : (.instanceMethod ⟨"WarpSearch", "found", "(IZ)I"⟩ : Cond) ∈ WA := wa_in (i := 431) (by decide +kernel) (by decide +kernel)
theorem wd_432 : (.selects "WarpSearch" ⟨"WarpSearch", "found", "(IZ)I"⟩ ⟨"WarpSearch", "found", "(IZ)I"⟩ : Cond) ∈ WA := wa_in (i := 432) (by decide +kernel) (by decide +kernel)
set_option maxRecDepth 20000 in
theorem wd_433 : (.code ⟨"WarpSearch", "found", "(IZ)I"⟩ prog_1_method_12_code 3 (some .int) : Cond) ∈ WA := wa_in (i := 433) rfl (by decide +kernel)
theorem wd_435 : (.methodLink "WarpSearchLaw" 114 ⟨"WarpSearchLaw", "guess", "(LWarpSearch;I[J)I"⟩ : Cond) ∈ WA := wa_in (i := 435) (by decide +kernel) (by decide +kernel)
theorem wd_436 : (.static ⟨"WarpSearchLaw", "guess", "(LWarpSearch;I[J)I"⟩ : Cond) ∈ WA := wa_in (i := 436) (by decide +kernel) (by decide +kernel)
set_option maxRecDepth 20000 in
theorem wd_437 : (.codeWith ⟨"WarpSearchLaw", "guess", "(LWarpSearch;I[J)I"⟩ method_14_code 4 (some .int) [(0, 9, 12, 13), (0, 9, 15, 25)] : Cond) ∈ WA := wa_in (i := 437) rfl (by decide +kernel)
theorem wd_438 : (.methodLink "WarpSearchLaw" 52 ⟨"WarpSearch", "guess", "(I)I"⟩ : Cond) ∈ WA := wa_in (i := 438) (by decide +kernel) (by decide +kernel)
theorem wd_439 : (.instanceMethod ⟨"WarpSearch", "guess", "(I)I"⟩ : Cond) ∈ WA := wa_in (i := 439) (by decide +kernel) (by decide +kernel)
theorem wd_440 : (.selects "WarpSearch" ⟨"WarpSearch", "guess", "(I)I"⟩ ⟨"WarpSearch", "guess", "(I)I"⟩ : Cond) ∈ WA := wa_in (i := 440) (by decide +kernel) (by decide +kernel)
set_option maxRecDepth 20000 in
theorem wd_441 : (.code ⟨"WarpSearch", "guess", "(I)I"⟩ prog_1_method_13_code 8 (some .int) : Cond) ∈ WA := wa_in (i := 441) rfl (by decide +kernel)
theorem wd_442 : (.methodLink "WarpSearch" 140 ⟨"WarpSearch", "votesFor", "(I)I"⟩ : Cond) ∈ WA := wa_in (i := 442) (by decide +kernel) (by decide +kernel)
theorem wd_444 : (.instanceMethod ⟨"WarpSearch", "votesFor", "(I)I"⟩ : Cond) ∈ WA := wa_in (i := 444) (by decide +kernel) (by decide +kernel)
set_option maxRecDepth 20000 in
theorem wd_445 : (.code ⟨"WarpSearch", "votesFor", "(I)I"⟩ prog_1_method_26_code 4 (some .int) : Cond) ∈ WA := wa_in (i := 445) rfl (by decide +kernel)
theorem wd_446 : (.methodLink "WarpSearchLaw" 117 ⟨"WarpSearchLaw", "count", "(LWarpSearch;I[J)I"⟩ : Cond) ∈ WA := wa_in (i := 446) (by decide +kernel) (by decide +kernel)
theorem wd_447 : (.static ⟨"WarpSearchLaw", "count", "(LWarpSearch;I[J)I"⟩ : Cond) ∈ WA := wa_in (i := 447) (by decide +kernel) (by decide +kernel)
set_option maxRecDepth 20000 in
theorem wd_448 : (.codeWith ⟨"WarpSearchLaw", "count", "(LWarpSearch;I[J)I"⟩ method_15_code 4 (some .int) [(0, 9, 12, 13)] : Cond) ∈ WA := wa_in (i := 448) rfl (by decide +kernel)
theorem wd_449 : (.methodLink "WarpSearchLaw" 55 ⟨"WarpSearch", "count", "(I)I"⟩ : Cond) ∈ WA := wa_in (i := 449) (by decide +kernel) (by decide +kernel)
theorem wd_450 : (.instanceMethod ⟨"WarpSearch", "count", "(I)I"⟩ : Cond) ∈ WA := wa_in (i := 450) (by decide +kernel) (by decide +kernel)
theorem wd_451 : (.selects "WarpSearch" ⟨"WarpSearch", "count", "(I)I"⟩ ⟨"WarpSearch", "count", "(I)I"⟩ : Cond) ∈ WA := wa_in (i := 451) (by decide +kernel) (by decide +kernel)
set_option maxRecDepth 20000 in
theorem wd_452 : (.code ⟨"WarpSearch", "count", "(I)I"⟩ prog_1_method_14_code 2 (some .int) : Cond) ∈ WA := wa_in (i := 452) rfl (by decide +kernel)
theorem wd_454 : (.methodLink "WarpSearchLaw" 120 ⟨"WarpSearchLaw", "push", "(LWarpSearch;I[J)I"⟩ : Cond) ∈ WA := wa_in (i := 454) (by decide +kernel) (by decide +kernel)
theorem wd_455 : (.static ⟨"WarpSearchLaw", "push", "(LWarpSearch;I[J)I"⟩ : Cond) ∈ WA := wa_in (i := 455) (by decide +kernel) (by decide +kernel)
set_option maxRecDepth 20000 in
theorem wd_456 : (.codeWith ⟨"WarpSearchLaw", "push", "(LWarpSearch;I[J)I"⟩ method_16_code 4 (some .int) [(0, 9, 12, 13), (0, 9, 15, 25)] : Cond) ∈ WA := wa_in (i := 456) rfl (by decide +kernel)
theorem wd_457 : (.methodLink "WarpSearchLaw" 58 ⟨"WarpSearch", "push", "(I)I"⟩ : Cond) ∈ WA := wa_in (i := 457) (by decide +kernel) (by decide +kernel)
theorem wd_458 : (.instanceMethod ⟨"WarpSearch", "push", "(I)I"⟩ : Cond) ∈ WA := wa_in (i := 458) (by decide +kernel) (by decide +kernel)
theorem wd_459 : (.selects "WarpSearch" ⟨"WarpSearch", "push", "(I)I"⟩ ⟨"WarpSearch", "push", "(I)I"⟩ : Cond) ∈ WA := wa_in (i := 459) (by decide +kernel) (by decide +kernel)
set_option maxRecDepth 20000 in
theorem wd_460 : (.code ⟨"WarpSearch", "push", "(I)I"⟩ prog_1_method_15_code 2 (some .int) : Cond) ∈ WA := wa_in (i := 460) rfl (by decide +kernel)
theorem wd_462 : (.methodLink "WarpSearchLaw" 123 ⟨"WarpSearchLaw", "scan", "(LWarpSearch;I[J)I"⟩ : Cond) ∈ WA := wa_in (i := 462) (by decide +kernel) (by decide +kernel)
theorem wd_463 : (.static ⟨"WarpSearchLaw", "scan", "(LWarpSearch;I[J)I"⟩ : Cond) ∈ WA := wa_in (i := 463) (by decide +kernel) (by decide +kernel)
set_option maxRecDepth 20000 in
theorem wd_464 : (.codeWith ⟨"WarpSearchLaw", "scan", "(LWarpSearch;I[J)I"⟩ method_17_code 4 (some .int) [(0, 9, 12, 13), (0, 9, 15, 25)] : Cond) ∈ WA := wa_in (i := 464) rfl (by decide +kernel)
theorem wd_465 : (.methodLink "WarpSearchLaw" 61 ⟨"WarpSearch", "scan", "(I)I"⟩ : Cond) ∈ WA := wa_in (i := 465) (by decide +kernel) (by decide +kernel)
theorem wd_466 : (.instanceMethod ⟨"WarpSearch", "scan", "(I)I"⟩ : Cond) ∈ WA := wa_in (i := 466) (by decide +kernel) (by decide +kernel)
theorem wd_467 : (.selects "WarpSearch" ⟨"WarpSearch", "scan", "(I)I"⟩ ⟨"WarpSearch", "scan", "(I)I"⟩ : Cond) ∈ WA := wa_in (i := 467) (by decide +kernel) (by decide +kernel)
set_option maxRecDepth 20000 in
theorem wd_468 : (.code ⟨"WarpSearch", "scan", "(I)I"⟩ prog_1_method_16_code 2 (some .int) : Cond) ∈ WA := wa_in (i := 468) rfl (by decide +kernel)
theorem wd_470 : (.methodLink "WarpSearchLaw" 126 ⟨"WarpSearchLaw", "shift", "(LWarpSearch;I)I"⟩ : Cond) ∈ WA := wa_in (i := 470) (by decide +kernel) (by decide +kernel)
theorem wd_471 : (.static ⟨"WarpSearchLaw", "shift", "(LWarpSearch;I)I"⟩ : Cond) ∈ WA := wa_in (i := 471) (by decide +kernel) (by decide +kernel)
set_option maxRecDepth 20000 in
theorem wd_472 : (.codeWith ⟨"WarpSearchLaw", "shift", "(LWarpSearch;I)I"⟩ method_18_code 3 (some .int) [(0, 5, 8, 13)] : Cond) ∈ WA := wa_in (i := 472) rfl (by decide +kernel)
theorem wd_473 : (.methodLink "WarpSearchLaw" 64 ⟨"WarpSearch", "shift", "(I)V"⟩ : Cond) ∈ WA := wa_in (i := 473) (by decide +kernel) (by decide +kernel)
theorem wd_474 : (.instanceMethod ⟨"WarpSearch", "shift", "(I)V"⟩ : Cond) ∈ WA := wa_in (i := 474) (by decide +kernel) (by decide +kernel)
theorem wd_475 : (.selects "WarpSearch" ⟨"WarpSearch", "shift", "(I)V"⟩ ⟨"WarpSearch", "shift", "(I)V"⟩ : Cond) ∈ WA := wa_in (i := 475) (by decide +kernel) (by decide +kernel)
set_option maxRecDepth 20000 in
theorem wd_476 : (.code ⟨"WarpSearch", "shift", "(I)V"⟩ prog_1_method_17_code 2 none : Cond) ∈ WA := wa_in (i := 476) rfl (by decide +kernel)
theorem wd_478 : (.classLink "WarpSearchLaw" 68 "WarpSearchModel" : Cond) ∈ WA := wa_in (i := 478) (by decide +kernel) (by decide +kernel)
theorem wd_479 : (.instantiable "WarpSearchModel" 17 : Cond) ∈ WA := wa_in (i := 479) (by decide +kernel) (by decide +kernel)
theorem wd_480 : (.methodLink "WarpSearchLaw" 70 ⟨"WarpSearchModel", "<init>", "()V"⟩ : Cond) ∈ WA := wa_in (i := 480) (by decide +kernel) (by decide +kernel)
theorem wd_481 : (.instanceMethod ⟨"WarpSearchModel", "<init>", "()V"⟩ : Cond) ∈ WA := wa_in (i := 481) (by decide +kernel) (by decide +kernel)
set_option maxRecDepth 20000 in
theorem wd_482 : (.code ⟨"WarpSearchModel", "<init>", "()V"⟩ prog_5_method_1_code 1 none : Cond) ∈ WA := wa_in (i := 482) rfl (by decide +kernel)
theorem wd_483 : (.methodLink "WarpSearchModel" 1 ⟨"java/lang/Object", "<init>", "()V"⟩ : Cond) ∈ WA := wa_in (i := 483) (by decide +kernel) (by decide +kernel)
theorem wd_484 : (.fieldLink "WarpSearchModel" 44 "WarpSearchModel" "code" "I" : Cond) ∈ WA := wa_in (i := 484) (by decide +kernel) (by decide +kernel)
theorem wd_485 : (.fieldLink "WarpSearchModel" 7 "WarpSearchModel" "n" "I" : Cond) ∈ WA := wa_in (i := 485) (by decide +kernel) (by decide +kernel)
theorem wd_486 : (.fieldLink "WarpSearchModel" 61 "WarpSearchModel" "w" "I" : Cond) ∈ WA := wa_in (i := 486) (by decide +kernel) (by decide +kernel)
theorem wd_487 : (.fieldLink "WarpSearchModel" 13 "WarpSearchModel" "question" "[I" : Cond) ∈ WA := wa_in (i := 487) (by decide +kernel) (by decide +kernel)
theorem wd_488 : (.fieldLink "WarpSearchModel" 51 "WarpSearchModel" "rows" "I" : Cond) ∈ WA := wa_in (i := 488) (by decide +kernel) (by decide +kernel)
theorem wd_489 : (.fieldLink "WarpSearchModel" 17 "WarpSearchModel" "numbers" "[I" : Cond) ∈ WA := wa_in (i := 489) (by decide +kernel) (by decide +kernel)
theorem wd_490 : (.fieldLink "WarpSearchModel" 20 "WarpSearchModel" "labels" "[I" : Cond) ∈ WA := wa_in (i := 490) (by decide +kernel) (by decide +kernel)
theorem wd_491 : (.fieldLink "WarpSearchModel" 109 "WarpSearchModel" "length" "I" : Cond) ∈ WA := wa_in (i := 491) (by decide +kernel) (by decide +kernel)
theorem wd_492 : (.fieldLink "WarpSearchModel" 23 "WarpSearchModel" "stream" "[I" : Cond) ∈ WA := wa_in (i := 492) (by decide +kernel) (by decide +kernel)
theorem wd_493 : (.fieldLink "WarpSearchModel" 26 "WarpSearchModel" "row" "[I" : Cond) ∈ WA := wa_in (i := 493) (by decide +kernel) (by decide +kernel)
theorem wd_494 : (.fieldLink "WarpSearchModel" 29 "WarpSearchModel" "grid" "[I" : Cond) ∈ WA := wa_in (i := 494) (by decide +kernel) (by decide +kernel)
theorem wd_495 : (.fieldLink "WarpSearchModel" 32 "WarpSearchModel" "path" "[I" : Cond) ∈ WA := wa_in (i := 495) (by decide +kernel) (by decide +kernel)
theorem wd_496 : (.fieldLink "WarpSearchModel" 94 "WarpSearchModel" "most" "I" : Cond) ∈ WA := wa_in (i := 496) (by decide +kernel) (by decide +kernel)
theorem wd_497 : (.fieldLink "WarpSearchModel" 54 "WarpSearchModel" "found" "I" : Cond) ∈ WA := wa_in (i := 497) (by decide +kernel) (by decide +kernel)
theorem wd_498 : (.fieldLink "WarpSearchModel" 35 "WarpSearchModel" "places" "[I" : Cond) ∈ WA := wa_in (i := 498) (by decide +kernel) (by decide +kernel)
theorem wd_499 : (.fieldLink "WarpSearchModel" 38 "WarpSearchModel" "distances" "[I" : Cond) ∈ WA := wa_in (i := 499) (by decide +kernel) (by decide +kernel)
theorem wd_500 : (.fieldLink "WarpSearchModel" 41 "WarpSearchModel" "counts" "[I" : Cond) ∈ WA := wa_in (i := 500) (by decide +kernel) (by decide +kernel)
theorem wd_501 : (.lays "WarpSearchModel" "WarpSearchModel" "code" "I" : Cond) ∈ WA := wa_in (i := 501) (by decide +kernel) (by decide +kernel)
theorem wd_503 : (.lays "WarpSearchModel" "WarpSearchModel" "n" "I" : Cond) ∈ WA := wa_in (i := 503) (by decide +kernel) (by decide +kernel)
theorem wd_505 : (.lays "WarpSearchModel" "WarpSearchModel" "w" "I" : Cond) ∈ WA := wa_in (i := 505) (by decide +kernel) (by decide +kernel)
theorem wd_507 : (.lays "WarpSearchModel" "WarpSearchModel" "question" "[I" : Cond) ∈ WA := wa_in (i := 507) (by decide +kernel) (by decide +kernel)
theorem wd_509 : (.lays "WarpSearchModel" "WarpSearchModel" "rows" "I" : Cond) ∈ WA := wa_in (i := 509) (by decide +kernel) (by decide +kernel)
theorem wd_511 : (.lays "WarpSearchModel" "WarpSearchModel" "numbers" "[I" : Cond) ∈ WA := wa_in (i := 511) (by decide +kernel) (by decide +kernel)
theorem wd_513 : (.lays "WarpSearchModel" "WarpSearchModel" "labels" "[I" : Cond) ∈ WA := wa_in (i := 513) (by decide +kernel) (by decide +kernel)
theorem wd_515 : (.lays "WarpSearchModel" "WarpSearchModel" "length" "I" : Cond) ∈ WA := wa_in (i := 515) (by decide +kernel) (by decide +kernel)
theorem wd_517 : (.lays "WarpSearchModel" "WarpSearchModel" "stream" "[I" : Cond) ∈ WA := wa_in (i := 517) (by decide +kernel) (by decide +kernel)
theorem wd_519 : (.lays "WarpSearchModel" "WarpSearchModel" "row" "[I" : Cond) ∈ WA := wa_in (i := 519) (by decide +kernel) (by decide +kernel)
theorem wd_521 : (.lays "WarpSearchModel" "WarpSearchModel" "grid" "[I" : Cond) ∈ WA := wa_in (i := 521) (by decide +kernel) (by decide +kernel)
theorem wd_523 : (.lays "WarpSearchModel" "WarpSearchModel" "path" "[I" : Cond) ∈ WA := wa_in (i := 523) (by decide +kernel) (by decide +kernel)
theorem wd_525 : (.lays "WarpSearchModel" "WarpSearchModel" "most" "I" : Cond) ∈ WA := wa_in (i := 525) (by decide +kernel) (by decide +kernel)
theorem wd_527 : (.lays "WarpSearchModel" "WarpSearchModel" "found" "I" : Cond) ∈ WA := wa_in (i := 527) (by decide +kernel) (by decide +kernel)
theorem wd_529 : (.lays "WarpSearchModel" "WarpSearchModel" "places" "[I" : Cond) ∈ WA := wa_in (i := 529) (by decide +kernel) (by decide +kernel)
theorem wd_531 : (.lays "WarpSearchModel" "WarpSearchModel" "distances" "[I" : Cond) ∈ WA := wa_in (i := 531) (by decide +kernel) (by decide +kernel)
theorem wd_533 : (.lays "WarpSearchModel" "WarpSearchModel" "counts" "[I" : Cond) ∈ WA := wa_in (i := 533) (by decide +kernel) (by decide +kernel)
theorem wd_536 : (.methodLink "WarpSearchLaw" 77 ⟨"WarpSearchModel", "thrown", "()I"⟩ : Cond) ∈ WA := wa_in (i := 536) (by decide +kernel) (by decide +kernel)
theorem wd_537 : (.instanceMethod ⟨"WarpSearchModel", "thrown", "()I"⟩ : Cond) ∈ WA := wa_in (i := 537) (by decide +kernel) (by decide +kernel)
theorem wd_538 : (.selects "WarpSearchModel" ⟨"WarpSearchModel", "thrown", "()I"⟩ ⟨"WarpSearchModel", "thrown", "()I"⟩ : Cond) ∈ WA := wa_in (i := 538) (by decide +kernel) (by decide +kernel)
set_option maxRecDepth 20000 in
theorem wd_539 : (.code ⟨"WarpSearchModel", "thrown", "()I"⟩ prog_5_method_2_code 1 (some .int) : Cond) ∈ WA := wa_in (i := 539) rfl (by decide +kernel)
theorem wd_540 : (.methodLink "WarpSearchLaw" 76 ⟨"WarpSearchModel", "begin", "(I)V"⟩ : Cond) ∈ WA := wa_in (i := 540) (by decide +kernel) (by decide +kernel)
theorem wd_541 : (.instanceMethod ⟨"WarpSearchModel", "begin", "(I)V"⟩ : Cond) ∈ WA := wa_in (i := 541) (by decide +kernel) (by decide +kernel)
theorem wd_542 : (.selects "WarpSearchModel" ⟨"WarpSearchModel", "begin", "(I)V"⟩ ⟨"WarpSearchModel", "begin", "(I)V"⟩ : Cond) ∈ WA := wa_in (i := 542) (by decide +kernel) (by decide +kernel)
set_option maxRecDepth 20000 in
theorem wd_543 : (.code ⟨"WarpSearchModel", "begin", "(I)V"⟩ prog_5_method_4_code 3 none : Cond) ∈ WA := wa_in (i := 543) rfl (by decide +kernel)
theorem wd_544 : (.methodLink "WarpSearchModel" 47 ⟨"WarpSearchModel", "within", "(III)Z"⟩ : Cond) ∈ WA := wa_in (i := 544) (by decide +kernel) (by decide +kernel)
theorem wd_545 : (.static ⟨"WarpSearchModel", "within", "(III)Z"⟩ : Cond) ∈ WA := wa_in (i := 545) (by decide +kernel) (by decide +kernel)
set_option maxRecDepth 20000 in
theorem wd_546 : (.code ⟨"WarpSearchModel", "within", "(III)Z"⟩ prog_5_method_3_code 3 (some .boolean) : Cond) ∈ WA := wa_in (i := 546) rfl (by decide +kernel)
theorem wd_547 : (.methodLink "WarpSearchLaw" 84 ⟨"WarpSearchModel", "ask", "(II)I"⟩ : Cond) ∈ WA := wa_in (i := 547) (by decide +kernel) (by decide +kernel)
theorem wd_548 : (.instanceMethod ⟨"WarpSearchModel", "ask", "(II)I"⟩ : Cond) ∈ WA := wa_in (i := 548) (by decide +kernel) (by decide +kernel)
theorem wd_549 : (.selects "WarpSearchModel" ⟨"WarpSearchModel", "ask", "(II)I"⟩ ⟨"WarpSearchModel", "ask", "(II)I"⟩ : Cond) ∈ WA := wa_in (i := 549) (by decide +kernel) (by decide +kernel)
set_option maxRecDepth 20000 in
theorem wd_550 : (.code ⟨"WarpSearchModel", "ask", "(II)I"⟩ prog_5_method_5_code 4 (some .int) : Cond) ∈ WA := wa_in (i := 550) rfl (by decide +kernel)
theorem wd_551 : (.methodLink "WarpSearchLaw" 88 ⟨"WarpSearchModel", "keep", "(I)I"⟩ : Cond) ∈ WA := wa_in (i := 551) (by decide +kernel) (by decide +kernel)
theorem wd_552 : (.instanceMethod ⟨"WarpSearchModel", "keep", "(I)I"⟩ : Cond) ∈ WA := wa_in (i := 552) (by decide +kernel) (by decide +kernel)
theorem wd_553 : (.selects "WarpSearchModel" ⟨"WarpSearchModel", "keep", "(I)I"⟩ ⟨"WarpSearchModel", "keep", "(I)I"⟩ : Cond) ∈ WA := wa_in (i := 553) (by decide +kernel) (by decide +kernel)
set_option maxRecDepth 20000 in
theorem wd_554 : (.code ⟨"WarpSearchModel", "keep", "(I)I"⟩ prog_5_method_6_code 3 (some .int) : Cond) ∈ WA := wa_in (i := 554) rfl (by decide +kernel)
theorem wd_555 : (.methodLink "WarpSearchLaw" 91 ⟨"WarpSearchModel", "recall", "(I)V"⟩ : Cond) ∈ WA := wa_in (i := 555) (by decide +kernel) (by decide +kernel)
theorem wd_556 : (.instanceMethod ⟨"WarpSearchModel", "recall", "(I)V"⟩ : Cond) ∈ WA := wa_in (i := 556) (by decide +kernel) (by decide +kernel)
theorem wd_557 : (.selects "WarpSearchModel" ⟨"WarpSearchModel", "recall", "(I)V"⟩ ⟨"WarpSearchModel", "recall", "(I)V"⟩ : Cond) ∈ WA := wa_in (i := 557) (by decide +kernel) (by decide +kernel)
set_option maxRecDepth 20000 in
theorem wd_558 : (.code ⟨"WarpSearchModel", "recall", "(I)V"⟩ prog_5_method_8_code 3 none : Cond) ∈ WA := wa_in (i := 558) rfl (by decide +kernel)
theorem wd_559 : (.methodLink "WarpSearchModel" 57 ⟨"WarpSearchModel", "isRow", "(I)Z"⟩ : Cond) ∈ WA := wa_in (i := 559) (by decide +kernel) (by decide +kernel)
theorem wd_561 : (.instanceMethod ⟨"WarpSearchModel", "isRow", "(I)Z"⟩ : Cond) ∈ WA := wa_in (i := 561) (by decide +kernel) (by decide +kernel)
set_option maxRecDepth 20000 in
theorem wd_562 : (.code ⟨"WarpSearchModel", "isRow", "(I)Z"⟩ prog_5_method_7_code 2 (some .boolean) : Cond) ∈ WA := wa_in (i := 562) rfl (by decide +kernel)
theorem wd_563 : (.methodLink "WarpSearchLaw" 94 ⟨"WarpSearchModel", "band", "(I)I"⟩ : Cond) ∈ WA := wa_in (i := 563) (by decide +kernel) (by decide +kernel)
theorem wd_564 : (.instanceMethod ⟨"WarpSearchModel", "band", "(I)I"⟩ : Cond) ∈ WA := wa_in (i := 564) (by decide +kernel) (by decide +kernel)
theorem wd_565 : (.selects "WarpSearchModel" ⟨"WarpSearchModel", "band", "(I)I"⟩ ⟨"WarpSearchModel", "band", "(I)I"⟩ : Cond) ∈ WA := wa_in (i := 565) (by decide +kernel) (by decide +kernel)
set_option maxRecDepth 20000 in
theorem wd_566 : (.code ⟨"WarpSearchModel", "band", "(I)I"⟩ prog_5_method_9_code 3 (some .int) : Cond) ∈ WA := wa_in (i := 566) rfl (by decide +kernel)
theorem wd_567 : (.methodLink "WarpSearchLaw" 97 ⟨"WarpSearchModel", "distance", "(I)I"⟩ : Cond) ∈ WA := wa_in (i := 567) (by decide +kernel) (by decide +kernel)
theorem wd_568 : (.instanceMethod ⟨"WarpSearchModel", "distance", "(I)I"⟩ : Cond) ∈ WA := wa_in (i := 568) (by decide +kernel) (by decide +kernel)
theorem wd_569 : (.selects "WarpSearchModel" ⟨"WarpSearchModel", "distance", "(I)I"⟩ ⟨"WarpSearchModel", "distance", "(I)I"⟩ : Cond) ∈ WA := wa_in (i := 569) (by decide +kernel) (by decide +kernel)
set_option maxRecDepth 20000 in
theorem wd_570 : (.code ⟨"WarpSearchModel", "distance", "(I)I"⟩ prog_5_method_16_code 2 (some .int) : Cond) ∈ WA := wa_in (i := 570) rfl (by decide +kernel)
theorem wd_571 : (.methodLink "WarpSearchModel" 75 ⟨"WarpSearchModel", "takeRow", "(I)V"⟩ : Cond) ∈ WA := wa_in (i := 571) (by decide +kernel) (by decide +kernel)
theorem wd_573 : (.instanceMethod ⟨"WarpSearchModel", "takeRow", "(I)V"⟩ : Cond) ∈ WA := wa_in (i := 573) (by decide +kernel) (by decide +kernel)
set_option maxRecDepth 20000 in
theorem wd_574 : (.code ⟨"WarpSearchModel", "takeRow", "(I)V"⟩ prog_5_method_10_code 3 none : Cond) ∈ WA := wa_in (i := 574) rfl (by decide +kernel)
theorem wd_575 : (.methodLink "WarpSearchModel" 79 ⟨"WarpSearchModel", "fill", "()V"⟩ : Cond) ∈ WA := wa_in (i := 575) (by decide +kernel) (by decide +kernel)
theorem wd_577 : (.instanceMethod ⟨"WarpSearchModel", "fill", "()V"⟩ : Cond) ∈ WA := wa_in (i := 577) (by decide +kernel) (by decide +kernel)
set_option maxRecDepth 20000 in
theorem wd_578 : (.code ⟨"WarpSearchModel", "fill", "()V"⟩ prog_5_method_15_code 5 none : Cond) ∈ WA := wa_in (i := 578) rfl (by decide +kernel)
theorem wd_579 : (.methodLink "WarpSearchModel" 64 ⟨"WarpSearchModel", "inBand", "(II)Z"⟩ : Cond) ∈ WA := wa_in (i := 579) (by decide +kernel) (by decide +kernel)
theorem wd_581 : (.instanceMethod ⟨"WarpSearchModel", "inBand", "(II)Z"⟩ : Cond) ∈ WA := wa_in (i := 581) (by decide +kernel) (by decide +kernel)
set_option maxRecDepth 20000 in
theorem wd_582 : (.code ⟨"WarpSearchModel", "inBand", "(II)Z"⟩ prog_5_method_12_code 3 (some .boolean) : Cond) ∈ WA := wa_in (i := 582) rfl (by decide +kernel)
theorem wd_583 : (.methodLink "WarpSearchModel" 68 ⟨"WarpSearchModel", "costAt", "(II)I"⟩ : Cond) ∈ WA := wa_in (i := 583) (by decide +kernel) (by decide +kernel)
theorem wd_585 : (.instanceMethod ⟨"WarpSearchModel", "costAt", "(II)I"⟩ : Cond) ∈ WA := wa_in (i := 585) (by decide +kernel) (by decide +kernel)
set_option maxRecDepth 20000 in
theorem wd_586 : (.code ⟨"WarpSearchModel", "costAt", "(II)I"⟩ prog_5_method_13_code 3 (some .int) : Cond) ∈ WA := wa_in (i := 586) rfl (by decide +kernel)
theorem wd_587 : (.methodLink "WarpSearchModel" 72 ⟨"WarpSearchModel", "lesser", "(II)I"⟩ : Cond) ∈ WA := wa_in (i := 587) (by decide +kernel) (by decide +kernel)
theorem wd_588 : (.static ⟨"WarpSearchModel", "lesser", "(II)I"⟩ : Cond) ∈ WA := wa_in (i := 588) (by decide +kernel) (by decide +kernel)
set_option maxRecDepth 20000 in
theorem wd_589 : (.code ⟨"WarpSearchModel", "lesser", "(II)I"⟩ prog_5_method_14_code 2 (some .int) : Cond) ∈ WA := wa_in (i := 589) rfl (by decide +kernel)
theorem wd_590 : (.methodLink "WarpSearchLaw" 100 ⟨"WarpSearchModel", "bound", "(II)I"⟩ : Cond) ∈ WA := wa_in (i := 590) (by decide +kernel) (by decide +kernel)
theorem wd_591 : (.instanceMethod ⟨"WarpSearchModel", "bound", "(II)I"⟩ : Cond) ∈ WA := wa_in (i := 591) (by decide +kernel) (by decide +kernel)
theorem wd_592 : (.selects "WarpSearchModel" ⟨"WarpSearchModel", "bound", "(II)I"⟩ ⟨"WarpSearchModel", "bound", "(II)I"⟩ : Cond) ∈ WA := wa_in (i := 592) (by decide +kernel) (by decide +kernel)
set_option maxRecDepth 20000 in
theorem wd_593 : (.code ⟨"WarpSearchModel", "bound", "(II)I"⟩ prog_5_method_19_code 3 (some .int) : Cond) ∈ WA := wa_in (i := 593) rfl (by decide +kernel)
theorem wd_594 : (.methodLink "WarpSearchModel" 86 ⟨"WarpSearchModel", "boundOf", "(I)I"⟩ : Cond) ∈ WA := wa_in (i := 594) (by decide +kernel) (by decide +kernel)
theorem wd_596 : (.instanceMethod ⟨"WarpSearchModel", "boundOf", "(I)I"⟩ : Cond) ∈ WA := wa_in (i := 596) (by decide +kernel) (by decide +kernel)
set_option maxRecDepth 20000 in
theorem wd_597 : (.code ⟨"WarpSearchModel", "boundOf", "(I)I"⟩ prog_5_method_18_code 4 (some .int) : Cond) ∈ WA := wa_in (i := 597) rfl (by decide +kernel)
theorem wd_598 : (.methodLink "WarpSearchModel" 82 ⟨"WarpSearchModel", "beyond", "(IIZ)I"⟩ : Cond) ∈ WA := wa_in (i := 598) (by decide +kernel) (by decide +kernel)
theorem wd_600 : (.instanceMethod ⟨"WarpSearchModel", "beyond", "(IIZ)I"⟩ : Cond) ∈ WA := wa_in (i := 600) (by decide +kernel) (by decide +kernel)
set_option maxRecDepth 20000 in
theorem wd_601 : (.code ⟨"WarpSearchModel", "beyond", "(IIZ)I"⟩ prog_5_method_17_code 9 (some .int) : Cond) ∈ WA := wa_in (i := 601) rfl (by decide +kernel)
theorem wd_602 : (.methodLink "WarpSearchLaw" 103 ⟨"WarpSearchModel", "steps", "(I)I"⟩ : Cond) ∈ WA := wa_in (i := 602) (by decide +kernel) (by decide +kernel)
theorem wd_603 : (.instanceMethod ⟨"WarpSearchModel", "steps", "(I)I"⟩ : Cond) ∈ WA := wa_in (i := 603) (by decide +kernel) (by decide +kernel)
theorem wd_604 : (.selects "WarpSearchModel" ⟨"WarpSearchModel", "steps", "(I)I"⟩ ⟨"WarpSearchModel", "steps", "(I)I"⟩ : Cond) ∈ WA := wa_in (i := 604) (by decide +kernel) (by decide +kernel)
set_option maxRecDepth 20000 in
theorem wd_605 : (.code ⟨"WarpSearchModel", "steps", "(I)I"⟩ prog_5_method_21_code 2 (some .int) : Cond) ∈ WA := wa_in (i := 605) rfl (by decide +kernel)
theorem wd_606 : (.methodLink "WarpSearchModel" 90 ⟨"WarpSearchModel", "walk", "()I"⟩ : Cond) ∈ WA := wa_in (i := 606) (by decide +kernel) (by decide +kernel)
theorem wd_608 : (.instanceMethod ⟨"WarpSearchModel", "walk", "()I"⟩ : Cond) ∈ WA := wa_in (i := 608) (by decide +kernel) (by decide +kernel)
set_option maxRecDepth 20000 in
theorem wd_609 : (.code ⟨"WarpSearchModel", "walk", "()I"⟩ prog_5_method_20_code 10 (some .int) : Cond) ∈ WA := wa_in (i := 609) rfl (by decide +kernel)
theorem wd_610 : (.methodLink "WarpSearchLaw" 106 ⟨"WarpSearchModel", "pair", "(II)I"⟩ : Cond) ∈ WA := wa_in (i := 610) (by decide +kernel) (by decide +kernel)
theorem wd_611 : (.instanceMethod ⟨"WarpSearchModel", "pair", "(II)I"⟩ : Cond) ∈ WA := wa_in (i := 611) (by decide +kernel) (by decide +kernel)
theorem wd_612 : (.selects "WarpSearchModel" ⟨"WarpSearchModel", "pair", "(II)I"⟩ ⟨"WarpSearchModel", "pair", "(II)I"⟩ : Cond) ∈ WA := wa_in (i := 612) (by decide +kernel) (by decide +kernel)
set_option maxRecDepth 20000 in
theorem wd_613 : (.code ⟨"WarpSearchModel", "pair", "(II)I"⟩ prog_5_method_22_code 4 (some .int) : Cond) ∈ WA := wa_in (i := 613) rfl (by decide +kernel)
theorem wd_614 : (.methodLink "WarpSearchLaw" 109 ⟨"WarpSearchModel", "search", "(I)I"⟩ : Cond) ∈ WA := wa_in (i := 614) (by decide +kernel) (by decide +kernel)
theorem wd_615 : (.instanceMethod ⟨"WarpSearchModel", "search", "(I)I"⟩ : Cond) ∈ WA := wa_in (i := 615) (by decide +kernel) (by decide +kernel)
theorem wd_616 : (.selects "WarpSearchModel" ⟨"WarpSearchModel", "search", "(I)I"⟩ ⟨"WarpSearchModel", "search", "(I)I"⟩ : Cond) ∈ WA := wa_in (i := 616) (by decide +kernel) (by decide +kernel)
set_option maxRecDepth 20000 in
theorem wd_617 : (.code ⟨"WarpSearchModel", "search", "(I)I"⟩ prog_5_method_27_code 3 (some .int) : Cond) ∈ WA := wa_in (i := 617) rfl (by decide +kernel)
theorem wd_618 : (.methodLink "WarpSearchModel" 103 ⟨"WarpSearchModel", "start", "(I)V"⟩ : Cond) ∈ WA := wa_in (i := 618) (by decide +kernel) (by decide +kernel)
theorem wd_620 : (.instanceMethod ⟨"WarpSearchModel", "start", "(I)V"⟩ : Cond) ∈ WA := wa_in (i := 620) (by decide +kernel) (by decide +kernel)
set_option maxRecDepth 20000 in
theorem wd_621 : (.code ⟨"WarpSearchModel", "start", "(I)V"⟩ prog_5_method_23_code 3 none : Cond) ∈ WA := wa_in (i := 621) rfl (by decide +kernel)
theorem wd_622 : (.methodLink "WarpSearchModel" 106 ⟨"WarpSearchModel", "turn", "(I)V"⟩ : Cond) ∈ WA := wa_in (i := 622) (by decide +kernel) (by decide +kernel)
theorem wd_624 : (.instanceMethod ⟨"WarpSearchModel", "turn", "(I)V"⟩ : Cond) ∈ WA := wa_in (i := 624) (by decide +kernel) (by decide +kernel)
set_option maxRecDepth 20000 in
theorem wd_625 : (.code ⟨"WarpSearchModel", "turn", "(I)V"⟩ prog_5_method_26_code 6 none : Cond) ∈ WA := wa_in (i := 625) rfl (by decide +kernel)
theorem wd_626 : (.methodLink "WarpSearchModel" 97 ⟨"WarpSearchModel", "tally", "(I)V"⟩ : Cond) ∈ WA := wa_in (i := 626) (by decide +kernel) (by decide +kernel)
theorem wd_628 : (.instanceMethod ⟨"WarpSearchModel", "tally", "(I)V"⟩ : Cond) ∈ WA := wa_in (i := 628) (by decide +kernel) (by decide +kernel)
set_option maxRecDepth 20000 in
theorem wd_629 : (.code ⟨"WarpSearchModel", "tally", "(I)V"⟩ prog_5_method_24_code 2 none : Cond) ∈ WA := wa_in (i := 629) rfl (by decide +kernel)
theorem wd_630 : (.methodLink "WarpSearchModel" 100 ⟨"WarpSearchModel", "givesUp", "(I)Z"⟩ : Cond) ∈ WA := wa_in (i := 630) (by decide +kernel) (by decide +kernel)
theorem wd_632 : (.instanceMethod ⟨"WarpSearchModel", "givesUp", "(I)Z"⟩ : Cond) ∈ WA := wa_in (i := 632) (by decide +kernel) (by decide +kernel)
set_option maxRecDepth 20000 in
theorem wd_633 : (.code ⟨"WarpSearchModel", "givesUp", "(I)Z"⟩ prog_5_method_25_code 5 (some .boolean) : Cond) ∈ WA := wa_in (i := 633) rfl (by decide +kernel)
theorem wd_634 : (.methodLink "WarpSearchLaw" 125 ⟨"WarpSearchModel", "scan", "(I)I"⟩ : Cond) ∈ WA := wa_in (i := 634) (by decide +kernel) (by decide +kernel)
theorem wd_635 : (.instanceMethod ⟨"WarpSearchModel", "scan", "(I)I"⟩ : Cond) ∈ WA := wa_in (i := 635) (by decide +kernel) (by decide +kernel)
theorem wd_636 : (.selects "WarpSearchModel" ⟨"WarpSearchModel", "scan", "(I)I"⟩ ⟨"WarpSearchModel", "scan", "(I)I"⟩ : Cond) ∈ WA := wa_in (i := 636) (by decide +kernel) (by decide +kernel)
set_option maxRecDepth 20000 in
theorem wd_637 : (.code ⟨"WarpSearchModel", "scan", "(I)I"⟩ prog_5_method_28_code 3 (some .int) : Cond) ∈ WA := wa_in (i := 637) rfl (by decide +kernel)
theorem wd_638 : (.methodLink "WarpSearchModel" 112 ⟨"WarpSearchModel", "takeWindow", "(I)V"⟩ : Cond) ∈ WA := wa_in (i := 638) (by decide +kernel) (by decide +kernel)
theorem wd_640 : (.instanceMethod ⟨"WarpSearchModel", "takeWindow", "(I)V"⟩ : Cond) ∈ WA := wa_in (i := 640) (by decide +kernel) (by decide +kernel)
set_option maxRecDepth 20000 in
theorem wd_641 : (.code ⟨"WarpSearchModel", "takeWindow", "(I)V"⟩ prog_5_method_11_code 3 none : Cond) ∈ WA := wa_in (i := 641) rfl (by decide +kernel)
theorem wd_642 : (.methodLink "WarpSearchLaw" 113 ⟨"WarpSearchModel", "found", "(IZ)I"⟩ : Cond) ∈ WA := wa_in (i := 642) (by decide +kernel) (by decide +kernel)
theorem wd_643 : (.instanceMethod ⟨"WarpSearchModel", "found", "(IZ)I"⟩ : Cond) ∈ WA := wa_in (i := 643) (by decide +kernel) (by decide +kernel)
theorem wd_644 : (.selects "WarpSearchModel" ⟨"WarpSearchModel", "found", "(IZ)I"⟩ ⟨"WarpSearchModel", "found", "(IZ)I"⟩ : Cond) ∈ WA := wa_in (i := 644) (by decide +kernel) (by decide +kernel)
set_option maxRecDepth 20000 in
theorem wd_645 : (.code ⟨"WarpSearchModel", "found", "(IZ)I"⟩ prog_5_method_29_code 3 (some .int) : Cond) ∈ WA := wa_in (i := 645) rfl (by decide +kernel)
theorem wd_646 : (.methodLink "WarpSearchLaw" 116 ⟨"WarpSearchModel", "guess", "(I)I"⟩ : Cond) ∈ WA := wa_in (i := 646) (by decide +kernel) (by decide +kernel)
theorem wd_647 : (.instanceMethod ⟨"WarpSearchModel", "guess", "(I)I"⟩ : Cond) ∈ WA := wa_in (i := 647) (by decide +kernel) (by decide +kernel)
theorem wd_648 : (.selects "WarpSearchModel" ⟨"WarpSearchModel", "guess", "(I)I"⟩ ⟨"WarpSearchModel", "guess", "(I)I"⟩ : Cond) ∈ WA := wa_in (i := 648) (by decide +kernel) (by decide +kernel)
set_option maxRecDepth 20000 in
theorem wd_649 : (.code ⟨"WarpSearchModel", "guess", "(I)I"⟩ prog_5_method_30_code 8 (some .int) : Cond) ∈ WA := wa_in (i := 649) rfl (by decide +kernel)
theorem wd_650 : (.methodLink "WarpSearchModel" 115 ⟨"WarpSearchModel", "search", "(I)I"⟩ : Cond) ∈ WA := wa_in (i := 650) (by decide +kernel) (by decide +kernel)
theorem wd_651 : (.methodLink "WarpSearchLaw" 119 ⟨"WarpSearchModel", "count", "(I)I"⟩ : Cond) ∈ WA := wa_in (i := 651) (by decide +kernel) (by decide +kernel)
theorem wd_652 : (.instanceMethod ⟨"WarpSearchModel", "count", "(I)I"⟩ : Cond) ∈ WA := wa_in (i := 652) (by decide +kernel) (by decide +kernel)
theorem wd_653 : (.selects "WarpSearchModel" ⟨"WarpSearchModel", "count", "(I)I"⟩ ⟨"WarpSearchModel", "count", "(I)I"⟩ : Cond) ∈ WA := wa_in (i := 653) (by decide +kernel) (by decide +kernel)
set_option maxRecDepth 20000 in
theorem wd_654 : (.code ⟨"WarpSearchModel", "count", "(I)I"⟩ prog_5_method_31_code 2 (some .int) : Cond) ∈ WA := wa_in (i := 654) rfl (by decide +kernel)
theorem wd_655 : (.methodLink "WarpSearchLaw" 122 ⟨"WarpSearchModel", "push", "(I)I"⟩ : Cond) ∈ WA := wa_in (i := 655) (by decide +kernel) (by decide +kernel)
theorem wd_656 : (.instanceMethod ⟨"WarpSearchModel", "push", "(I)I"⟩ : Cond) ∈ WA := wa_in (i := 656) (by decide +kernel) (by decide +kernel)
theorem wd_657 : (.selects "WarpSearchModel" ⟨"WarpSearchModel", "push", "(I)I"⟩ ⟨"WarpSearchModel", "push", "(I)I"⟩ : Cond) ∈ WA := wa_in (i := 657) (by decide +kernel) (by decide +kernel)
set_option maxRecDepth 20000 in
theorem wd_658 : (.code ⟨"WarpSearchModel", "push", "(I)I"⟩ prog_5_method_32_code 2 (some .int) : Cond) ∈ WA := wa_in (i := 658) rfl (by decide +kernel)
theorem wd_659 : (.methodLink "WarpSearchLaw" 128 ⟨"WarpSearchModel", "shift", "(I)V"⟩ : Cond) ∈ WA := wa_in (i := 659) (by decide +kernel) (by decide +kernel)
theorem wd_660 : (.instanceMethod ⟨"WarpSearchModel", "shift", "(I)V"⟩ : Cond) ∈ WA := wa_in (i := 660) (by decide +kernel) (by decide +kernel)
theorem wd_661 : (.selects "WarpSearchModel" ⟨"WarpSearchModel", "shift", "(I)V"⟩ ⟨"WarpSearchModel", "shift", "(I)V"⟩ : Cond) ∈ WA := wa_in (i := 661) (by decide +kernel) (by decide +kernel)
set_option maxRecDepth 20000 in
theorem wd_662 : (.code ⟨"WarpSearchModel", "shift", "(I)V"⟩ prog_5_method_33_code 3 none : Cond) ∈ WA := wa_in (i := 662) rfl (by decide +kernel)
theorem wd_663 : (.arrayClass .long : Cond) ∈ WA := wa_in (i := 663) (by decide +kernel) (by decide +kernel)
theorem inW_X0 : ∀ w ∈ u_ws RX0 TX0 7, w ∈ WA := List.forall_mem_cons.mpr ⟨wd_62, List.forall_mem_cons.mpr ⟨wd_64, List.forall_mem_cons.mpr ⟨wd_66, List.forall_mem_cons.mpr ⟨wd_68, List.forall_mem_cons.mpr ⟨wd_70, List.forall_mem_cons.mpr ⟨wd_72, List.forall_mem_cons.mpr ⟨wd_74, fun _ h => absurd h List.not_mem_nil⟩⟩⟩⟩⟩⟩⟩
theorem inW_X1 : ∀ w ∈ u_ws RX1 TX1 4, w ∈ WA := List.forall_mem_cons.mpr ⟨wd_91, List.forall_mem_cons.mpr ⟨wd_93, List.forall_mem_cons.mpr ⟨wd_95, List.forall_mem_cons.mpr ⟨wd_97, fun _ h => absurd h List.not_mem_nil⟩⟩⟩⟩
theorem inW_X2 : ∀ w ∈ u_ws RX2 TX2 11, w ∈ WA := List.forall_mem_cons.mpr ⟨wd_111, List.forall_mem_cons.mpr ⟨wd_113, List.forall_mem_cons.mpr ⟨wd_115, List.forall_mem_cons.mpr ⟨wd_117, List.forall_mem_cons.mpr ⟨wd_119, List.forall_mem_cons.mpr ⟨wd_121, List.forall_mem_cons.mpr ⟨wd_123, List.forall_mem_cons.mpr ⟨wd_125, List.forall_mem_cons.mpr ⟨wd_127, List.forall_mem_cons.mpr ⟨wd_129, List.forall_mem_cons.mpr ⟨wd_131, fun _ h => absurd h List.not_mem_nil⟩⟩⟩⟩⟩⟩⟩⟩⟩⟩⟩
theorem inW_X3 : ∀ w ∈ u_ws RX3 TX3 17, w ∈ WA := List.forall_mem_cons.mpr ⟨wd_501, List.forall_mem_cons.mpr ⟨wd_503, List.forall_mem_cons.mpr ⟨wd_505, List.forall_mem_cons.mpr ⟨wd_507, List.forall_mem_cons.mpr ⟨wd_509, List.forall_mem_cons.mpr ⟨wd_511, List.forall_mem_cons.mpr ⟨wd_513, List.forall_mem_cons.mpr ⟨wd_515, List.forall_mem_cons.mpr ⟨wd_517, List.forall_mem_cons.mpr ⟨wd_519, List.forall_mem_cons.mpr ⟨wd_521, List.forall_mem_cons.mpr ⟨wd_523, List.forall_mem_cons.mpr ⟨wd_525, List.forall_mem_cons.mpr ⟨wd_527, List.forall_mem_cons.mpr ⟨wd_529, List.forall_mem_cons.mpr ⟨wd_531, List.forall_mem_cons.mpr ⟨wd_533, fun _ h => absurd h List.not_mem_nil⟩⟩⟩⟩⟩⟩⟩⟩⟩⟩⟩⟩⟩⟩⟩⟩⟩
end
section
/-! contracts and calls in a short form: a method that only reads ('rd'), a method that writes ('wr') -/
def rdP (dC : Nat → ClassId) (dI : Nat → Nat → Nat) (tys : List (ClassId × FieldType)) (ws : va_W) (av : List Value) : Array Value → State → Prop :=
  va_Pc av (fun U => va_P (dC, dI) vwCl ws U.heap ∧ va_K (dC, dI) vwCl tys U)
def wrP (dC : Nat → ClassId) (dI : Nat → Nat → Nat) (tys : List (ClassId × FieldType)) (ws : va_W) (sz : Nat) (av : List Value) : Array Value → State → Prop :=
  va_Pc av (fun U => U.heap.size = sz ∧ va_P (dC, dI) vwCl ws U.heap ∧ va_K (dC, dI) vwCl tys U ∧ va_D (fun _ => True) ws)
def rdQ (post : Int → Prop) : Array Value → State → Outcome → State → Prop := vp_Si (fun r => ∃ z : Int, r = iI z ∧ post z)
def wrB (dC : Nat → ClassId) (dI : Nat → Nat → Nat) (tys : List (ClassId × FieldType)) (A : Nat → Prop) {S : Type} (wf : S → va_W) (u : S) (t : State) : Prop :=
  va_P (dC, dI) vwCl (wf u) t.heap ∧ va_K (dC, dI) vwCl tys t ∧ va_D A (wf u)
def wrQv (dC : Nat → ClassId) (dI : Nat → Nat → Nat) (tys : List (ClassId × FieldType)) (ws : va_W) (sz : Nat) {S : Type} (post : S → Prop) (wf : S → va_W) : Array Value → State → Outcome → State → Prop :=
  va_Qv post (wrB dC dI tys (va_A ws sz) wf) (va_A ws sz)
def wrQi (dC : Nat → ClassId) (dI : Nat → Nat → Nat) (tys : List (ClassId × FieldType)) (ws : va_W) (sz : Nat) {S : Type} (post : Int → S → Prop) (wf : S → va_W) : Array Value → State → Outcome → State → Prop :=
  va_Qi (fun r u => ∃ z : Int, r = iI z ∧ post z u) (wrB dC dI tys (va_A ws sz) wf) (va_A ws sz)
theorem rd_fb {dC : Nat → ClassId} {dI : Nat → Nat → Nat} {tys : List (ClassId × FieldType)} {ws : va_W} {av : List Value} : FrameBlind (rdP dC dI tys ws av) := by
  intro a U g mk q
  obtain ⟨q0, qP, qK⟩ := q
  exact ⟨q0, qP, va_K.moved (u := U) (U := U.calling g mk a) (Vm.Alike.refl U.vm) qK⟩
theorem wr_fb {dC : Nat → ClassId} {dI : Nat → Nat → Nat} {tys : List (ClassId × FieldType)} {ws : va_W} {sz : Nat} {av : List Value} : FrameBlind (wrP dC dI tys ws sz av) := by
  intro a U g mk q
  obtain ⟨q0, q1, qP, qK, qD⟩ := q
  exact ⟨q0, q1, qP, va_K.moved (u := U) (U := U.calling g mk a) (Vm.Alike.refl U.vm) qK, qD⟩
section ZP
variable {dC : Nat → ClassId} {dI : Nat → Nat → Nat} {tys : List (ClassId × FieldType)} {ws wc wr : va_W} {H : Heap} {s : State} {As : List Value} {A : Nat → Prop}
theorem rd_preS (hP : va_P (dC, dI) vwCl ws H) (hK : va_K (dC, dI) vwCl tys s) (isC : List Nat) (hC : isC.filterMap (fun i => ws[i]?) = wc) : PreS s H (rdP dC dI tys wc As) As :=
  ⟨rd_fb, fun U hU hW => ⟨rfl, by rw [hU]; exact hP.sub isC hC, va_K.moved hW.alike hK⟩⟩
theorem rd_preV {b ci q0 : Nat} {fs : List Value} {C : String} {T : u_T} {N : Nat} (hP : va_P (dC, dI) vwCl ws H) (hK : va_K (dC, dI) vwCl tys s) (isC : List Nat) (hC : isC.filterMap (fun i => ws[i]?) = wc) (he : wc[q0]? = some (b, .inr (ci, fs))) (hc : vwCl[ci]? = some (C, T, N)) : PreV s H C b (rdP dC dI tys wc (.ref b :: As)) As :=
  ⟨rd_fb, va_recv hK (hP.sub isC hC) hc he, fun U hU hW => ⟨rfl, by rw [hU]; exact hP.sub isC hC, va_K.moved hW.alike hK⟩⟩
theorem wr_preS (hP : va_P (dC, dI) vwCl ws H) (hK : va_K (dC, dI) vwCl tys s) (hD : va_D A ws) (isC : List Nat) (hn : va_nd isC = true) (hC : isC.filterMap (fun i => ws[i]?) = wc) (hC2 : isC.map (fun i => ws[i]?) = wc.map some) : PreS s H (wrP dC dI tys wc H.size As) As :=
  ⟨wr_fb, fun U hU hW => ⟨rfl, by rw [hU], by rw [hU]; exact hP.sub isC hC, va_K.moved hW.alike hK, (hD.sub isC hn hC2).weaken (fun _ _ _ _ => trivial)⟩⟩
theorem wr_preV {b ci q0 : Nat} {fs : List Value} {C : String} {T : u_T} {N : Nat} (hP : va_P (dC, dI) vwCl ws H) (hK : va_K (dC, dI) vwCl tys s) (hD : va_D A ws) (isC : List Nat) (hn : va_nd isC = true) (hC : isC.filterMap (fun i => ws[i]?) = wc) (hC2 : isC.map (fun i => ws[i]?) = wc.map some) (he : wc[q0]? = some (b, .inr (ci, fs))) (hc : vwCl[ci]? = some (C, T, N)) : PreV s H C b (wrP dC dI tys wc H.size (.ref b :: As)) As :=
  ⟨wr_fb, va_recv hK (hP.sub isC hC) hc he, fun U hU hW => ⟨rfl, by rw [hU], by rw [hU]; exact hP.sub isC hC, va_K.moved hW.alike hK, (hD.sub isC hn hC2).weaken (fun _ _ _ _ => trivial)⟩⟩
end ZP
section ZC
variable {p : Program} {l : Launch} {e : Env} {R : Room} {s : State} {m : MethodId} {args : Array Value} {below : List Frame} {meth : Method} {c : Code} {H : Heap} {locs : List Loc} {cells slots : Nat} {Q : State → Prop} {pc : Nat} {ls : Array Slot} {rest st0 : List Value} {a : Array Value} {A0 : Nat → Prop} {H0 : Heap} {mc ms : Nat}
variable {dC : Nat → ClassId} {dI : Nat → Nat → Nat} {tys : List (ClassId × FieldType)} {ws wc wr : va_W}
/-- a call that only reads: an int comes -/
theorem zr_i {post : Int → Prop} (hr : va_Run p l e R s m args below meth c H locs cells slots 0 0 (F0 m pc ls st0) rest (rdQ post a) (fun _ => False))
    (kk : ∀ z : Int, post z → W p l e R s m args below meth c H locs cells slots Q (F0 m (pc + 3) ls (.int (iI z) :: rest))) : W p l e R s m args below meth c H locs cells slots Q (F0 m pc ls st0) := by
  refine vp_callSi (va_Run.run hr) (fun r q => ?_)
  obtain ⟨z, rfl, hz⟩ := q
  exact kk z hz
/-- a call that writes: the callee's cells are cut out, what comes back stands behind the rest -/
theorem zw_v {S : Type} {post : S → Prop} {wf : S → va_W} (hr : va_Run p l e R s m args below meth c H locs cells slots mc ms (F0 m pc ls st0) rest (wrQv dC dI tys wc H.size post wf a) (va_A wc H.size))
    (hP : va_P (dC, dI) vwCl ws H) (hD : va_D A0 ws) (hS : va_S A0 H0 H locs) (hA : ∀ q, H0.size ≤ q → A0 q) (isC isR : List Nat) (hC : isC.map (fun i => ws[i]?) = wc.map some) (hR : isR.map (fun i => ws[i]?) = wr.map some) (hn : va_nd isR = true) (hdis : ∀ i ∈ isR, i ∉ isC)
    (kk : ∀ (u : S) (H1 : Heap) (locs1 : List Loc), post u → va_P (dC, dI) vwCl (wr ++ wf u) H1 → va_D A0 (wr ++ wf u) → va_S A0 H0 H1 locs1 → W p l e R s m args below meth c H1 locs1 (cells + mc) (slots + ms) Q (F0 m (pc + 3) ls rest)) : W p l e R s m args below meth c H locs cells slots Q (F0 m pc ls st0) := by
  have hFc := va_free (wc := wc) hD hS hA isC hC
  refine va_callv hr hS (fun q _ h => hFc q h) hFc (fun u t H1 locs1 ht hvm hw hB hz1 hk1 hS => ?_)
  obtain ⟨hP1, hK1, hD1⟩ := hB
  rw [ht] at hP1
  obtain ⟨hP2, hD2⟩ := va_join (wr := wr) hP hD isC isR hC hR hn hdis hk1 hFc hP1 hD1
  exact kk u H1 locs1 hw hP2 hD2 hS
theorem zw_i {S : Type} {post : Int → S → Prop} {wf : S → va_W} (hr : va_Run p l e R s m args below meth c H locs cells slots mc ms (F0 m pc ls st0) rest (wrQi dC dI tys wc H.size post wf a) (va_A wc H.size))
    (hP : va_P (dC, dI) vwCl ws H) (hD : va_D A0 ws) (hS : va_S A0 H0 H locs) (hA : ∀ q, H0.size ≤ q → A0 q) (isC isR : List Nat) (hC : isC.map (fun i => ws[i]?) = wc.map some) (hR : isR.map (fun i => ws[i]?) = wr.map some) (hn : va_nd isR = true) (hdis : ∀ i ∈ isR, i ∉ isC)
    (kk : ∀ (z : Int) (u : S) (H1 : Heap) (locs1 : List Loc), post z u → va_P (dC, dI) vwCl (wr ++ wf u) H1 → va_D A0 (wr ++ wf u) → va_S A0 H0 H1 locs1 → W p l e R s m args below meth c H1 locs1 (cells + mc) (slots + ms) Q (F0 m (pc + 3) ls (.int (iI z) :: rest))) : W p l e R s m args below meth c H locs cells slots Q (F0 m pc ls st0) := by
  have hFc := va_free (wc := wc) hD hS hA isC hC
  refine va_calli hr hS (fun q _ h => hFc q h) hFc (fun r u t H1 locs1 ht hvm hw hB hz1 hk1 hS => ?_)
  obtain ⟨z, rfl, hw⟩ := hw
  obtain ⟨hP1, hK1, hD1⟩ := hB
  rw [ht] at hP1
  obtain ⟨hP2, hD2⟩ := va_join (wr := wr) hP hD isC isR hC hR hn hdis hk1 hFc hP1 hD1
  exact kk z u H1 locs1 hw hP2 hD2 hS
theorem z_ldc {cc : ByteArray} (hx : p.tables.exec = Jvm.exec) (hb : c.code = cc) {own : String} {index : Nat} {v : Int32} (z : Int) (hown : s.vm.findClass own = some m.cls) (hconst : (Jvm.Cond.constant own index v).before args s = true) (hv : v = iI z) (hdg : decode cc pc = .ok (.ldc index, 2)) (k : W p l e R s m args below meth c H locs cells slots Q (F0 m (pc + 2) ls (.int (iI z) :: rest))) : W p l e R s m args below meth c H locs cells slots Q (F0 m pc ls rest) := lv_ldc hx hb hown hconst hdg (hv ▸ k)
/-- the end of a method that only reads -/
theorem zr_ret {cc : ByteArray} {post : Int → Prop} {z : Int} (hx : p.tables.exec = Jvm.exec) (hb : c.code = cc) (hr : meth.sig.returnType = some .int) (hlocks : meth.locks = false) (hQ : Q = MQ below (rdQ post) args s 0 0 (fun _ => False)) (hz : post z) (hdg : decode cc pc = .ok (.ireturn, 1)) : W p l e R s m args below meth c s.heap [] 0 0 Q (F0 m pc ls [.int (iI z)]) :=
  z_q hQ (W.iret (v := iI z) hx hb hr (fun t ht hW => ⟨iI z, rfl, ⟨z, rfl, hz⟩, ht⟩) (fun _ h => absurd h List.not_mem_nil) hdg hlocks)
theorem zr_retz {cc : ByteArray} {post : Int → Prop} {z : Int} (hx : p.tables.exec = Jvm.exec) (hb : c.code = cc) (hr : meth.sig.returnType = some .boolean) (hlocks : meth.locks = false) (hQ : Q = MQ below (rdQ post) args s 0 0 (fun _ => False)) (h01 : z = 0 ∨ z = 1) (hz : post z) (hdg : decode cc pc = .ok (.ireturn, 1)) : W p l e R s m args below meth c s.heap [] 0 0 Q (F0 m pc ls [.int (iI z)]) :=
  z_q hQ (by
    rcases h01 with rfl | rfl
    · exact W.zret (v := iI 0) hx hb hr (by decide) (fun t ht hW => ⟨iI 0, rfl, ⟨0, rfl, hz⟩, ht⟩) (fun _ h => absurd h List.not_mem_nil) hdg hlocks
    · exact W.zret (v := iI 1) hx hb hr (by decide) (fun t ht hW => ⟨iI 1, rfl, ⟨1, rfl, hz⟩, ht⟩) (fun _ h => absurd h List.not_mem_nil) hdg hlocks)
/-- the ends of a method that writes -/
theorem zw_retv {cc : ByteArray} {S : Type} {post : S → Prop} {wf : S → va_W} {sz : Nat} (u : S) (hx : p.tables.exec = Jvm.exec) (hb : c.code = cc) (hr : meth.sig.returnType = none) (hlocks : meth.locks = false) (hQ : Q = MQ below (wrQv dC dI tys wc sz post wf) args s cells slots (va_A wc sz)) (hu : post u) (hP : va_P (dC, dI) vwCl (wf u) H) (hK : va_K (dC, dI) vwCl tys s) (hD : va_D (va_A wc sz) (wf u)) (hS : va_S (va_A wc sz) s.heap H locs) (hdg : decode cc pc = .ok (.return_, 1)) : W p l e R s m args below meth c H locs cells slots Q (F0 m pc ls []) :=
  z_q hQ (W.vret hx hb hr (fun t ht hW => ⟨⟨u, rfl, hu, by rw [ht]; exact hP, va_K.moved hW.alike hK, hD⟩, hS.F ht⟩) hS.2.2 hdg hlocks)
theorem zw_reti {cc : ByteArray} {S : Type} {post : Int → S → Prop} {wf : S → va_W} {sz : Nat} {z : Int} (u : S) (hx : p.tables.exec = Jvm.exec) (hb : c.code = cc) (hr : meth.sig.returnType = some .int) (hlocks : meth.locks = false) (hQ : Q = MQ below (wrQi dC dI tys wc sz post wf) args s cells slots (va_A wc sz)) (hu : post z u) (hP : va_P (dC, dI) vwCl (wf u) H) (hK : va_K (dC, dI) vwCl tys s) (hD : va_D (va_A wc sz) (wf u)) (hS : va_S (va_A wc sz) s.heap H locs) (hdg : decode cc pc = .ok (.ireturn, 1)) : W p l e R s m args below meth c H locs cells slots Q (F0 m pc ls [.int (iI z)]) :=
  z_q hQ (W.iret (v := iI z) hx hb hr (fun t ht hW => ⟨⟨iI z, u, rfl, ⟨z, rfl, hu⟩, by rw [ht]; exact hP, va_K.moved hW.alike hK, hD⟩, hS.F ht⟩) hS.2.2 hdg hlocks)
theorem zw_retz {cc : ByteArray} {S : Type} {post : Int → S → Prop} {wf : S → va_W} {sz : Nat} {z : Int} (u : S) (hx : p.tables.exec = Jvm.exec) (hb : c.code = cc) (hr : meth.sig.returnType = some .boolean) (hlocks : meth.locks = false) (hQ : Q = MQ below (wrQi dC dI tys wc sz post wf) args s cells slots (va_A wc sz)) (h01 : z = 0 ∨ z = 1) (hu : post z u) (hP : va_P (dC, dI) vwCl (wf u) H) (hK : va_K (dC, dI) vwCl tys s) (hD : va_D (va_A wc sz) (wf u)) (hS : va_S (va_A wc sz) s.heap H locs) (hdg : decode cc pc = .ok (.ireturn, 1)) : W p l e R s m args below meth c H locs cells slots Q (F0 m pc ls [.int (iI z)]) :=
  z_q hQ (by
    rcases h01 with rfl | rfl
    · exact W.zret (v := iI 0) hx hb hr (by decide) (fun t ht hW => ⟨⟨iI 0, u, rfl, ⟨0, rfl, hu⟩, by rw [ht]; exact hP, va_K.moved hW.alike hK, hD⟩, hS.F ht⟩) hS.2.2 hdg hlocks
    · exact W.zret (v := iI 1) hx hb hr (by decide) (fun t ht hW => ⟨⟨iI 1, u, rfl, ⟨1, rfl, hu⟩, by rw [ht]; exact hP, va_K.moved hW.alike hK, hD⟩, hS.F ht⟩) hS.2.2 hdg hlocks)
end ZC
end
section
/-! the numbers that both sides answer: costs of pairs, hulls, bounds -/
def sqd (q r : Nat → Int) (i j : Nat) : Int := (q i - r j) * (q i - r j)
abbrev inb (w i j : Nat) : Prop := i ≤ j + w ∧ j ≤ i + w
def cst (w : Nat) (q r : Nat → Int) (i j : Nat) : Int :=
  match i, j with
  | 0, 0 => sqd q r 0 0
  | 0, j + 1 => sqd q r 0 (j + 1) + (if inb w 0 j then cst w q r 0 j else 1000000000)
  | i + 1, 0 => sqd q r (i + 1) 0 + (if inb w i 0 then cst w q r i 0 else 1000000000)
  | i + 1, j + 1 => sqd q r (i + 1) (j + 1) + min (if inb w i j then cst w q r i j else 1000000000) (min (if inb w i (j + 1) then cst w q r i (j + 1) else 1000000000) (if inb w (i + 1) j then cst w q r (i + 1) j else 1000000000))
termination_by i + j
theorem sq_bd {d : Int} {k : Nat} (h : -(k : Int) ≤ d ∧ d ≤ (k : Int)) : 0 ≤ d * d ∧ d * d ≤ ((k * k : Nat) : Int) := by
  have h1 : d.natAbs ≤ k := by omega
  have h2 : d.natAbs * d.natAbs ≤ k * k := Nat.mul_le_mul h1 h1
  have h3 : ((d.natAbs * d.natAbs : Nat) : Int) = d * d := Int.natAbs_mul_self
  have h4 : ((d.natAbs * d.natAbs : Nat) : Int) ≤ ((k * k : Nat) : Int) := Int.ofNat_le.mpr h2
  have h5 : (0 : Int) ≤ ((d.natAbs * d.natAbs : Nat) : Int) := Int.natCast_nonneg _
  rw [h3] at h4 h5
  exact ⟨h5, h4⟩
theorem sqd_bd {q r : Nat → Int} {i j : Nat} (h : -1000 ≤ q i ∧ q i ≤ 1000) (h' : -1000 ≤ r j ∧ r j ≤ 1000) : 0 ≤ sqd q r i j ∧ sqd q r i j ≤ 4000000 := by
  have h1 := sq_bd (d := q i - r j) (k := 2000) (by omega)
  exact h1
/-- numbers of the document's range, the first n of them -/
def vals (n : Nat) (q : Nat → Int) : Prop := ∀ a, a < n → -1000 ≤ q a ∧ q a ≤ 1000
theorem cst_bd {n w : Nat} {q r : Nat → Int} (hq : vals n q) (hr : vals n r) : ∀ (k i j : Nat), i + j ≤ k → i < n → j < n → inb w i j → 0 ≤ cst w q r i j ∧ cst w q r i j ≤ 4000000 * ((i + j + 1 : Nat) : Int) := by
  intro k
  induction k with
  | zero =>
    intro i j h hi hj hb
    have h1 : i = 0 := by omega
    have h2 : j = 0 := by omega
    subst h1; subst h2
    rw [cst]
    have := sqd_bd (hq 0 hi) (hr 0 hj)
    omega
  | succ k ih =>
    intro i j h hi hj hb
    have hs := sqd_bd (hq i hi) (hr j hj)
    cases i with
    | zero =>
      cases j with
      | zero =>
        rw [cst]
        omega
      | succ j =>
        rw [cst]
        have h1 := ih 0 j (by omega) (by omega) (by omega) (by omega)
        rw [if_pos (by omega)]
        omega
    | succ i =>
      cases j with
      | zero =>
        rw [cst]
        have h1 := ih i 0 (by omega) (by omega) (by omega) (by omega)
        rw [if_pos (by omega)]
        omega
      | succ j =>
        rw [cst]
        have h1 : inb w i j := by omega
        have h2 := ih i j (by omega) (by omega) (by omega) h1
        rw [if_pos h1]
        by_cases h3 : inb w i (j + 1)
        · have h4 := ih i (j + 1) (by omega) (by omega) (by omega) h3
          rw [if_pos h3]
          by_cases h5 : inb w (i + 1) j
          · have h6 := ih (i + 1) j (by omega) (by omega) (by omega) h5
            rw [if_pos h5]
            omega
          · rw [if_neg h5]
            omega
        · rw [if_neg h3]
          by_cases h5 : inb w (i + 1) j
          · have h6 := ih (i + 1) j (by omega) (by omega) (by omega) h5
            rw [if_pos h5]
            omega
          · rw [if_neg h5]
            omega
theorem cst_rg {n w : Nat} {q r : Nat → Int} (hq : vals n q) (hr : vals n r) (hn : n ≤ 16) {i j : Nat} (hi : i < n) (hj : j < n) (hb : inb w i j) : 0 ≤ cst w q r i j ∧ cst w q r i j ≤ 124000000 := by
  have := cst_bd hq hr (i + j) i j (Nat.le_refl _) hi hj hb
  omega
/-- a cell of a line of costs, as the class reads it: far where there is no pair of the band -/
def gAt (w : Nat) (G : Nat → Int) (i j : Int) : Int := if 0 ≤ i ∧ 0 ≤ j ∧ i - j ≤ (w : Int) ∧ j - i ≤ (w : Int) then G (16 * i + j).toNat else 1000000000
def gBef (w : Nat) (G : Nat → Int) (i j : Int) : Int := if i = 0 ∧ j = 0 then 0 else min (gAt w G (i - 1) (j - 1)) (min (gAt w G (i - 1) j) (gAt w G i (j - 1)))
theorem gAt_in {w : Nat} {G : Nat → Int} {i j : Int} (a b : Nat) (h : i = (a : Int) ∧ j = (b : Int)) (hb : inb w a b) : gAt w G i j = G (16 * a + b) := by
  unfold gAt
  rw [if_pos (by omega)]
  congr 1
  omega
theorem gAt_out {w : Nat} {G : Nat → Int} {i j : Int} (h : i < 0 ∨ j < 0 ∨ (w : Int) < i - j ∨ (w : Int) < j - i) : gAt w G i j = 1000000000 := by
  unfold gAt
  rw [if_neg (by omega)]
def rgA (G : Nat → Int) : Prop := ∀ k, -2147483648 ≤ G k ∧ G k ≤ 2147483647
theorem gAt_rg {w : Nat} {G : Nat → Int} (hG : rgA G) (i j : Int) : -2147483648 ≤ gAt w G i j ∧ gAt w G i j ≤ 2147483647 := by
  unfold gAt
  split
  · exact hG _
  · omega
theorem rgA_u {G : Nat → Int} {k : Nat} {z : Int} (hG : rgA G) (hz : -2147483648 ≤ z ∧ z ≤ 2147483647) : rgA (zU G k z) := by
  intro j
  by_cases h : j = k
  · subst h; rw [zU_s]; exact hz
  · rw [zU_n h]; exact hG j
/-- a pair's cost out of the costs before it -/
theorem cst_eq {n w : Nat} {q r G : Nat → Int} (hq : vals n q) (hr : vals n r) (hn : n ≤ 16) {i j : Nat} (hi : i < n) (hj : j < n) (hb : inb w i j)
    (h1 : ∀ b, b ≤ j → 0 < i → inb w (i - 1) b → G (16 * (i - 1) + b) = cst w q r (i - 1) b) (h2 : 0 < j → inb w i (j - 1) → G (16 * i + (j - 1)) = cst w q r i (j - 1)) :
    gBef w G i j + sqd q r i j = cst w q r i j := by
  cases i with
  | zero =>
    cases j with
    | zero =>
      rw [cst]
      simp [gBef]
    | succ j =>
      have hb2 : inb w 0 j := by omega
      have h3 := cst_rg hq hr hn hi (j := j) (by omega) hb2
      have h4 := h2 (by omega) (by simpa using hb2)
      have e1 : gAt w G (((0 : Nat) : Int) - 1) (((j + 1 : Nat) : Int) - 1) = 1000000000 := gAt_out (by omega)
      have e2 : gAt w G (((0 : Nat) : Int) - 1) ((j + 1 : Nat) : Int) = 1000000000 := gAt_out (by omega)
      have e3 : gAt w G ((0 : Nat) : Int) (((j + 1 : Nat) : Int) - 1) = cst w q r 0 j := by
        rw [gAt_in 0 j (by omega) hb2]
        simpa using h4
      unfold gBef
      rw [if_neg (by omega), e1, e2, e3, cst, if_pos hb2]
      omega
  | succ i =>
    cases j with
    | zero =>
      have hb2 : inb w i 0 := by omega
      have h3 := cst_rg hq hr hn (i := i) (by omega) hj hb2
      have h4 := h1 0 (by omega) (by omega) (by simpa using hb2)
      have e1 : gAt w G (((i + 1 : Nat) : Int) - 1) (((0 : Nat) : Int) - 1) = 1000000000 := gAt_out (by omega)
      have e2 : gAt w G ((i + 1 : Nat) : Int) (((0 : Nat) : Int) - 1) = 1000000000 := gAt_out (by omega)
      have e3 : gAt w G (((i + 1 : Nat) : Int) - 1) ((0 : Nat) : Int) = cst w q r i 0 := by
        rw [gAt_in i 0 (by omega) hb2]
        simpa using h4
      unfold gBef
      rw [if_neg (by omega), e1, e2, e3, cst, if_pos hb2]
      omega
    | succ j =>
      have hb2 : inb w i j := by omega
      have e1 : gAt w G (((i + 1 : Nat) : Int) - 1) (((j + 1 : Nat) : Int) - 1) = cst w q r i j := by
        rw [gAt_in i j (by omega) hb2]
        have h4 := h1 j (by omega) (by omega) (by simpa using hb2)
        simpa using h4
      have e2 : gAt w G (((i + 1 : Nat) : Int) - 1) ((j + 1 : Nat) : Int) = (if inb w i (j + 1) then cst w q r i (j + 1) else 1000000000) := by
        by_cases h5 : inb w i (j + 1)
        · rw [if_pos h5, gAt_in i (j + 1) (by omega) h5]
          have h4 := h1 (j + 1) (by omega) (by omega) (by simpa using h5)
          simpa using h4
        · rw [if_neg h5]
          exact gAt_out (by omega)
      have e3 : gAt w G ((i + 1 : Nat) : Int) (((j + 1 : Nat) : Int) - 1) = (if inb w (i + 1) j then cst w q r (i + 1) j else 1000000000) := by
        by_cases h5 : inb w (i + 1) j
        · rw [if_pos h5, gAt_in (i + 1) j (by omega) h5]
          have h4 := h2 (by omega) (by simpa using h5)
          simpa using h4
        · rw [if_neg h5]
          exact gAt_out (by omega)
      unfold gBef
      rw [if_neg (by omega), e1, e2, e3, cst, if_pos hb2]
      omega
/-- the whole line i is not below the limit, for some line -/
def givesUp (n w : Nat) (q r : Nat → Int) (lim : Int) : Prop := ∃ i, i < n ∧ ∀ j, j < n → inb w i j → lim ≤ cst w q r i j
/-- the hull -/
def hlo (w : Nat) (h : Nat → Int) (i : Nat) : Nat → Int
  | 0 => 1000
  | p + 1 => if inb w p i then min (hlo w h i p) (h p) else hlo w h i p
def hhi (w : Nat) (h : Nat → Int) (i : Nat) : Nat → Int
  | 0 => -1000
  | p + 1 => if inb w p i then max (hhi w h i p) (h p) else hhi w h i p
def gapz (v low high : Int) : Int := if v < low then low - v else if high < v then v - high else 0
def hbd (n w : Nat) (h x : Nat → Int) : Nat → Int
  | 0 => 0
  | k + 1 => hbd n w h x k + gapz (x k) (hlo w h k n) (hhi w h k n) * gapz (x k) (hlo w h k n) (hhi w h k n)
def lbd (n w : Nat) (q r : Nat → Int) (which : Int) : Int :=
  if which = 0 then sqd q r 0 0 + sqd q r (n - 1) (n - 1) else if which = 1 then hbd n w q r n else hbd n w r q n
theorem hlo_le {w : Nat} {h : Nat → Int} {i : Nat} : ∀ (k p : Nat), p < k → inb w p i → hlo w h i k ≤ h p := by
  intro k
  induction k with
  | zero => intro p hp; omega
  | succ k ih =>
    intro p hp hb
    rw [hlo]
    by_cases e : p = k
    · subst e
      rw [if_pos hb]
      omega
    · have := ih p (by omega) hb
      split <;> omega
theorem hlo_ex {w : Nat} {h : Nat → Int} {i : Nat} : ∀ k : Nat, hlo w h i k = 1000 ∨ ∃ p, p < k ∧ inb w p i ∧ hlo w h i k = h p := by
  intro k
  induction k with
  | zero => exact Or.inl rfl
  | succ k ih =>
    rw [hlo]
    by_cases hb : inb w k i
    · rw [if_pos hb]
      by_cases g : h k ≤ hlo w h i k
      · exact Or.inr ⟨k, by omega, hb, by omega⟩
      · rcases ih with e | ⟨p, h1, h2, h3⟩
        · exact Or.inl (by omega)
        · exact Or.inr ⟨p, by omega, h2, by omega⟩
    · rw [if_neg hb]
      rcases ih with e | ⟨p, h1, h2, h3⟩
      · exact Or.inl e
      · exact Or.inr ⟨p, by omega, h2, h3⟩
theorem hhi_le {w : Nat} {h : Nat → Int} {i : Nat} : ∀ (k p : Nat), p < k → inb w p i → h p ≤ hhi w h i k := by
  intro k
  induction k with
  | zero => intro p hp; omega
  | succ k ih =>
    intro p hp hb
    rw [hhi]
    by_cases e : p = k
    · subst e
      rw [if_pos hb]
      omega
    · have := ih p (by omega) hb
      split <;> omega
theorem hhi_ex {w : Nat} {h : Nat → Int} {i : Nat} : ∀ k : Nat, hhi w h i k = -1000 ∨ ∃ p, p < k ∧ inb w p i ∧ hhi w h i k = h p := by
  intro k
  induction k with
  | zero => exact Or.inl rfl
  | succ k ih =>
    rw [hhi]
    by_cases hb : inb w k i
    · rw [if_pos hb]
      by_cases g : hhi w h i k ≤ h k
      · exact Or.inr ⟨k, by omega, hb, by omega⟩
      · rcases ih with e | ⟨p, h1, h2, h3⟩
        · exact Or.inl (by omega)
        · exact Or.inr ⟨p, by omega, h2, by omega⟩
    · rw [if_neg hb]
      rcases ih with e | ⟨p, h1, h2, h3⟩
      · exact Or.inl e
      · exact Or.inr ⟨p, by omega, h2, h3⟩
theorem hlo_rg {w n : Nat} {h : Nat → Int} (hh : vals n h) {i : Nat} (k : Nat) (hk : k ≤ n) : -1000 ≤ hlo w h i k ∧ hlo w h i k ≤ 1000 := by
  rcases hlo_ex (w := w) (h := h) (i := i) k with e | ⟨p, h1, h2, h3⟩
  · omega
  · have := hh p (by omega)
    omega
theorem hhi_rg {w n : Nat} {h : Nat → Int} (hh : vals n h) {i : Nat} (k : Nat) (hk : k ≤ n) : -1000 ≤ hhi w h i k ∧ hhi w h i k ≤ 1000 := by
  rcases hhi_ex (w := w) (h := h) (i := i) k with e | ⟨p, h1, h2, h3⟩
  · omega
  · have := hh p (by omega)
    omega
theorem gap_rg {v low high : Int} (h1 : -1000 ≤ v ∧ v ≤ 1000) (h2 : -1000 ≤ low ∧ low ≤ 1000) (h3 : -1000 ≤ high ∧ high ≤ 1000) : 0 ≤ gapz v low high ∧ gapz v low high ≤ 2000 := by
  unfold gapz
  split
  · omega
  · split <;> omega
theorem gap_sq {v low high : Int} (h1 : -1000 ≤ v ∧ v ≤ 1000) (h2 : -1000 ≤ low ∧ low ≤ 1000) (h3 : -1000 ≤ high ∧ high ≤ 1000) : 0 ≤ gapz v low high * gapz v low high ∧ gapz v low high * gapz v low high ≤ 4000000 := by
  have h4 := gap_rg h1 h2 h3
  exact sq_bd (k := 2000) (by omega)
theorem hbd_rg {n w : Nat} {h x : Nat → Int} (hh : vals n h) (hx : vals n x) : ∀ k : Nat, k ≤ n → 0 ≤ hbd n w h x k ∧ hbd n w h x k ≤ 4000000 * (k : Int) := by
  intro k
  induction k with
  | zero => intro _; simp [hbd]
  | succ k ih =>
    intro hk
    have h1 := ih (by omega)
    have h2 := gap_sq (hx k (by omega)) (hlo_rg hh (w := w) (i := k) n (Nat.le_refl _)) (hhi_rg hh (w := w) (i := k) n (Nat.le_refl _))
    rw [hbd]
    omega
/-- least and greatest, told by what they are -/
theorem hlo_is {n w : Nat} {h : Nat → Int} (hh : vals n h) {i : Nat} (hi : i < n) {low : Int} (h1 : ∀ p, p < n → inb w p i → low ≤ h p) (h2 : ∃ p, p < n ∧ inb w p i ∧ low = h p) : low = hlo w h i n := by
  obtain ⟨p, g1, g2, g3⟩ := h2
  have a1 := hlo_le (w := w) (h := h) n p g1 g2
  rcases hlo_ex (w := w) (h := h) (i := i) n with e | ⟨t, t1, t2, t3⟩
  · have := hh p g1
    omega
  · have := h1 t t1 t2
    omega
theorem hhi_is {n w : Nat} {h : Nat → Int} (hh : vals n h) {i : Nat} (hi : i < n) {high : Int} (h1 : ∀ p, p < n → inb w p i → h p ≤ high) (h2 : ∃ p, p < n ∧ inb w p i ∧ high = h p) : high = hhi w h i n := by
  obtain ⟨p, g1, g2, g3⟩ := h2
  have a1 := hhi_le (w := w) (h := h) n p g1 g2
  rcases hhi_ex (w := w) (h := h) (i := i) n with e | ⟨t, t1, t2, t3⟩
  · have := hh p g1
    omega
  · have := h1 t t1 t2
    omega
end
section
/-! the best path, from its end: the pair before a pair; where it ends -/
def bdI (w : Nat) (q r : Nat → Int) (i j : Int) : Int := if 0 ≤ i ∧ 0 ≤ j ∧ i - j ≤ (w : Int) ∧ j - i ≤ (w : Int) then cst w q r i.toNat j.toNat else 1000000000
def pnx (w : Nat) (q r : Nat → Int) (x : Int × Int) : Int × Int :=
  if bdI w q r (x.1 - 1) (x.2 - 1) ≤ bdI w q r (x.1 - 1) x.2 ∧ bdI w q r (x.1 - 1) (x.2 - 1) ≤ bdI w q r x.1 (x.2 - 1) then (x.1 - 1, x.2 - 1)
  else if bdI w q r (x.1 - 1) x.2 ≤ bdI w q r x.1 (x.2 - 1) then (x.1 - 1, x.2) else (x.1, x.2 - 1)
def pseq (w n : Nat) (q r : Nat → Int) : Nat → Int × Int
  | 0 => ((n : Int) - 1, (n : Int) - 1)
  | t + 1 => pnx w q r (pseq w n q r t)
def isMany (w n : Nat) (q r : Nat → Int) (M : Nat) : Prop := 1 ≤ M ∧ pseq w n q r (M - 1) = (0, 0) ∧ ∀ u, u < M - 1 → pseq w n q r u ≠ (0, 0)
theorem isMany_one {w n : Nat} {q r : Nat → Int} {M M' : Nat} (h : isMany w n q r M) (h' : isMany w n q r M') : M = M' := by
  obtain ⟨a1, a2, a3⟩ := h
  obtain ⟨b1, b2, b3⟩ := h'
  rcases Nat.lt_trichotomy M M' with g | g | g
  · exact absurd a2 (b3 (M - 1) (by omega))
  · exact g
  · exact absurd b2 (a3 (M' - 1) (by omega))
theorem bdI_in {w : Nat} {q r : Nat → Int} {i j : Int} (h : 0 ≤ i ∧ 0 ≤ j ∧ i - j ≤ (w : Int) ∧ j - i ≤ (w : Int)) : bdI w q r i j = cst w q r i.toNat j.toNat := if_pos h
theorem bdI_out {w : Nat} {q r : Nat → Int} {i j : Int} (h : i < 0 ∨ j < 0 ∨ (w : Int) < i - j ∨ (w : Int) < j - i) : bdI w q r i j = 1000000000 := if_neg (by omega)
theorem bdI_rg {n w : Nat} {q r : Nat → Int} (hq : vals n q) (hr : vals n r) (hn : n ≤ 16) {i j : Int} (hi : i < n) (hj : j < n) : (bdI w q r i j = 1000000000 ∧ (i < 0 ∨ j < 0 ∨ (w : Int) < i - j ∨ (w : Int) < j - i)) ∨ (0 ≤ bdI w q r i j ∧ bdI w q r i j ≤ 124000000 ∧ 0 ≤ i ∧ 0 ≤ j ∧ i - j ≤ (w : Int) ∧ j - i ≤ (w : Int)) := by
  by_cases h : 0 ≤ i ∧ 0 ≤ j ∧ i - j ≤ (w : Int) ∧ j - i ≤ (w : Int)
  · refine Or.inr ?_
    rw [bdI_in h]
    have := cst_rg hq hr hn (w := w) (i := i.toNat) (j := j.toNat) (by omega) (by omega) (by omega)
    omega
  · exact Or.inl ⟨if_neg h, by omega⟩
theorem gAt_bd {n w : Nat} {q r G : Nat → Int} (hG : ∀ a b, a < n → b < n → inb w a b → G (16 * a + b) = cst w q r a b) {i j : Int} (hi : i < n) (hj : j < n) : gAt w G i j = bdI w q r i j := by
  by_cases h : 0 ≤ i ∧ 0 ≤ j ∧ i - j ≤ (w : Int) ∧ j - i ≤ (w : Int)
  · rw [bdI_in h, gAt_in i.toNat j.toNat (by omega) (by omega)]
    exact hG _ _ (by omega) (by omega) (by omega)
  · rw [bdI_out (by omega), gAt_out (by omega)]
theorem pnx_1 {w : Nat} {q r : Nat → Int} {i j : Int} (h1 : bdI w q r (i - 1) (j - 1) ≤ bdI w q r (i - 1) j) (h2 : bdI w q r (i - 1) (j - 1) ≤ bdI w q r i (j - 1)) : pnx w q r (i, j) = (i - 1, j - 1) := if_pos ⟨h1, h2⟩
theorem pnx_2 {w : Nat} {q r : Nat → Int} {i j : Int} (h1 : bdI w q r (i - 1) j < bdI w q r (i - 1) (j - 1) ∨ bdI w q r i (j - 1) < bdI w q r (i - 1) (j - 1)) (h2 : bdI w q r (i - 1) j ≤ bdI w q r i (j - 1)) : pnx w q r (i, j) = (i - 1, j) := by
  unfold pnx
  rw [if_neg (fun h => by have := h.1; have := h.2; dsimp only at *; omega), if_pos h2]
theorem pnx_3 {w : Nat} {q r : Nat → Int} {i j : Int} (h1 : bdI w q r (i - 1) j < bdI w q r (i - 1) (j - 1) ∨ bdI w q r i (j - 1) < bdI w q r (i - 1) (j - 1)) (h2 : bdI w q r i (j - 1) < bdI w q r (i - 1) j) : pnx w q r (i, j) = (i, j - 1) := by
  unfold pnx
  rw [if_neg (fun h => by have := h.1; have := h.2; dsimp only at *; omega), if_neg (Int.not_le.mpr h2)]
/-- where the walk back stands: on a pair of the band, or it has stepped out of (0, 0) -/
def trA (w n : Nat) (q r : Nat → Int) (t : Nat) (i j : Int) : Prop := 0 ≤ i ∧ 0 ≤ j ∧ i - j ≤ (w : Int) ∧ j - i ≤ (w : Int) ∧ i + j + (t : Int) ≤ 2 * ((n : Int) - 1) ∧ i < (n : Int) ∧ j < (n : Int) ∧ ∀ u, u < t → pseq w n q r u ≠ (0, 0)
def trS (w n : Nat) (q r : Nat → Int) (t : Nat) (i j : Int) : Prop := trA w n q r t i j ∨ (i = -1 ∧ j = -1 ∧ isMany w n q r t)
theorem tr_start {w n : Nat} {q r : Nat → Int} (hn : 1 ≤ n) : trA w n q r 0 ((n : Int) - 1) ((n : Int) - 1) := ⟨by omega, by omega, by omega, by omega, by omega, by omega, by omega, fun u h => absurd h (Nat.not_lt_zero _)⟩
/-- not at (0, 0): one step on, on a pair of the band -/
theorem tr_on {w n : Nat} {q r : Nat → Int} (hq : vals n q) (hr : vals n r) (hn : n ≤ 16) {t : Nat} {i j i' j' : Int} (h : trA w n q r t i j) (hij : pseq w n q r t = (i, j)) (h0 : ¬ (i = 0 ∧ j = 0)) (he : pnx w q r (i, j) = (i', j')) : trA w n q r (t + 1) i' j' := by
  obtain ⟨a1, a2, a3, a4, a5, a6, a7, a8⟩ := h
  have b1 := bdI_rg (w := w) hq hr hn (i := i - 1) (j := j - 1) (by omega) (by omega)
  have b2 := bdI_rg (w := w) hq hr hn (i := i - 1) (j := j) (by omega) (by omega)
  have b3 := bdI_rg (w := w) hq hr hn (i := i) (j := j - 1) (by omega) (by omega)
  have hne : ∀ u, u < t + 1 → pseq w n q r u ≠ (0, 0) := by
    intro u hu
    by_cases g : u = t
    · subst g
      rw [hij]
      intro q9
      injection q9 with q1 q2
      exact h0 ⟨q1, q2⟩
    · exact a8 u (by omega)
  unfold pnx at he
  dsimp only at he
  generalize bdI w q r (i - 1) (j - 1) = both at *
  generalize bdI w q r (i - 1) j = up at *
  generalize bdI w q r i (j - 1) = back at *
  split at he
  · injection he with e1 e2
    subst e1; subst e2
    exact ⟨by omega, by omega, by omega, by omega, by push_cast; omega, by omega, by omega, hne⟩
  · split at he
    · injection he with e1 e2
      subst e1; subst e2
      exact ⟨by omega, by omega, by omega, by omega, by push_cast; omega, by omega, by omega, hne⟩
    · injection he with e1 e2
      subst e1; subst e2
      exact ⟨by omega, by omega, by omega, by omega, by push_cast; omega, by omega, by omega, hne⟩
theorem tr_next {w n : Nat} {q r : Nat → Int} (hq : vals n q) (hr : vals n r) (hn : n ≤ 16) {t : Nat} {i j i' j' : Int} (h : trA w n q r t i j) (hij : pseq w n q r t = (i, j)) (he : pnx w q r (i, j) = (i', j')) : trS w n q r (t + 1) i' j' := by
  by_cases h0 : i = 0 ∧ j = 0
  · obtain ⟨e1, e2⟩ := h0
    subst e1; subst e2
    rw [pnx_1 (by rw [bdI_out (by omega), bdI_out (by omega)]; omega) (by rw [bdI_out (by omega), bdI_out (by omega)]; omega)] at he
    injection he with e1 e2
    exact Or.inr ⟨by omega, by omega, by omega, hij, h.2.2.2.2.2.2.2⟩
  · exact Or.inl (tr_on hq hr hn h hij h0 he)
theorem tr_many {w n : Nat} {q r : Nat → Int} {t : Nat} {i j : Int} (h : trS w n q r t i j) (hx : i < 0 ∨ j < 0) : isMany w n q r t := by
  rcases h with h | h
  · have := h.1
    have := h.2.1
    omega
  · exact h.2.2
end
section
/-! the list of a search: where a cost goes in, what the rows are then -/
def scn (D : Nat → Int) (d : Int) : Nat → Nat
  | 0 => 0
  | a + 1 => if d < D a then scn D d a else a + 1
def shf (F : Nat → Int) (a st : Nat) : Nat → Int := fun k => if k ≤ a then F k else if k ≤ st then F (k - 1) else F k
def insF (F : Nat → Int) (a st : Nat) (v : Int) : Nat → Int := fun k => if k < a then F k else if k = a then v else if k ≤ st then F (k - 1) else F k
theorem shf_0 (F : Nat → Int) (st : Nat) : shf F st st = F := by
  funext k
  unfold shf
  split
  · rfl
  · rfl
theorem shf_step {F : Nat → Int} {a st : Nat} (h1 : 1 ≤ a) (h2 : a ≤ st) : zU (shf F a st) a (shf F a st (a - 1)) = shf F (a - 1) st := by
  funext k
  unfold zU
  by_cases e : k = a
  · subst e
    rw [if_pos rfl]
    unfold shf
    rw [if_pos (by omega), if_neg (by omega), if_pos (by omega)]
  · rw [if_neg e]
    unfold shf
    by_cases g : k ≤ a
    · rw [if_pos g, if_pos (show k ≤ a - 1 by omega)]
    · rw [if_neg g, if_neg (show ¬ k ≤ a - 1 by omega)]
theorem shf_end {F : Nat → Int} {a st : Nat} {v : Int} : zU (shf F a st) a v = insF F a st v := by
  funext k
  unfold zU insF
  by_cases e : k = a
  · subst e
    rw [if_pos rfl, if_neg (by omega), if_pos rfl]
  · rw [if_neg e]
    unfold shf
    by_cases g : k < a
    · rw [if_pos (by omega), if_pos g]
    · rw [if_neg (by omega), if_neg g, if_neg e]
theorem shf_at {F : Nat → Int} {a st : Nat} (h : 1 ≤ a) : shf F a st (a - 1) = F (a - 1) := by
  unfold shf
  rw [if_pos (by omega)]
theorem scn_le (D : Nat → Int) (d : Int) : ∀ a, scn D d a ≤ a := by
  intro a
  induction a with
  | zero => exact Nat.le_refl _
  | succ a ih =>
    rw [scn]
    split
    · omega
    · exact Nat.le_refl _
theorem scn_on {D : Nat → Int} {d : Int} {a : Nat} (h1 : 1 ≤ a) (h : d < D (a - 1)) : scn D d a = scn D d (a - 1) := by
  cases a with
  | zero => omega
  | succ a =>
    rw [scn, if_pos (by simpa using h)]
    rfl
theorem scn_stop {D : Nat → Int} {d : Int} {a : Nat} (h : a = 0 ∨ D (a - 1) ≤ d) : scn D d a = a := by
  cases a with
  | zero => rfl
  | succ a =>
    rw [scn, if_neg]
    rcases h with h | h
    · omega
    · have h2 : D a ≤ d := by simpa using h
      omega
/-! copies and fills, a place at a time -/
def zF (F : Nat → Int) (n : Nat) (v : Int) : Nat → Int := fun k => if k < n then v else F k
theorem zF_0 (F : Nat → Int) (v : Int) : zF F 0 v = F := by
  funext k
  simp [zF]
theorem zF_step {F : Nat → Int} {i : Nat} {v : Int} : zU (zF F i v) i v = zF F (i + 1) v := by
  funext k
  unfold zU zF
  by_cases e : k = i
  · rw [if_pos e, if_pos (by omega)]
  · rw [if_neg e]
    by_cases g : k < i
    · rw [if_pos g, if_pos (by omega)]
    · rw [if_neg g, if_neg (by omega)]
theorem zC_0 (F G : Nat → Int) (sp dp : Nat) : zC F G sp dp 0 = G := by
  funext k
  unfold zC
  rw [if_neg (by omega)]
theorem zC_step0 {F G : Nat → Int} {sp i : Nat} : zU (zC F G sp 0 i) i (F (sp + i)) = zC F G sp 0 (i + 1) := by
  funext k
  unfold zU zC
  by_cases e : k = i
  · subst e
    rw [if_pos rfl, if_pos (by omega)]
    rfl
  · rw [if_neg e]
    by_cases g : k < i
    · rw [if_pos (by omega), if_pos (by omega)]
    · rw [if_neg (by omega), if_neg (by omega)]
theorem zC_stepD {F G : Nat → Int} {dp i : Nat} : zU (zC F G 0 dp i) (dp + i) (F i) = zC F G 0 dp (i + 1) := by
  funext k
  unfold zU zC
  by_cases e : k = dp + i
  · subst e
    rw [if_pos rfl, if_pos (by omega)]
    congr 1
    omega
  · rw [if_neg e]
    by_cases g : dp ≤ k ∧ k < dp + i
    · rw [if_pos g, if_pos (by omega)]
    · rw [if_neg g, if_neg (by omega)]
/-- one array, copied down in itself -/
theorem zC_self {F : Nat → Int} {sp i : Nat} : zC F F sp 0 i (i + sp) = F (sp + i) := by
  unfold zC
  by_cases g : i + sp < i
  · omega
  · rw [if_neg (by omega)]
    congr 1
    omega
end
section
/-! only the first n numbers count -/
def agr (n : Nat) (q q' : Nat → Int) : Prop := ∀ a, a < n → q a = q' a
theorem agr.symm {n : Nat} {q q' : Nat → Int} (h : agr n q q') : agr n q' q := fun a ha => (h a ha).symm
theorem agr.rfl' {n : Nat} {q : Nat → Int} : agr n q q := fun _ _ => rfl
theorem agr.vals {n : Nat} {q q' : Nat → Int} (h : agr n q q') (hq : vals n q) : vals n q' := fun a ha => by rw [← h a ha]; exact hq a ha
theorem cst_congr {n w : Nat} {q r q' r' : Nat → Int} (hq : agr n q q') (hr : agr n r r') : ∀ (k i j : Nat), i + j ≤ k → i < n → j < n → cst w q r i j = cst w q' r' i j := by
  intro k
  induction k with
  | zero =>
    intro i j h hi hj
    have h1 : i = 0 := by omega
    have h2 : j = 0 := by omega
    subst h1; subst h2
    simp only [cst, sqd, hq 0 hi, hr 0 hj]
  | succ k ih =>
    intro i j h hi hj
    have es : sqd q r i j = sqd q' r' i j := by simp only [sqd, hq i hi, hr j hj]
    cases i with
    | zero =>
      cases j with
      | zero => simp only [cst, es]
      | succ j =>
        have e1 := ih 0 j (by omega) (by omega) (by omega)
        simp only [cst, es, e1]
    | succ i =>
      cases j with
      | zero =>
        have e1 := ih i 0 (by omega) (by omega) (by omega)
        simp only [cst, es, e1]
      | succ j =>
        have e1 := ih i j (by omega) (by omega) (by omega)
        have e2 := ih i (j + 1) (by omega) (by omega) (by omega)
        have e3 := ih (i + 1) j (by omega) (by omega) (by omega)
        rw [cst.eq_4 w q r i j, cst.eq_4 w q' r' i j, es, e1, e2, e3]
theorem cst_cg {n w : Nat} {q r q' r' : Nat → Int} (hq : agr n q q') (hr : agr n r r') {i j : Nat} (hi : i < n) (hj : j < n) : cst w q r i j = cst w q' r' i j := cst_congr hq hr (i + j) i j (Nat.le_refl _) hi hj
theorem hlo_cg {n w : Nat} {h h' : Nat → Int} (e : agr n h h') {i : Nat} : ∀ k, k ≤ n → hlo w h i k = hlo w h' i k := by
  intro k
  induction k with
  | zero => intro _; rfl
  | succ k ih =>
    intro hk
    simp only [hlo, ih (by omega), e k (by omega)]
theorem hhi_cg {n w : Nat} {h h' : Nat → Int} (e : agr n h h') {i : Nat} : ∀ k, k ≤ n → hhi w h i k = hhi w h' i k := by
  intro k
  induction k with
  | zero => intro _; rfl
  | succ k ih =>
    intro hk
    simp only [hhi, ih (by omega), e k (by omega)]
theorem hbd_cg {n w : Nat} {h x h' x' : Nat → Int} (e : agr n h h') (f : agr n x x') : ∀ k, k ≤ n → hbd n w h x k = hbd n w h' x' k := by
  intro k
  induction k with
  | zero => intro _; rfl
  | succ k ih =>
    intro hk
    simp only [hbd, ih (by omega), f k (by omega), hlo_cg e n (Nat.le_refl _), hhi_cg e n (Nat.le_refl _)]
theorem lbd_cg {n w : Nat} {q r q' r' : Nat → Int} (hn : 1 ≤ n) (hq : agr n q q') (hr : agr n r r') (which : Int) : lbd n w q r which = lbd n w q' r' which := by
  simp only [lbd, sqd, hq 0 (by omega), hr 0 (by omega), hq (n - 1) (by omega), hr (n - 1) (by omega), hbd_cg hq hr n (Nat.le_refl _), hbd_cg hr hq n (Nat.le_refl _)]
theorem gu_cg {n w : Nat} {q r q' r' : Nat → Int} (hq : agr n q q') (hr : agr n r r') (lim : Int) : givesUp n w q r lim = givesUp n w q' r' lim := by
  apply propext
  constructor
  · intro ⟨i, h1, h2⟩
    exact ⟨i, h1, fun j h3 h4 => by rw [← cst_cg hq hr h1 h3]; exact h2 j h3 h4⟩
  · intro ⟨i, h1, h2⟩
    exact ⟨i, h1, fun j h3 h4 => by rw [cst_cg hq hr h1 h3]; exact h2 j h3 h4⟩
theorem bdI_cg {n w : Nat} {q r q' r' : Nat → Int} (hq : agr n q q') (hr : agr n r r') {i j : Int} (hi : i < n) (hj : j < n) : bdI w q r i j = bdI w q' r' i j := by
  unfold bdI
  by_cases h : 0 ≤ i ∧ 0 ≤ j ∧ i - j ≤ (w : Int) ∧ j - i ≤ (w : Int)
  · rw [if_pos h, if_pos h]
    exact cst_cg hq hr (by omega) (by omega)
  · rw [if_neg h, if_neg h]
theorem pseq_cg {n w : Nat} {q r q' r' : Nat → Int} (hq : agr n q q') (hr : agr n r r') : ∀ t, pseq w n q r t = pseq w n q' r' t ∧ (pseq w n q r t).1 < n ∧ (pseq w n q r t).2 < n := by
  intro t
  induction t with
  | zero => exact ⟨rfl, by simp only [pseq]; omega, by simp only [pseq]; omega⟩
  | succ t ih =>
    obtain ⟨e, h1, h2⟩ := ih
    rw [pseq, pseq, ← e]
    generalize pseq w n q r t = x at h1 h2
    obtain ⟨i, j⟩ := x
    dsimp only at h1 h2
    have e1 := bdI_cg (w := w) hq hr (i := i - 1) (j := j - 1) (by omega) (by omega)
    have e2 := bdI_cg (w := w) hq hr (i := i - 1) (j := j) (by omega) (by omega)
    have e3 := bdI_cg (w := w) hq hr (i := i) (j := j - 1) (by omega) (by omega)
    refine ⟨by simp only [pnx, e1, e2, e3], ?_, ?_⟩
    · unfold pnx
      split
      · dsimp only; omega
      · split <;> (dsimp only; omega)
    · unfold pnx
      split
      · dsimp only; omega
      · split <;> (dsimp only; omega)
theorem isMany_cg {n w : Nat} {q r q' r' : Nat → Int} (hq : agr n q q') (hr : agr n r r') {M : Nat} (h : isMany w n q r M) : isMany w n q' r' M := by
  obtain ⟨h1, h2, h3⟩ := h
  exact ⟨h1, by rw [← (pseq_cg hq hr (M - 1)).1]; exact h2, fun u hu => by rw [← (pseq_cg hq hr u).1]; exact h3 u hu⟩
/-! a search: one row after another -/
noncomputable def guB (n w : Nat) (q r : Nat → Int) (lim : Int) : Bool := @decide (givesUp n w q r lim) (Classical.propDecidable _)
theorem guB_t {n w : Nat} {q r : Nat → Int} {lim : Int} (h : givesUp n w q r lim) : guB n w q r lim = true := by
  unfold guB
  exact @decide_eq_true _ (Classical.propDecidable _) h
theorem guB_f {n w : Nat} {q r : Nat → Int} {lim : Int} (h : ¬ givesUp n w q r lim) : guB n w q r lim = false := by
  unfold guB
  exact @decide_eq_false _ (Classical.propDecidable _) h
def pas (n w : Nat) (q r : Nat → Int) (lim : Int) : Int := if lim ≤ lbd n w q r 0 then 0 else if lim ≤ lbd n w q r 1 then 1 else if lim ≤ lbd n w q r 2 then 2 else -1
def bmp (T : Nat → Int) (k : Nat) : Nat → Int := zU T k (T k + 1)
abbrev Lst : Type := Nat × (Nat → Int) × (Nat → Int) × (Nat → Int)
noncomputable def wgh (n w : Nat) (q r : Nat → Int) (wt : Nat) (pl : Int) (x : Lst) : Lst :=
  if x.1 = wt ∧ pas n w q r (x.2.2.1 (x.1 - 1)) ≠ -1 then (x.1, x.2.1, x.2.2.1, bmp x.2.2.2 (pas n w q r (x.2.2.1 (x.1 - 1))).toNat)
  else if x.1 = wt ∧ guB n w q r (x.2.2.1 (x.1 - 1)) = true then (x.1, x.2.1, x.2.2.1, bmp (bmp x.2.2.2 3) 4)
  else if x.1 = wt ∧ x.2.2.1 (x.1 - 1) ≤ cst w q r (n - 1) (n - 1) then (x.1, x.2.1, x.2.2.1, bmp x.2.2.2 3)
  else (min (x.1 + 1) wt, insF x.2.1 (scn x.2.2.1 (cst w q r (n - 1) (n - 1)) (min x.1 (wt - 1))) (min x.1 (wt - 1)) pl, insF x.2.2.1 (scn x.2.2.1 (cst w q r (n - 1) (n - 1)) (min x.1 (wt - 1))) (min x.1 (wt - 1)) (cst w q r (n - 1) (n - 1)), bmp x.2.2.2 3)
theorem wgh_cg {n w : Nat} {q r q' r' : Nat → Int} (hn : 1 ≤ n) (hq : agr n q q') (hr : agr n r r') (wt : Nat) (pl : Int) (x : Lst) : wgh n w q r wt pl x = wgh n w q' r' wt pl x := by
  have e1 : ∀ lim, pas n w q r lim = pas n w q' r' lim := fun lim => by simp only [pas, lbd_cg hn hq hr]
  have e2 : ∀ lim, guB n w q r lim = guB n w q' r' lim := fun lim => by unfold guB; rw [gu_cg hq hr]
  have e3 : cst w q r (n - 1) (n - 1) = cst w q' r' (n - 1) (n - 1) := cst_cg hq hr (by omega) (by omega)
  simp only [wgh, e1, e2, e3]
noncomputable def srch (n w : Nat) (q : Nat → Int) (rf : Nat → Nat → Int) (wt : Nat) (x : Lst) : Nat → Lst
  | 0 => x
  | k + 1 => wgh n w q (rf k) wt (k : Int) (srch n w q rf wt x k)
/-- what a list keeps: it is no longer than what is wanted; its distances are distances -/
def lok (wt : Nat) (x : Lst) : Prop := x.1 ≤ wt ∧ rgA x.2.2.1 ∧ ∀ k, k < x.1 → 0 ≤ x.2.2.1 k
theorem rgA_ins {F : Nat → Int} {a st : Nat} {v : Int} (hF : rgA F) (hv : -2147483648 ≤ v ∧ v ≤ 2147483647) : rgA (insF F a st v) := by
  intro k
  unfold insF
  split
  · exact hF _
  · split
    · exact hv
    · split
      · exact hF _
      · exact hF _
theorem lok_wgh {n w wt : Nat} {q r : Nat → Int} {pl : Int} {x : Lst} (hwt : 1 ≤ wt) (hc : 0 ≤ cst w q r (n - 1) (n - 1) ∧ cst w q r (n - 1) (n - 1) ≤ 124000000) (h : lok wt x) : lok wt (wgh n w q r wt pl x) := by
  obtain ⟨h1, h2, h3⟩ := h
  unfold wgh
  split
  · exact ⟨h1, h2, h3⟩
  · split
    · exact ⟨h1, h2, h3⟩
    · split
      · exact ⟨h1, h2, h3⟩
      · refine ⟨by dsimp only; omega, rgA_ins h2 (by omega), fun k hk => ?_⟩
        dsimp only at hk ⊢
        have hs := scn_le x.2.2.1 (cst w q r (n - 1) (n - 1)) (min x.1 (wt - 1))
        unfold insF
        split
        · exact h3 k (by omega)
        · split
          · omega
          · split
            · exact h3 (k - 1) (by omega)
            · exact absurd hk (by omega)
section WGH
variable {n w wt m : Nat} {q r P D T : Nat → Int} {pl lim z : Int}
theorem wgh_1 (hm : m = wt) (hd : D (m - 1) = lim) (hz : pas n w q r lim = z) (h : z ≠ -1) : wgh n w q r wt pl (m, P, D, T) = (m, P, D, bmp T z.toNat) := by
  subst hd; subst hz
  unfold wgh
  dsimp only
  rw [if_pos ⟨hm, h⟩]
theorem wgh_2 (hm : m = wt) (hd : D (m - 1) = lim) (hz : pas n w q r lim = -1) (hg : givesUp n w q r lim) : wgh n w q r wt pl (m, P, D, T) = (m, P, D, bmp (bmp T 3) 4) := by
  subst hd
  unfold wgh
  dsimp only
  rw [if_neg (fun h => h.2 hz), if_pos ⟨hm, guB_t hg⟩]
theorem wgh_3 (hm : m = wt) (hd : D (m - 1) = lim) (hz : pas n w q r lim = -1) (hg : ¬ givesUp n w q r lim) (hc : lim ≤ cst w q r (n - 1) (n - 1)) : wgh n w q r wt pl (m, P, D, T) = (m, P, D, bmp T 3) := by
  subst hd
  unfold wgh
  dsimp only
  rw [if_neg (fun h => h.2 hz), if_neg (fun h => by rw [guB_f hg] at h; exact absurd h.2 (by decide)), if_pos ⟨hm, hc⟩]
theorem wgh_4 (h : m ≠ wt ∨ (pas n w q r (D (m - 1)) = -1 ∧ ¬ givesUp n w q r (D (m - 1)) ∧ cst w q r (n - 1) (n - 1) < D (m - 1))) : wgh n w q r wt pl (m, P, D, T) = (min (m + 1) wt, insF P (scn D (cst w q r (n - 1) (n - 1)) (min m (wt - 1))) (min m (wt - 1)) pl, insF D (scn D (cst w q r (n - 1) (n - 1)) (min m (wt - 1))) (min m (wt - 1)) (cst w q r (n - 1) (n - 1)), bmp T 3) := by
  unfold wgh
  dsimp only
  rcases h with h | ⟨h1, h2, h3⟩
  · rw [if_neg (fun g => h g.1), if_neg (fun g => h g.1), if_neg (fun g => h g.1)]
  · rw [if_neg (fun g => g.2 h1), if_neg (fun g => by rw [guB_f h2] at g; exact absurd g.2 (by decide)), if_neg (fun g => by have := g.2; omega)]
end WGH
theorem pas_rg (n w : Nat) (q r : Nat → Int) (lim : Int) : pas n w q r lim = -1 ∨ (0 ≤ pas n w q r lim ∧ pas n w q r lim ≤ 2) := by
  unfold pas
  split
  · omega
  · split
    · omega
    · split <;> omega
/-- the copied numbers are the source's -/
theorem agr_c {x q : Nat → Int} {n f0 : Nat} : agr n (zC x q f0 0 n) (fun j => x (f0 + j)) := by
  intro a ha
  unfold zC
  rw [if_pos (by omega)]
  simp
theorem agr_0 {x q : Nat → Int} {n : Nat} : agr n (zC x q 0 0 n) x := by
  intro a ha
  unfold zC
  rw [if_pos (by omega)]
  simp
theorem lbd_rg {n w : Nat} {q r : Nat → Int} (hn : 1 ≤ n ∧ n ≤ 16) (hq : vals n q) (hr : vals n r) (which : Int) : 0 ≤ lbd n w q r which ∧ lbd n w q r which ≤ 128000000 := by
  unfold lbd
  have h1 := sqd_bd (hq 0 (by omega)) (hr 0 (by omega))
  have h2 := sqd_bd (hq (n - 1) (by omega)) (hr (n - 1) (by omega))
  have h3 := hbd_rg (w := w) hq hr n (Nat.le_refl _)
  have h4 := hbd_rg (w := w) hr hq n (Nat.le_refl _)
  split
  · omega
  · split <;> omega
theorem vals_c {X R : Nat → Int} {N n f0 : Nat} (hX : vals N X) (h : f0 + n ≤ N) : vals n (zC X R f0 0 n) := by
  intro a ha
  unfold zC
  rw [if_pos (by omega)]
  exact hX _ (by omega)
theorem vals.le {n N : Nat} {X : Nat → Int} (h : vals N X) (hn : n ≤ N) : vals n X := fun a ha => h a (by omega)
end
section
/-! the reference's reading of the same costs: -1 where there is no pair of the band -/
def lsr (a b : Int) : Int := if a < 0 then b else if b < 0 ∨ a < b then a else b
def mAt (n w : Nat) (G : Nat → Int) (i j : Int) : Int := if 0 ≤ i ∧ i < (n : Int) ∧ 0 ≤ j ∧ j < (n : Int) ∧ i - j ≤ (w : Int) ∧ j - i ≤ (w : Int) then G (16 * i + j).toNat else -1
theorem mAt_bd {n w : Nat} {q r G : Nat → Int} (hq : vals n q) (hr : vals n r) (hn : n ≤ 16) {i j : Int} (hi : i < n) (hj : j < n)
    (hG : 0 ≤ i → 0 ≤ j → inb w i.toNat j.toNat → G (16 * i.toNat + j.toNat) = cst w q r i.toNat j.toNat) : (mAt n w G i j = -1 ∧ bdI w q r i j = 1000000000 ∧ (i < 0 ∨ j < 0 ∨ (w : Int) < i - j ∨ (w : Int) < j - i)) ∨ (mAt n w G i j = bdI w q r i j ∧ 0 ≤ bdI w q r i j ∧ bdI w q r i j ≤ 124000000 ∧ 0 ≤ i ∧ 0 ≤ j ∧ i - j ≤ (w : Int) ∧ j - i ≤ (w : Int)) := by
  by_cases h : 0 ≤ i ∧ 0 ≤ j ∧ i - j ≤ (w : Int) ∧ j - i ≤ (w : Int)
  · refine Or.inr ?_
    have h1 := cst_rg hq hr hn (w := w) (i := i.toNat) (j := j.toNat) (by omega) (by omega) (by omega)
    have h2 : mAt n w G i j = cst w q r i.toNat j.toNat := by
      unfold mAt
      rw [if_pos (by omega), show (16 * i + j).toNat = 16 * i.toNat + j.toNat by omega]
      exact hG (by omega) (by omega) (by omega)
    rw [h2, bdI_in h]
    omega
  · refine Or.inl ⟨?_, bdI_out (by omega), by omega⟩
    unfold mAt
    rw [if_neg (by omega)]
theorem lsr3 {x y z x' y' z' : Int} (hx : (x = -1 ∧ x' = 1000000000) ∨ (x = x' ∧ 0 ≤ x' ∧ x' ≤ 124000000)) (hy : (y = -1 ∧ y' = 1000000000) ∨ (y = y' ∧ 0 ≤ y' ∧ y' ≤ 124000000)) (hz : (z = -1 ∧ z' = 1000000000) ∨ (z = z' ∧ 0 ≤ z' ∧ z' ≤ 124000000)) :
    (lsr x (lsr y z) = -1 ∧ x = -1 ∧ y = -1 ∧ z = -1) ∨ (lsr x (lsr y z) = min x' (min y' z') ∧ 0 ≤ lsr x (lsr y z) ∧ lsr x (lsr y z) ≤ 124000000) := by
  have e1 : lsr y z = if y < 0 then z else if z < 0 ∨ y < z then y else z := rfl
  have e2 : lsr x (lsr y z) = if x < 0 then lsr y z else if lsr y z < 0 ∨ x < lsr y z then x else lsr y z := rfl
  generalize lsr x (lsr y z) = v at *
  generalize lsr y z = u at *
  by_cases h1 : y < 0
  · rw [if_pos h1] at e1
    by_cases h3 : x < 0
    · rw [if_pos h3] at e2; omega
    · rw [if_neg h3] at e2
      by_cases h4 : u < 0 ∨ x < u
      · rw [if_pos h4] at e2; omega
      · rw [if_neg h4] at e2; omega
  · rw [if_neg h1] at e1
    by_cases h2 : z < 0 ∨ y < z
    · rw [if_pos h2] at e1
      by_cases h3 : x < 0
      · rw [if_pos h3] at e2; omega
      · rw [if_neg h3] at e2
        by_cases h4 : u < 0 ∨ x < u
        · rw [if_pos h4] at e2; omega
        · rw [if_neg h4] at e2; omega
    · rw [if_neg h2] at e1
      by_cases h3 : x < 0
      · rw [if_pos h3] at e2; omega
      · rw [if_neg h3] at e2
        by_cases h4 : u < 0 ∨ x < u
        · rw [if_pos h4] at e2; omega
        · rw [if_neg h4] at e2; omega
/-- a pair's cost out of the costs before it, by the neighbours -/
theorem cst_nb {n w : Nat} {q r : Nat → Int} (hq : vals n q) (hr : vals n r) (hn : n ≤ 16) {i j : Nat} (hi : i < n) (hj : j < n) (hb : inb w i j) (h0 : ¬ (i = 0 ∧ j = 0)) :
    cst w q r i j = sqd q r i j + min (bdI w q r ((i : Int) - 1) ((j : Int) - 1)) (min (bdI w q r ((i : Int) - 1) (j : Int)) (bdI w q r (i : Int) ((j : Int) - 1))) := by
  have h := cst_eq (G := fun k => cst w q r (k / 16) (k % 16)) hq hr hn hi hj hb (fun b h1 h2 h3 => by
      have e1 : (16 * (i - 1) + b) / 16 = i - 1 := by omega
      have e2 : (16 * (i - 1) + b) % 16 = b := by omega
      show cst w q r ((16 * (i - 1) + b) / 16) ((16 * (i - 1) + b) % 16) = _
      rw [e1, e2]) (fun h1 h2 => by
      have e1 : (16 * i + (j - 1)) / 16 = i := by omega
      have e2 : (16 * i + (j - 1)) % 16 = j - 1 := by omega
      show cst w q r ((16 * i + (j - 1)) / 16) ((16 * i + (j - 1)) % 16) = _
      rw [e1, e2])
  have hG : ∀ a b, a < n → b < n → inb w a b → (fun k => cst w q r (k / 16) (k % 16)) (16 * a + b) = cst w q r a b := by
    intro a b h1 h2 h3
    have e1 : (16 * a + b) / 16 = a := by omega
    have e2 : (16 * a + b) % 16 = b := by omega
    show cst w q r ((16 * a + b) / 16) ((16 * a + b) % 16) = _
    rw [e1, e2]
  unfold gBef at h
  rw [if_neg (by omega), gAt_bd hG (by omega) (by omega), gAt_bd hG (by omega) (by omega), gAt_bd hG (by omega) (by omega)] at h
  omega
/-- .. as the reference has it -/
theorem cst_m {n w : Nat} {q r G : Nat → Int} (hq : vals n q) (hr : vals n r) (hn : n ≤ 16) {i j : Nat} (hi : i < n) (hj : j < n) (hb : inb w i j) (h0 : ¬ (i = 0 ∧ j = 0))
    (h1 : ∀ a b : Nat, a < n → b < n → a ≤ i → b ≤ j → ¬ (a = i ∧ b = j) → inb w a b → G (16 * a + b) = cst w q r a b) :
    sqd q r i j + lsr (mAt n w G ((i : Int) - 1) ((j : Int) - 1)) (lsr (mAt n w G ((i : Int) - 1) (j : Int)) (mAt n w G (i : Int) ((j : Int) - 1))) = cst w q r i j := by
  have b1 := mAt_bd (G := G) (w := w) hq hr hn (i := (i : Int) - 1) (j := (j : Int) - 1) (by omega) (by omega) (fun a1 a2 a3 => h1 _ _ (by omega) (by omega) (by omega) (by omega) (by omega) a3)
  have b2 := mAt_bd (G := G) (w := w) hq hr hn (i := (i : Int) - 1) (j := (j : Int)) (by omega) (by omega) (fun a1 a2 a3 => h1 _ _ (by omega) (by omega) (by omega) (by omega) (by omega) a3)
  have b3 := mAt_bd (G := G) (w := w) hq hr hn (i := (i : Int)) (j := (j : Int) - 1) (by omega) (by omega) (fun a1 a2 a3 => h1 _ _ (by omega) (by omega) (by omega) (by omega) (by omega) a3)
  have e := cst_nb hq hr hn hi hj hb h0
  have l := lsr3 (x := mAt n w G ((i : Int) - 1) ((j : Int) - 1)) (y := mAt n w G ((i : Int) - 1) (j : Int)) (z := mAt n w G (i : Int) ((j : Int) - 1)) (x' := bdI w q r ((i : Int) - 1) ((j : Int) - 1)) (y' := bdI w q r ((i : Int) - 1) (j : Int)) (z' := bdI w q r (i : Int) ((j : Int) - 1)) (by omega) (by omega) (by omega)
  omega
theorem lsr_rg {a b : Int} (ha : -2147483648 ≤ a ∧ a ≤ 2147483647) (hb : -2147483648 ≤ b ∧ b ≤ 2147483647) : -2147483648 ≤ lsr a b ∧ lsr a b ≤ 2147483647 := by
  unfold lsr
  split
  · exact hb
  · split
    · exact ha
    · exact hb
theorem mAt_rg {n w : Nat} {G : Nat → Int} (hG : rgA G) (i j : Int) : -2147483648 ≤ mAt n w G i j ∧ mAt n w G i j ≤ 2147483647 := by
  unfold mAt
  split
  · exact hG _
  · omega
end
section
/-! two lists that show the same -/
def lsim (x y : Lst) : Prop := x.1 = y.1 ∧ (∀ k, k < x.1 → x.2.1 k = y.2.1 k) ∧ (∀ k, k < x.1 → x.2.2.1 k = y.2.2.1 k) ∧ ∀ k, k < 5 → x.2.2.2 k = y.2.2.2 k
theorem lsim.rfl' {x : Lst} : lsim x x := ⟨rfl, fun _ _ => rfl, fun _ _ => rfl, fun _ _ => rfl⟩
theorem lsim.trans' {x y z : Lst} (h : lsim x y) (h' : lsim y z) : lsim x z := by
  obtain ⟨a1, a2, a3, a4⟩ := h
  obtain ⟨b1, b2, b3, b4⟩ := h'
  exact ⟨a1.trans b1, fun k hk => (a2 k hk).trans (b2 k (by omega)), fun k hk => (a3 k hk).trans (b3 k (by omega)), fun k hk => (a4 k hk).trans (b4 k hk)⟩
theorem lsim.symm' {x y : Lst} (h : lsim x y) : lsim y x := by
  obtain ⟨a1, a2, a3, a4⟩ := h
  exact ⟨a1.symm, fun k hk => (a2 k (by omega)).symm, fun k hk => (a3 k (by omega)).symm, fun k hk => (a4 k hk).symm⟩
theorem scn_cg {D D' : Nat → Int} {d : Int} : ∀ a, (∀ k, k < a → D k = D' k) → scn D d a = scn D' d a := by
  intro a
  induction a with
  | zero => intro _; rfl
  | succ a ih =>
    intro h
    rw [scn, scn, h a (by omega), ih (fun k hk => h k (by omega))]
theorem insF_cg {F F' : Nat → Int} {a st m : Nat} {v : Int} (h : ∀ k, k < m → F k = F' k) (hst : st ≤ m) {k : Nat} (hk : k ≤ st) (ha : a ≤ st) : insF F a st v k = insF F' a st v k := by
  unfold insF
  split
  · exact h k (by omega)
  · split
    · rfl
    · try rw [if_pos hk]
      exact h (k - 1) (by omega)
theorem bmp_cg {T T' : Nat → Int} (h : ∀ k, k < 5 → T k = T' k) {j : Nat} (hj : j < 5) : ∀ k, k < 5 → bmp T j k = bmp T' j k := by
  intro k hk
  unfold bmp
  by_cases e : k = j
  · subst e
    rw [zU_s, zU_s, h k hk]
  · rw [zU_n e, zU_n e]
    exact h k hk
theorem lsim_wgh {n w wt : Nat} {q r : Nat → Int} {pl : Int} {x y : Lst} (hwt : 1 ≤ wt) (hx : x.1 ≤ wt) (h : lsim x y) : lsim (wgh n w q r wt pl x) (wgh n w q r wt pl y) := by
  obtain ⟨m, P, D, T⟩ := x
  obtain ⟨m', P', D', T'⟩ := y
  obtain ⟨h1, h2, h3, h4⟩ := h
  dsimp only at hx h1 h2 h3 h4
  subst h1
  have hd : m = wt → D (m - 1) = D' (m - 1) := fun e => h3 (m - 1) (by omega)
  by_cases c0 : m = wt
  · have hd := hd c0
    rcases pas_rg n w q r (D (m - 1)) with hp | hp
    · by_cases hg : givesUp n w q r (D (m - 1))
      · rw [wgh_2 c0 rfl hp hg, wgh_2 c0 hd.symm hp hg]
        exact ⟨rfl, h2, h3, bmp_cg (bmp_cg h4 (by omega)) (by omega)⟩
      · by_cases hc : D (m - 1) ≤ cst w q r (n - 1) (n - 1)
        · rw [wgh_3 c0 rfl hp hg hc, wgh_3 c0 hd.symm hp hg hc]
          exact ⟨rfl, h2, h3, bmp_cg h4 (by omega)⟩
        · rw [wgh_4 (Or.inr ⟨hp, hg, by omega⟩), wgh_4 (Or.inr ⟨by rw [← hd]; exact hp, by rw [← hd]; exact hg, by omega⟩)]
          have hs := scn_le D (cst w q r (n - 1) (n - 1)) (min m (wt - 1))
          have e := scn_cg (D := D) (D' := D') (d := cst w q r (n - 1) (n - 1)) (min m (wt - 1)) (fun k hk => h3 k (by omega))
          refine ⟨rfl, fun k hk => ?_, fun k hk => ?_, bmp_cg h4 (by omega)⟩
          · dsimp only at hk ⊢
            rw [← e]
            exact insF_cg h2 (by omega) (by omega) hs
          · dsimp only at hk ⊢
            rw [← e]
            exact insF_cg h3 (by omega) (by omega) hs
    · have hp2 : pas n w q r (D (m - 1)) ≠ -1 := by omega
      rw [wgh_1 c0 rfl rfl hp2, wgh_1 c0 hd.symm rfl hp2]
      exact ⟨rfl, h2, h3, bmp_cg h4 (by omega)⟩
  · rw [wgh_4 (Or.inl c0), wgh_4 (Or.inl c0)]
    have hs := scn_le D (cst w q r (n - 1) (n - 1)) (min m (wt - 1))
    have e := scn_cg (D := D) (D' := D') (d := cst w q r (n - 1) (n - 1)) (min m (wt - 1)) (fun k hk => h3 k (by omega))
    refine ⟨rfl, fun k hk => ?_, fun k hk => ?_, bmp_cg h4 (by omega)⟩
    · dsimp only at hk ⊢
      rw [← e]
      exact insF_cg h2 (by omega) (by omega) hs
    · dsimp only at hk ⊢
      rw [← e]
      exact insF_cg h3 (by omega) (by omega) hs
/-- the reference's insertion shows the same -/
theorem ins_sim {n w wt m : Nat} {q r P D T : Nat → Int} {pl : Int} (hwt : 1 ≤ wt) (hm : m ≤ wt) (h : m ≠ wt ∨ (pas n w q r (D (m - 1)) = -1 ∧ ¬ givesUp n w q r (D (m - 1)) ∧ cst w q r (n - 1) (n - 1) < D (m - 1))) :
    lsim (min (m + 1) wt, insF P (scn D (cst w q r (n - 1) (n - 1)) m) m pl, insF D (scn D (cst w q r (n - 1) (n - 1)) m) m (cst w q r (n - 1) (n - 1)), bmp T 3) (wgh n w q r wt pl (m, P, D, T)) := by
  rw [wgh_4 h]
  by_cases c0 : m = wt
  · have hc : cst w q r (n - 1) (n - 1) < D (m - 1) := by
      rcases h with h | h
      · exact absurd c0 h
      · exact h.2.2
    have e1 : min m (wt - 1) = m - 1 := by omega
    have e2 : scn D (cst w q r (n - 1) (n - 1)) m = scn D (cst w q r (n - 1) (n - 1)) (m - 1) := scn_on (by omega) hc
    have hs := scn_le D (cst w q r (n - 1) (n - 1)) (m - 1)
    rw [e1, e2]
    have key : ∀ (F : Nat → Int) (v : Int) (k : Nat), k < min (m + 1) wt → insF F (scn D (cst w q r (n - 1) (n - 1)) (m - 1)) m v k = insF F (scn D (cst w q r (n - 1) (n - 1)) (m - 1)) (m - 1) v k := by
      intro F v k hk
      unfold insF
      split
      · rfl
      · split
        · rfl
        · rw [if_pos (by omega), if_pos (by omega)]
    exact ⟨rfl, fun k hk => key _ _ k hk, fun k hk => key _ _ k hk, fun _ _ => rfl⟩
  · have e1 : min m (wt - 1) = m := by omega
    rw [e1]
    exact lsim.rfl'
theorem lok_ins {wt m : Nat} {P D T : Nat → Int} {d pl : Int} (h : lok wt (m, P, D, T)) (hd : 0 ≤ d ∧ d ≤ 124000000) {P' T' : Nat → Int} : lok wt (min (m + 1) wt, P', insF D (scn D d m) m d, T') := by
  obtain ⟨h1, h2, h3⟩ := h
  refine ⟨by dsimp only; omega, rgA_ins h2 (by omega), fun k hk => ?_⟩
  dsimp only at hk h1 h3 ⊢
  have hs := scn_le D d m
  unfold insF
  split
  · exact h3 k (by omega)
  · split
    · exact hd.1
    · split
      · exact h3 (k - 1) (by omega)
      · exact absurd hk (by omega)
theorem lsim_srch {n w wt : Nat} {q : Nat → Int} {rf : Nat → Nat → Int} {x y : Lst} (hwt : 1 ≤ wt) (hx : ∀ k, (srch n w q rf wt x k).1 ≤ wt) (h : lsim x y) : ∀ k, lsim (srch n w q rf wt x k) (srch n w q rf wt y k) := by
  intro k
  induction k with
  | zero => exact h
  | succ k ih => exact lsim_wgh hwt (hx k) ih
/-! votes for labels -/
def vot (la P : Nat → Int) (lab : Int) : Nat → Int
  | 0 => 0
  | k + 1 => if la (P k).toNat = lab then vot la P lab k + 1 else vot la P lab k
def gss (la P : Nat → Int) (m : Nat) (b0 : Int) : Nat → Int × Int
  | 0 => (b0, 0)
  | k + 1 => if (gss la P m b0 k).2 < vot la P (la (P k).toNat) m then (la (P k).toNat, vot la P (la (P k).toNat) m) else gss la P m b0 k
theorem vot_rg {la P : Nat → Int} {lab : Int} : ∀ k : Nat, 0 ≤ vot la P lab k ∧ vot la P lab k ≤ (k : Int) := by
  intro k
  induction k with
  | zero => simp [vot]
  | succ k ih =>
    rw [vot]
    split <;> omega
theorem vot_pos {la P : Nat → Int} {lab : Int} : ∀ k j : Nat, j < k → la (P j).toNat = lab → 1 ≤ vot la P lab k := by
  intro k
  induction k with
  | zero => intro j h; omega
  | succ k ih =>
    intro j h e
    have h2 := vot_rg (la := la) (P := P) (lab := lab) k
    rw [vot]
    by_cases g : j = k
    · subst g
      rw [if_pos e]
      omega
    · have := ih j (by omega) e
      split <;> omega
theorem vot_cg {la la' P P' : Nat → Int} {lab : Int} {m : Nat} (hP : ∀ k, k < m → P k = P' k ∧ 0 ≤ P k ∧ P k < 12) (hl : agr 12 la la') : ∀ k, k ≤ m → vot la P lab k = vot la' P' lab k := by
  intro k
  induction k with
  | zero => intro _; rfl
  | succ k ih =>
    intro hk
    have h1 := hP k (by omega)
    have h2 : la (P k).toNat = la' (P' k).toNat := by
      rw [← h1.1]
      exact hl _ (by omega)
    rw [vot, vot, ih (by omega), h2]
theorem gss_cg {la la' P P' : Nat → Int} {m : Nat} {b0 : Int} (hP : ∀ k, k < m → P k = P' k ∧ 0 ≤ P k ∧ P k < 12) (hl : agr 12 la la') : ∀ k, k ≤ m → gss la P m b0 k = gss la' P' m b0 k := by
  intro k
  induction k with
  | zero => intro _; rfl
  | succ k ih =>
    intro hk
    have h1 := hP k (by omega)
    have h2 : la (P k).toNat = la' (P' k).toNat := by
      rw [← h1.1]
      exact hl _ (by omega)
    rw [gss, gss, ih (by omega), h2, vot_cg hP hl m (Nat.le_refl _)]
theorem gss_b {la P : Nat → Int} {m : Nat} {b0 b1 : Int} : ∀ k, 1 ≤ k → k ≤ m → gss la P m b0 k = gss la P m b1 k := by
  intro k
  induction k with
  | zero => intro h; omega
  | succ k ih =>
    intro _ hk
    by_cases g : k = 0
    · subst g
      have := vot_pos (la := la) (P := P) (lab := la (P 0).toNat) m 0 (by omega) rfl
      have e0 : ∀ b : Int, gss la P m b (0 + 1) = (la (P 0).toNat, vot la P (la (P 0).toNat) m) := fun b => by
        rw [gss]
        exact if_pos (show (0 : Int) < vot la P (la (P 0).toNat) m by omega)
      rw [e0, e0]
    · rw [gss, gss, ih (by omega) (by omega)]
theorem gss_rg {la P : Nat → Int} {m : Nat} {b0 : Int} (hm : m ≤ 12) : ∀ k : Nat, 0 ≤ (gss la P m b0 k).2 ∧ (gss la P m b0 k).2 ≤ 12 := by
  intro k
  induction k with
  | zero => simp [gss]
  | succ k ih =>
    have h2 := vot_rg (la := la) (P := P) (lab := la (P k).toNat) m
    rw [gss]
    split
    · dsimp only; omega
    · exact ih
/-- the places of a list are among the first K -/
def plk (K : Nat) (x : Lst) : Prop := ∀ k, k < x.1 → 0 ≤ x.2.1 k ∧ x.2.1 k < (K : Int)
theorem plk_wgh {n w wt K : Nat} {q r : Nat → Int} {x : Lst} (h : plk K x) : plk (K + 1) (wgh n w q r wt (K : Int) x) := by
  have h0 : plk (K + 1) x := fun k hk => by have := h k hk; omega
  unfold wgh
  split
  · exact h0
  · split
    · exact h0
    · split
      · exact h0
      · intro k hk
        dsimp only at hk ⊢
        have hs := scn_le x.2.2.1 (cst w q r (n - 1) (n - 1)) (min x.1 (wt - 1))
        unfold insF
        split
        · exact h0 k (by omega)
        · split
          · omega
          · split
            · exact h0 (k - 1) (by omega)
            · exact absurd hk (by omega)
theorem srch_all {n w wt : Nat} {q : Nat → Int} {rf : Nat → Nat → Int} {x : Lst} (hn : 2 ≤ n ∧ n ≤ 16) (hwt : 1 ≤ wt) (hq : vals n q) (h0 : x.1 = 0) (hl : lok wt x) (many : Nat) (hr : ∀ p, p < many → vals n (rf p)) : ∀ k, k ≤ many → lok wt (srch n w q rf wt x k) ∧ plk k (srch n w q rf wt x k) ∧ (1 ≤ k → 1 ≤ (srch n w q rf wt x k).1) := by
  intro k
  induction k with
  | zero => intro _; exact ⟨hl, fun k hk => by rw [srch, h0] at hk; omega, fun h => by omega⟩
  | succ k ih =>
    intro hk
    obtain ⟨h1, h2, h3⟩ := ih (by omega)
    have hc := cst_rg hq (hr k (by omega)) hn.2 (w := w) (i := n - 1) (j := n - 1) (by omega) (by omega) (by omega)
    rw [srch]
    refine ⟨lok_wgh hwt hc h1, plk_wgh h2, fun _ => ?_⟩
    generalize srch n w q rf wt x k = y at h1 h2 h3
    unfold wgh
    split
    · rename_i g; dsimp only; omega
    · split
      · rename_i g; dsimp only; omega
      · split
        · rename_i g; dsimp only; omega
        · dsimp only; omega
end
section
theorem dX0_init_0 : decode cX0_init 0 = .ok (.aload_n 0, 1) := by decide +kernel
theorem dX0_init_1 : decode cX0_init 1 = .ok (.invokespecial 3, 3) := by decide +kernel
theorem dX0_init_4 : decode cX0_init 4 = .ok (.aload_n 0, 1) := by decide +kernel
theorem dX0_init_5 : decode cX0_init 5 = .ok (.bipush 16, 2) := by decide +kernel
theorem dX0_init_7 : decode cX0_init 7 = .ok (.newarray .int, 2) := by decide +kernel
theorem dX0_init_9 : decode cX0_init 9 = .ok (.putfield 9, 3) := by decide +kernel
theorem dX0_init_12 : decode cX0_init 12 = .ok (.aload_n 0, 1) := by decide +kernel
theorem dX0_init_13 : decode cX0_init 13 = .ok (.bipush 16, 2) := by decide +kernel
theorem dX0_init_15 : decode cX0_init 15 = .ok (.newarray .int, 2) := by decide +kernel
theorem dX0_init_17 : decode cX0_init 17 = .ok (.putfield 15, 3) := by decide +kernel
theorem dX0_init_20 : decode cX0_init 20 = .ok (.aload_n 0, 1) := by decide +kernel
theorem dX0_init_21 : decode cX0_init 21 = .ok (.sipush 256, 3) := by decide +kernel
theorem dX0_init_24 : decode cX0_init 24 = .ok (.newarray .int, 2) := by decide +kernel
theorem dX0_init_26 : decode cX0_init 26 = .ok (.putfield 18, 3) := by decide +kernel
theorem dX0_init_29 : decode cX0_init 29 = .ok (.aload_n 0, 1) := by decide +kernel
theorem dX0_init_30 : decode cX0_init 30 = .ok (.bipush 31, 2) := by decide +kernel
theorem dX0_init_32 : decode cX0_init 32 = .ok (.newarray .int, 2) := by decide +kernel
theorem dX0_init_34 : decode cX0_init 34 = .ok (.putfield 21, 3) := by decide +kernel
theorem dX0_init_37 : decode cX0_init 37 = .ok (.aload_n 0, 1) := by decide +kernel
theorem dX0_init_38 : decode cX0_init 38 = .ok (.bipush 31, 2) := by decide +kernel
theorem dX0_init_40 : decode cX0_init 40 = .ok (.putfield 24, 3) := by decide +kernel
theorem dX0_init_43 : decode cX0_init 43 = .ok (.aload_n 0, 1) := by decide +kernel
theorem dX0_init_44 : decode cX0_init 44 = .ok (.iconst 2, 1) := by decide +kernel
theorem dX0_init_45 : decode cX0_init 45 = .ok (.putfield 28, 3) := by decide +kernel
theorem dX0_init_48 : decode cX0_init 48 = .ok (.aload_n 0, 1) := by decide +kernel
theorem dX0_init_49 : decode cX0_init 49 = .ok (.iconst 0, 1) := by decide +kernel
theorem dX0_init_50 : decode cX0_init 50 = .ok (.putfield 31, 3) := by decide +kernel
theorem dX0_init_53 : decode cX0_init 53 = .ok (.return_, 1) := by decide +kernel
theorem dX1_init_0 : decode cX1_init 0 = .ok (.aload_n 0, 1) := by decide +kernel
theorem dX1_init_1 : decode cX1_init 1 = .ok (.invokespecial 3, 3) := by decide +kernel
theorem dX1_init_4 : decode cX1_init 4 = .ok (.aload_n 0, 1) := by decide +kernel
theorem dX1_init_5 : decode cX1_init 5 = .ok (.bipush 12, 2) := by decide +kernel
theorem dX1_init_7 : decode cX1_init 7 = .ok (.newarray .int, 2) := by decide +kernel
theorem dX1_init_9 : decode cX1_init 9 = .ok (.putfield 9, 3) := by decide +kernel
theorem dX1_init_12 : decode cX1_init 12 = .ok (.aload_n 0, 1) := by decide +kernel
theorem dX1_init_13 : decode cX1_init 13 = .ok (.bipush 12, 2) := by decide +kernel
theorem dX1_init_15 : decode cX1_init 15 = .ok (.newarray .int, 2) := by decide +kernel
theorem dX1_init_17 : decode cX1_init 17 = .ok (.putfield 15, 3) := by decide +kernel
theorem dX1_init_20 : decode cX1_init 20 = .ok (.aload_n 0, 1) := by decide +kernel
theorem dX1_init_21 : decode cX1_init 21 = .ok (.iconst 0, 1) := by decide +kernel
theorem dX1_init_22 : decode cX1_init 22 = .ok (.putfield 18, 3) := by decide +kernel
theorem dX1_init_25 : decode cX1_init 25 = .ok (.aload_n 0, 1) := by decide +kernel
theorem dX1_init_26 : decode cX1_init 26 = .ok (.iconst 1, 1) := by decide +kernel
theorem dX1_init_27 : decode cX1_init 27 = .ok (.putfield 22, 3) := by decide +kernel
theorem dX1_init_30 : decode cX1_init 30 = .ok (.return_, 1) := by decide +kernel
theorem dX1_startFor_0 : decode cX1_startFor 0 = .ok (.aload_n 0, 1) := by decide +kernel
theorem dX1_startFor_1 : decode cX1_startFor 1 = .ok (.iload_n 1, 1) := by decide +kernel
theorem dX1_startFor_2 : decode cX1_startFor 2 = .ok (.putfield 22, 3) := by decide +kernel
theorem dX1_startFor_5 : decode cX1_startFor 5 = .ok (.aload_n 0, 1) := by decide +kernel
theorem dX1_startFor_6 : decode cX1_startFor 6 = .ok (.iconst 0, 1) := by decide +kernel
theorem dX1_startFor_7 : decode cX1_startFor 7 = .ok (.putfield 18, 3) := by decide +kernel
theorem dX1_startFor_10 : decode cX1_startFor 10 = .ok (.return_, 1) := by decide +kernel
theorem dX0_placeQuestion_0 : decode cX0_placeQuestion 0 = .ok (.aload_n 1, 1) := by decide +kernel
theorem dX0_placeQuestion_1 : decode cX0_placeQuestion 1 = .ok (.iconst 0, 1) := by decide +kernel
theorem dX0_placeQuestion_2 : decode cX0_placeQuestion 2 = .ok (.aload_n 0, 1) := by decide +kernel
theorem dX0_placeQuestion_3 : decode cX0_placeQuestion 3 = .ok (.getfield 9, 3) := by decide +kernel
theorem dX0_placeQuestion_6 : decode cX0_placeQuestion 6 = .ok (.iconst 0, 1) := by decide +kernel
theorem dX0_placeQuestion_7 : decode cX0_placeQuestion 7 = .ok (.iload_n 2, 1) := by decide +kernel
theorem dX0_placeQuestion_8 : decode cX0_placeQuestion 8 = .ok (.invokestatic 34, 3) := by decide +kernel
theorem dX0_placeQuestion_11 : decode cX0_placeQuestion 11 = .ok (.aload_n 0, 1) := by decide +kernel
theorem dX0_placeQuestion_12 : decode cX0_placeQuestion 12 = .ok (.iload_n 2, 1) := by decide +kernel
theorem dX0_placeQuestion_13 : decode cX0_placeQuestion 13 = .ok (.putfield 28, 3) := by decide +kernel
theorem dX0_placeQuestion_16 : decode cX0_placeQuestion 16 = .ok (.aload_n 0, 1) := by decide +kernel
theorem dX0_placeQuestion_17 : decode cX0_placeQuestion 17 = .ok (.iload_n 3, 1) := by decide +kernel
theorem dX0_placeQuestion_18 : decode cX0_placeQuestion 18 = .ok (.putfield 31, 3) := by decide +kernel
theorem dX0_placeQuestion_21 : decode cX0_placeQuestion 21 = .ok (.return_, 1) := by decide +kernel
theorem dX0_placeBeside_0 : decode cX0_placeBeside 0 = .ok (.aload_n 1, 1) := by decide +kernel
theorem dX0_placeBeside_1 : decode cX0_placeBeside 1 = .ok (.iload_n 2, 1) := by decide +kernel
theorem dX0_placeBeside_2 : decode cX0_placeBeside 2 = .ok (.aload_n 0, 1) := by decide +kernel
theorem dX0_placeBeside_3 : decode cX0_placeBeside 3 = .ok (.getfield 15, 3) := by decide +kernel
theorem dX0_placeBeside_6 : decode cX0_placeBeside 6 = .ok (.iconst 0, 1) := by decide +kernel
theorem dX0_placeBeside_7 : decode cX0_placeBeside 7 = .ok (.aload_n 0, 1) := by decide +kernel
theorem dX0_placeBeside_8 : decode cX0_placeBeside 8 = .ok (.getfield 28, 3) := by decide +kernel
theorem dX0_placeBeside_11 : decode cX0_placeBeside 11 = .ok (.invokestatic 34, 3) := by decide +kernel
theorem dX0_placeBeside_14 : decode cX0_placeBeside 14 = .ok (.return_, 1) := by decide +kernel
theorem dX0_leastCost_0 : decode cX0_leastCost 0 = .ok (.iconst 0, 1) := by decide +kernel
theorem dX0_leastCost_1 : decode cX0_leastCost 1 = .ok (.istore_n 2, 1) := by decide +kernel
theorem dX0_leastCost_2 : decode cX0_leastCost 2 = .ok (.iload_n 2, 1) := by decide +kernel
theorem dX0_leastCost_3 : decode cX0_leastCost 3 = .ok (.aload_n 0, 1) := by decide +kernel
theorem dX0_leastCost_4 : decode cX0_leastCost 4 = .ok (.getfield 28, 3) := by decide +kernel
theorem dX0_leastCost_7 : decode cX0_leastCost 7 = .ok (.if_icmp .ge 27, 3) := by decide +kernel
theorem dX0_leastCost_10 : decode cX0_leastCost 10 = .ok (.aload_n 0, 1) := by decide +kernel
theorem dX0_leastCost_11 : decode cX0_leastCost 11 = .ok (.iload_n 2, 1) := by decide +kernel
theorem dX0_leastCost_12 : decode cX0_leastCost 12 = .ok (.invokevirtual 67, 3) := by decide +kernel
theorem dX0_leastCost_15 : decode cX0_leastCost 15 = .ok (.istore_n 3, 1) := by decide +kernel
theorem dX0_leastCost_16 : decode cX0_leastCost 16 = .ok (.iload_n 1, 1) := by decide +kernel
theorem dX0_leastCost_17 : decode cX0_leastCost 17 = .ok (.iconst (-1), 1) := by decide +kernel
theorem dX0_leastCost_18 : decode cX0_leastCost 18 = .ok (.if_icmp .eq 10, 3) := by decide +kernel
theorem dX0_leastCost_21 : decode cX0_leastCost 21 = .ok (.iload_n 3, 1) := by decide +kernel
theorem dX0_leastCost_22 : decode cX0_leastCost 22 = .ok (.iload_n 1, 1) := by decide +kernel
theorem dX0_leastCost_23 : decode cX0_leastCost 23 = .ok (.if_icmp .lt 5, 3) := by decide +kernel
theorem dX0_leastCost_26 : decode cX0_leastCost 26 = .ok (.iconst (-1), 1) := by decide +kernel
theorem dX0_leastCost_27 : decode cX0_leastCost 27 = .ok (.ireturn, 1) := by decide +kernel
theorem dX0_leastCost_28 : decode cX0_leastCost 28 = .ok (.iinc 2 1, 3) := by decide +kernel
theorem dX0_leastCost_31 : decode cX0_leastCost 31 = .ok (.goto (-29), 3) := by decide +kernel
theorem dX0_leastCost_34 : decode cX0_leastCost 34 = .ok (.aload_n 0, 1) := by decide +kernel
theorem dX0_leastCost_35 : decode cX0_leastCost 35 = .ok (.aload_n 0, 1) := by decide +kernel
theorem dX0_leastCost_36 : decode cX0_leastCost 36 = .ok (.getfield 28, 3) := by decide +kernel
theorem dX0_leastCost_39 : decode cX0_leastCost 39 = .ok (.iconst 1, 1) := by decide +kernel
theorem dX0_leastCost_40 : decode cX0_leastCost 40 = .ok (.isub, 1) := by decide +kernel
theorem dX0_leastCost_41 : decode cX0_leastCost 41 = .ok (.aload_n 0, 1) := by decide +kernel
theorem dX0_leastCost_42 : decode cX0_leastCost 42 = .ok (.getfield 28, 3) := by decide +kernel
theorem dX0_leastCost_45 : decode cX0_leastCost 45 = .ok (.iconst 1, 1) := by decide +kernel
theorem dX0_leastCost_46 : decode cX0_leastCost 46 = .ok (.isub, 1) := by decide +kernel
theorem dX0_leastCost_47 : decode cX0_leastCost 47 = .ok (.invokevirtual 70, 3) := by decide +kernel
theorem dX0_leastCost_50 : decode cX0_leastCost 50 = .ok (.ireturn, 1) := by decide +kernel
theorem dX0_fillLine_0 : decode cX0_fillLine 0 = .ok (.ldc 73, 2) := by decide +kernel
theorem dX0_fillLine_2 : decode cX0_fillLine 2 = .ok (.istore_n 2, 1) := by decide +kernel
theorem dX0_fillLine_3 : decode cX0_fillLine 3 = .ok (.aload_n 0, 1) := by decide +kernel
theorem dX0_fillLine_4 : decode cX0_fillLine 4 = .ok (.iload_n 1, 1) := by decide +kernel
theorem dX0_fillLine_5 : decode cX0_fillLine 5 = .ok (.invokevirtual 48, 3) := by decide +kernel
theorem dX0_fillLine_8 : decode cX0_fillLine 8 = .ok (.istore_n 3, 1) := by decide +kernel
theorem dX0_fillLine_9 : decode cX0_fillLine 9 = .ok (.aload_n 0, 1) := by decide +kernel
theorem dX0_fillLine_10 : decode cX0_fillLine 10 = .ok (.iload_n 1, 1) := by decide +kernel
theorem dX0_fillLine_11 : decode cX0_fillLine 11 = .ok (.invokevirtual 51, 3) := by decide +kernel
theorem dX0_fillLine_14 : decode cX0_fillLine 14 = .ok (.istore 4, 2) := by decide +kernel
theorem dX0_fillLine_16 : decode cX0_fillLine 16 = .ok (.iload 4, 2) := by decide +kernel
theorem dX0_fillLine_18 : decode cX0_fillLine 18 = .ok (.iload_n 3, 1) := by decide +kernel
theorem dX0_fillLine_19 : decode cX0_fillLine 19 = .ok (.if_icmp .gt 57, 3) := by decide +kernel
theorem dX0_fillLine_22 : decode cX0_fillLine 22 = .ok (.aload_n 0, 1) := by decide +kernel
theorem dX0_fillLine_23 : decode cX0_fillLine 23 = .ok (.iload_n 1, 1) := by decide +kernel
theorem dX0_fillLine_24 : decode cX0_fillLine 24 = .ok (.iload 4, 2) := by decide +kernel
theorem dX0_fillLine_26 : decode cX0_fillLine 26 = .ok (.invokevirtual 74, 3) := by decide +kernel
theorem dX0_fillLine_29 : decode cX0_fillLine 29 = .ok (.aload_n 0, 1) := by decide +kernel
theorem dX0_fillLine_30 : decode cX0_fillLine 30 = .ok (.getfield 9, 3) := by decide +kernel
theorem dX0_fillLine_33 : decode cX0_fillLine 33 = .ok (.iload_n 1, 1) := by decide +kernel
theorem dX0_fillLine_34 : decode cX0_fillLine 34 = .ok (.iaload, 1) := by decide +kernel
theorem dX0_fillLine_35 : decode cX0_fillLine 35 = .ok (.aload_n 0, 1) := by decide +kernel
theorem dX0_fillLine_36 : decode cX0_fillLine 36 = .ok (.getfield 15, 3) := by decide +kernel
theorem dX0_fillLine_39 : decode cX0_fillLine 39 = .ok (.iload 4, 2) := by decide +kernel
theorem dX0_fillLine_41 : decode cX0_fillLine 41 = .ok (.iaload, 1) := by decide +kernel
theorem dX0_fillLine_42 : decode cX0_fillLine 42 = .ok (.isub, 1) := by decide +kernel
theorem dX0_fillLine_43 : decode cX0_fillLine 43 = .ok (.invokestatic 40, 3) := by decide +kernel
theorem dX0_fillLine_46 : decode cX0_fillLine 46 = .ok (.iadd, 1) := by decide +kernel
theorem dX0_fillLine_47 : decode cX0_fillLine 47 = .ok (.istore 5, 2) := by decide +kernel
theorem dX0_fillLine_49 : decode cX0_fillLine 49 = .ok (.aload_n 0, 1) := by decide +kernel
theorem dX0_fillLine_50 : decode cX0_fillLine 50 = .ok (.getfield 18, 3) := by decide +kernel
theorem dX0_fillLine_53 : decode cX0_fillLine 53 = .ok (.bipush 16, 2) := by decide +kernel
theorem dX0_fillLine_55 : decode cX0_fillLine 55 = .ok (.iload_n 1, 1) := by decide +kernel
theorem dX0_fillLine_56 : decode cX0_fillLine 56 = .ok (.imul, 1) := by decide +kernel
theorem dX0_fillLine_57 : decode cX0_fillLine 57 = .ok (.iload 4, 2) := by decide +kernel
theorem dX0_fillLine_59 : decode cX0_fillLine 59 = .ok (.iadd, 1) := by decide +kernel
theorem dX0_fillLine_60 : decode cX0_fillLine 60 = .ok (.iload 5, 2) := by decide +kernel
theorem dX0_fillLine_62 : decode cX0_fillLine 62 = .ok (.iastore, 1) := by decide +kernel
theorem dX0_fillLine_63 : decode cX0_fillLine 63 = .ok (.iload_n 2, 1) := by decide +kernel
theorem dX0_fillLine_64 : decode cX0_fillLine 64 = .ok (.iload 5, 2) := by decide +kernel
theorem dX0_fillLine_66 : decode cX0_fillLine 66 = .ok (.invokestatic 54, 3) := by decide +kernel
theorem dX0_fillLine_69 : decode cX0_fillLine 69 = .ok (.istore_n 2, 1) := by decide +kernel
theorem dX0_fillLine_70 : decode cX0_fillLine 70 = .ok (.iinc 4 1, 3) := by decide +kernel
theorem dX0_fillLine_73 : decode cX0_fillLine 73 = .ok (.goto (-57), 3) := by decide +kernel
theorem dX0_fillLine_76 : decode cX0_fillLine 76 = .ok (.iload_n 2, 1) := by decide +kernel
theorem dX0_fillLine_77 : decode cX0_fillLine 77 = .ok (.ireturn, 1) := by decide +kernel
theorem dX0_lastInBand_0 : decode cX0_lastInBand 0 = .ok (.iload_n 1, 1) := by decide +kernel
theorem dX0_lastInBand_1 : decode cX0_lastInBand 1 = .ok (.aload_n 0, 1) := by decide +kernel
theorem dX0_lastInBand_2 : decode cX0_lastInBand 2 = .ok (.getfield 31, 3) := by decide +kernel
theorem dX0_lastInBand_5 : decode cX0_lastInBand 5 = .ok (.iadd, 1) := by decide +kernel
theorem dX0_lastInBand_6 : decode cX0_lastInBand 6 = .ok (.aload_n 0, 1) := by decide +kernel
theorem dX0_lastInBand_7 : decode cX0_lastInBand 7 = .ok (.getfield 28, 3) := by decide +kernel
theorem dX0_lastInBand_10 : decode cX0_lastInBand 10 = .ok (.if_icmp .ge 12, 3) := by decide +kernel
theorem dX0_lastInBand_13 : decode cX0_lastInBand 13 = .ok (.iload_n 1, 1) := by decide +kernel
theorem dX0_lastInBand_14 : decode cX0_lastInBand 14 = .ok (.aload_n 0, 1) := by decide +kernel
theorem dX0_lastInBand_15 : decode cX0_lastInBand 15 = .ok (.getfield 31, 3) := by decide +kernel
theorem dX0_lastInBand_18 : decode cX0_lastInBand 18 = .ok (.iadd, 1) := by decide +kernel
theorem dX0_lastInBand_19 : decode cX0_lastInBand 19 = .ok (.goto 9, 3) := by decide +kernel
theorem dX0_lastInBand_22 : decode cX0_lastInBand 22 = .ok (.aload_n 0, 1) := by decide +kernel
theorem dX0_lastInBand_23 : decode cX0_lastInBand 23 = .ok (.getfield 28, 3) := by decide +kernel
theorem dX0_lastInBand_26 : decode cX0_lastInBand 26 = .ok (.iconst 1, 1) := by decide +kernel
theorem dX0_lastInBand_27 : decode cX0_lastInBand 27 = .ok (.isub, 1) := by decide +kernel
theorem dX0_lastInBand_28 : decode cX0_lastInBand 28 = .ok (.ireturn, 1) := by decide +kernel
theorem dX0_firstInBand_0 : decode cX0_firstInBand 0 = .ok (.iload_n 1, 1) := by decide +kernel
theorem dX0_firstInBand_1 : decode cX0_firstInBand 1 = .ok (.aload_n 0, 1) := by decide +kernel
theorem dX0_firstInBand_2 : decode cX0_firstInBand 2 = .ok (.getfield 31, 3) := by decide +kernel
theorem dX0_firstInBand_5 : decode cX0_firstInBand 5 = .ok (.if_icmp .le 12, 3) := by decide +kernel
theorem dX0_firstInBand_8 : decode cX0_firstInBand 8 = .ok (.iload_n 1, 1) := by decide +kernel
theorem dX0_firstInBand_9 : decode cX0_firstInBand 9 = .ok (.aload_n 0, 1) := by decide +kernel
theorem dX0_firstInBand_10 : decode cX0_firstInBand 10 = .ok (.getfield 31, 3) := by decide +kernel
theorem dX0_firstInBand_13 : decode cX0_firstInBand 13 = .ok (.isub, 1) := by decide +kernel
theorem dX0_firstInBand_14 : decode cX0_firstInBand 14 = .ok (.goto 4, 3) := by decide +kernel
theorem dX0_firstInBand_17 : decode cX0_firstInBand 17 = .ok (.iconst 0, 1) := by decide +kernel
theorem dX0_firstInBand_18 : decode cX0_firstInBand 18 = .ok (.ireturn, 1) := by decide +kernel
theorem dX0_leastBefore_0 : decode cX0_leastBefore 0 = .ok (.iload_n 1, 1) := by decide +kernel
theorem dX0_leastBefore_1 : decode cX0_leastBefore 1 = .ok (.ifCond .ne 9, 3) := by decide +kernel
theorem dX0_leastBefore_4 : decode cX0_leastBefore 4 = .ok (.iload_n 2, 1) := by decide +kernel
theorem dX0_leastBefore_5 : decode cX0_leastBefore 5 = .ok (.ifCond .ne 5, 3) := by decide +kernel
theorem dX0_leastBefore_8 : decode cX0_leastBefore 8 = .ok (.iconst 0, 1) := by decide +kernel
theorem dX0_leastBefore_9 : decode cX0_leastBefore 9 = .ok (.ireturn, 1) := by decide +kernel
theorem dX0_leastBefore_10 : decode cX0_leastBefore 10 = .ok (.aload_n 0, 1) := by decide +kernel
theorem dX0_leastBefore_11 : decode cX0_leastBefore 11 = .ok (.iload_n 1, 1) := by decide +kernel
theorem dX0_leastBefore_12 : decode cX0_leastBefore 12 = .ok (.iconst 1, 1) := by decide +kernel
theorem dX0_leastBefore_13 : decode cX0_leastBefore 13 = .ok (.isub, 1) := by decide +kernel
theorem dX0_leastBefore_14 : decode cX0_leastBefore 14 = .ok (.iload_n 2, 1) := by decide +kernel
theorem dX0_leastBefore_15 : decode cX0_leastBefore 15 = .ok (.iconst 1, 1) := by decide +kernel
theorem dX0_leastBefore_16 : decode cX0_leastBefore 16 = .ok (.isub, 1) := by decide +kernel
theorem dX0_leastBefore_17 : decode cX0_leastBefore 17 = .ok (.invokevirtual 70, 3) := by decide +kernel
theorem dX0_leastBefore_20 : decode cX0_leastBefore 20 = .ok (.aload_n 0, 1) := by decide +kernel
theorem dX0_leastBefore_21 : decode cX0_leastBefore 21 = .ok (.iload_n 1, 1) := by decide +kernel
theorem dX0_leastBefore_22 : decode cX0_leastBefore 22 = .ok (.iconst 1, 1) := by decide +kernel
theorem dX0_leastBefore_23 : decode cX0_leastBefore 23 = .ok (.isub, 1) := by decide +kernel
theorem dX0_leastBefore_24 : decode cX0_leastBefore 24 = .ok (.iload_n 2, 1) := by decide +kernel
theorem dX0_leastBefore_25 : decode cX0_leastBefore 25 = .ok (.invokevirtual 70, 3) := by decide +kernel
theorem dX0_leastBefore_28 : decode cX0_leastBefore 28 = .ok (.aload_n 0, 1) := by decide +kernel
theorem dX0_leastBefore_29 : decode cX0_leastBefore 29 = .ok (.iload_n 1, 1) := by decide +kernel
theorem dX0_leastBefore_30 : decode cX0_leastBefore 30 = .ok (.iload_n 2, 1) := by decide +kernel
theorem dX0_leastBefore_31 : decode cX0_leastBefore 31 = .ok (.iconst 1, 1) := by decide +kernel
theorem dX0_leastBefore_32 : decode cX0_leastBefore 32 = .ok (.isub, 1) := by decide +kernel
theorem dX0_leastBefore_33 : decode cX0_leastBefore 33 = .ok (.invokevirtual 70, 3) := by decide +kernel
theorem dX0_leastBefore_36 : decode cX0_leastBefore 36 = .ok (.invokestatic 54, 3) := by decide +kernel
theorem dX0_leastBefore_39 : decode cX0_leastBefore 39 = .ok (.invokestatic 54, 3) := by decide +kernel
theorem dX0_leastBefore_42 : decode cX0_leastBefore 42 = .ok (.ireturn, 1) := by decide +kernel
theorem dX0_costAt_0 : decode cX0_costAt 0 = .ok (.iload_n 1, 1) := by decide +kernel
theorem dX0_costAt_1 : decode cX0_costAt 1 = .ok (.ifCond .lt 31, 3) := by decide +kernel
theorem dX0_costAt_4 : decode cX0_costAt 4 = .ok (.iload_n 2, 1) := by decide +kernel
theorem dX0_costAt_5 : decode cX0_costAt 5 = .ok (.ifCond .lt 27, 3) := by decide +kernel
theorem dX0_costAt_8 : decode cX0_costAt 8 = .ok (.iload_n 1, 1) := by decide +kernel
theorem dX0_costAt_9 : decode cX0_costAt 9 = .ok (.iload_n 2, 1) := by decide +kernel
theorem dX0_costAt_10 : decode cX0_costAt 10 = .ok (.isub, 1) := by decide +kernel
theorem dX0_costAt_11 : decode cX0_costAt 11 = .ok (.aload_n 0, 1) := by decide +kernel
theorem dX0_costAt_12 : decode cX0_costAt 12 = .ok (.getfield 31, 3) := by decide +kernel
theorem dX0_costAt_15 : decode cX0_costAt 15 = .ok (.if_icmp .gt 17, 3) := by decide +kernel
theorem dX0_costAt_18 : decode cX0_costAt 18 = .ok (.iload_n 2, 1) := by decide +kernel
theorem dX0_costAt_19 : decode cX0_costAt 19 = .ok (.iload_n 1, 1) := by decide +kernel
theorem dX0_costAt_20 : decode cX0_costAt 20 = .ok (.isub, 1) := by decide +kernel
theorem dX0_costAt_21 : decode cX0_costAt 21 = .ok (.aload_n 0, 1) := by decide +kernel
theorem dX0_costAt_22 : decode cX0_costAt 22 = .ok (.getfield 31, 3) := by decide +kernel
theorem dX0_costAt_25 : decode cX0_costAt 25 = .ok (.if_icmp .gt 7, 3) := by decide +kernel
theorem dX0_costAt_28 : decode cX0_costAt 28 = .ok (.iconst 1, 1) := by decide +kernel
theorem dX0_costAt_29 : decode cX0_costAt 29 = .ok (.goto 4, 3) := by decide +kernel
theorem dX0_costAt_32 : decode cX0_costAt 32 = .ok (.iconst 0, 1) := by decide +kernel
theorem dX0_costAt_33 : decode cX0_costAt 33 = .ok (.istore_n 3, 1) := by decide +kernel
theorem dX0_costAt_34 : decode cX0_costAt 34 = .ok (.iload_n 3, 1) := by decide +kernel
theorem dX0_costAt_35 : decode cX0_costAt 35 = .ok (.ifCond .eq 17, 3) := by decide +kernel
theorem dX0_costAt_38 : decode cX0_costAt 38 = .ok (.aload_n 0, 1) := by decide +kernel
theorem dX0_costAt_39 : decode cX0_costAt 39 = .ok (.getfield 18, 3) := by decide +kernel
theorem dX0_costAt_42 : decode cX0_costAt 42 = .ok (.bipush 16, 2) := by decide +kernel
theorem dX0_costAt_44 : decode cX0_costAt 44 = .ok (.iload_n 1, 1) := by decide +kernel
theorem dX0_costAt_45 : decode cX0_costAt 45 = .ok (.imul, 1) := by decide +kernel
theorem dX0_costAt_46 : decode cX0_costAt 46 = .ok (.iload_n 2, 1) := by decide +kernel
theorem dX0_costAt_47 : decode cX0_costAt 47 = .ok (.iadd, 1) := by decide +kernel
theorem dX0_costAt_48 : decode cX0_costAt 48 = .ok (.iaload, 1) := by decide +kernel
theorem dX0_costAt_49 : decode cX0_costAt 49 = .ok (.goto 5, 3) := by decide +kernel
theorem dX0_costAt_52 : decode cX0_costAt 52 = .ok (.ldc 73, 2) := by decide +kernel
theorem dX0_costAt_54 : decode cX0_costAt 54 = .ok (.ireturn, 1) := by decide +kernel
theorem dX0_square_0 : decode cX0_square 0 = .ok (.iload_n 0, 1) := by decide +kernel
theorem dX0_square_1 : decode cX0_square 1 = .ok (.iload_n 0, 1) := by decide +kernel
theorem dX0_square_2 : decode cX0_square 2 = .ok (.imul, 1) := by decide +kernel
theorem dX0_square_3 : decode cX0_square 3 = .ok (.ireturn, 1) := by decide +kernel
theorem dX0_lowerBound_0 : decode cX0_lowerBound 0 = .ok (.iload_n 1, 1) := by decide +kernel
theorem dX0_lowerBound_1 : decode cX0_lowerBound 1 = .ok (.ifCond .ne 47, 3) := by decide +kernel
theorem dX0_lowerBound_4 : decode cX0_lowerBound 4 = .ok (.aload_n 0, 1) := by decide +kernel
theorem dX0_lowerBound_5 : decode cX0_lowerBound 5 = .ok (.getfield 9, 3) := by decide +kernel
theorem dX0_lowerBound_8 : decode cX0_lowerBound 8 = .ok (.iconst 0, 1) := by decide +kernel
theorem dX0_lowerBound_9 : decode cX0_lowerBound 9 = .ok (.iaload, 1) := by decide +kernel
theorem dX0_lowerBound_10 : decode cX0_lowerBound 10 = .ok (.aload_n 0, 1) := by decide +kernel
theorem dX0_lowerBound_11 : decode cX0_lowerBound 11 = .ok (.getfield 15, 3) := by decide +kernel
theorem dX0_lowerBound_14 : decode cX0_lowerBound 14 = .ok (.iconst 0, 1) := by decide +kernel
theorem dX0_lowerBound_15 : decode cX0_lowerBound 15 = .ok (.iaload, 1) := by decide +kernel
theorem dX0_lowerBound_16 : decode cX0_lowerBound 16 = .ok (.isub, 1) := by decide +kernel
theorem dX0_lowerBound_17 : decode cX0_lowerBound 17 = .ok (.invokestatic 40, 3) := by decide +kernel
theorem dX0_lowerBound_20 : decode cX0_lowerBound 20 = .ok (.aload_n 0, 1) := by decide +kernel
theorem dX0_lowerBound_21 : decode cX0_lowerBound 21 = .ok (.getfield 9, 3) := by decide +kernel
theorem dX0_lowerBound_24 : decode cX0_lowerBound 24 = .ok (.aload_n 0, 1) := by decide +kernel
theorem dX0_lowerBound_25 : decode cX0_lowerBound 25 = .ok (.getfield 28, 3) := by decide +kernel
theorem dX0_lowerBound_28 : decode cX0_lowerBound 28 = .ok (.iconst 1, 1) := by decide +kernel
theorem dX0_lowerBound_29 : decode cX0_lowerBound 29 = .ok (.isub, 1) := by decide +kernel
theorem dX0_lowerBound_30 : decode cX0_lowerBound 30 = .ok (.iaload, 1) := by decide +kernel
theorem dX0_lowerBound_31 : decode cX0_lowerBound 31 = .ok (.aload_n 0, 1) := by decide +kernel
theorem dX0_lowerBound_32 : decode cX0_lowerBound 32 = .ok (.getfield 15, 3) := by decide +kernel
theorem dX0_lowerBound_35 : decode cX0_lowerBound 35 = .ok (.aload_n 0, 1) := by decide +kernel
theorem dX0_lowerBound_36 : decode cX0_lowerBound 36 = .ok (.getfield 28, 3) := by decide +kernel
theorem dX0_lowerBound_39 : decode cX0_lowerBound 39 = .ok (.iconst 1, 1) := by decide +kernel
theorem dX0_lowerBound_40 : decode cX0_lowerBound 40 = .ok (.isub, 1) := by decide +kernel
theorem dX0_lowerBound_41 : decode cX0_lowerBound 41 = .ok (.iaload, 1) := by decide +kernel
theorem dX0_lowerBound_42 : decode cX0_lowerBound 42 = .ok (.isub, 1) := by decide +kernel
theorem dX0_lowerBound_43 : decode cX0_lowerBound 43 = .ok (.invokestatic 40, 3) := by decide +kernel
theorem dX0_lowerBound_46 : decode cX0_lowerBound 46 = .ok (.iadd, 1) := by decide +kernel
theorem dX0_lowerBound_47 : decode cX0_lowerBound 47 = .ok (.ireturn, 1) := by decide +kernel
theorem dX0_lowerBound_48 : decode cX0_lowerBound 48 = .ok (.iload_n 1, 1) := by decide +kernel
theorem dX0_lowerBound_49 : decode cX0_lowerBound 49 = .ok (.iconst 1, 1) := by decide +kernel
theorem dX0_lowerBound_50 : decode cX0_lowerBound 50 = .ok (.if_icmp .ne 18, 3) := by decide +kernel
theorem dX0_lowerBound_53 : decode cX0_lowerBound 53 = .ok (.aload_n 0, 1) := by decide +kernel
theorem dX0_lowerBound_54 : decode cX0_lowerBound 54 = .ok (.aload_n 0, 1) := by decide +kernel
theorem dX0_lowerBound_55 : decode cX0_lowerBound 55 = .ok (.getfield 9, 3) := by decide +kernel
theorem dX0_lowerBound_58 : decode cX0_lowerBound 58 = .ok (.aload_n 0, 1) := by decide +kernel
theorem dX0_lowerBound_59 : decode cX0_lowerBound 59 = .ok (.getfield 15, 3) := by decide +kernel
theorem dX0_lowerBound_62 : decode cX0_lowerBound 62 = .ok (.invokevirtual 44, 3) := by decide +kernel
theorem dX0_lowerBound_65 : decode cX0_lowerBound 65 = .ok (.goto 15, 3) := by decide +kernel
theorem dX0_lowerBound_68 : decode cX0_lowerBound 68 = .ok (.aload_n 0, 1) := by decide +kernel
theorem dX0_lowerBound_69 : decode cX0_lowerBound 69 = .ok (.aload_n 0, 1) := by decide +kernel
theorem dX0_lowerBound_70 : decode cX0_lowerBound 70 = .ok (.getfield 15, 3) := by decide +kernel
theorem dX0_lowerBound_73 : decode cX0_lowerBound 73 = .ok (.aload_n 0, 1) := by decide +kernel
theorem dX0_lowerBound_74 : decode cX0_lowerBound 74 = .ok (.getfield 9, 3) := by decide +kernel
theorem dX0_lowerBound_77 : decode cX0_lowerBound 77 = .ok (.invokevirtual 44, 3) := by decide +kernel
theorem dX0_lowerBound_80 : decode cX0_lowerBound 80 = .ok (.ireturn, 1) := by decide +kernel
theorem dX0_hullBound_0 : decode cX0_hullBound 0 = .ok (.iconst 0, 1) := by decide +kernel
theorem dX0_hullBound_1 : decode cX0_hullBound 1 = .ok (.istore_n 3, 1) := by decide +kernel
theorem dX0_hullBound_2 : decode cX0_hullBound 2 = .ok (.iconst 0, 1) := by decide +kernel
theorem dX0_hullBound_3 : decode cX0_hullBound 3 = .ok (.istore 4, 2) := by decide +kernel
theorem dX0_hullBound_5 : decode cX0_hullBound 5 = .ok (.iload 4, 2) := by decide +kernel
theorem dX0_hullBound_7 : decode cX0_hullBound 7 = .ok (.aload_n 0, 1) := by decide +kernel
theorem dX0_hullBound_8 : decode cX0_hullBound 8 = .ok (.getfield 28, 3) := by decide +kernel
theorem dX0_hullBound_11 : decode cX0_hullBound 11 = .ok (.if_icmp .ge 89, 3) := by decide +kernel
theorem dX0_hullBound_14 : decode cX0_hullBound 14 = .ok (.aload_n 1, 1) := by decide +kernel
theorem dX0_hullBound_15 : decode cX0_hullBound 15 = .ok (.iload 4, 2) := by decide +kernel
theorem dX0_hullBound_17 : decode cX0_hullBound 17 = .ok (.iaload, 1) := by decide +kernel
theorem dX0_hullBound_18 : decode cX0_hullBound 18 = .ok (.istore 5, 2) := by decide +kernel
theorem dX0_hullBound_20 : decode cX0_hullBound 20 = .ok (.aload_n 1, 1) := by decide +kernel
theorem dX0_hullBound_21 : decode cX0_hullBound 21 = .ok (.iload 4, 2) := by decide +kernel
theorem dX0_hullBound_23 : decode cX0_hullBound 23 = .ok (.iaload, 1) := by decide +kernel
theorem dX0_hullBound_24 : decode cX0_hullBound 24 = .ok (.istore 6, 2) := by decide +kernel
theorem dX0_hullBound_26 : decode cX0_hullBound 26 = .ok (.aload_n 0, 1) := by decide +kernel
theorem dX0_hullBound_27 : decode cX0_hullBound 27 = .ok (.iload 4, 2) := by decide +kernel
theorem dX0_hullBound_29 : decode cX0_hullBound 29 = .ok (.invokevirtual 48, 3) := by decide +kernel
theorem dX0_hullBound_32 : decode cX0_hullBound 32 = .ok (.istore 7, 2) := by decide +kernel
theorem dX0_hullBound_34 : decode cX0_hullBound 34 = .ok (.aload_n 0, 1) := by decide +kernel
theorem dX0_hullBound_35 : decode cX0_hullBound 35 = .ok (.iload 4, 2) := by decide +kernel
theorem dX0_hullBound_37 : decode cX0_hullBound 37 = .ok (.invokevirtual 51, 3) := by decide +kernel
theorem dX0_hullBound_40 : decode cX0_hullBound 40 = .ok (.istore 8, 2) := by decide +kernel
theorem dX0_hullBound_42 : decode cX0_hullBound 42 = .ok (.iload 8, 2) := by decide +kernel
theorem dX0_hullBound_44 : decode cX0_hullBound 44 = .ok (.iload 7, 2) := by decide +kernel
theorem dX0_hullBound_46 : decode cX0_hullBound 46 = .ok (.if_icmp .gt 31, 3) := by decide +kernel
theorem dX0_hullBound_49 : decode cX0_hullBound 49 = .ok (.iload 5, 2) := by decide +kernel
theorem dX0_hullBound_51 : decode cX0_hullBound 51 = .ok (.aload_n 1, 1) := by decide +kernel
theorem dX0_hullBound_52 : decode cX0_hullBound 52 = .ok (.iload 8, 2) := by decide +kernel
theorem dX0_hullBound_54 : decode cX0_hullBound 54 = .ok (.iaload, 1) := by decide +kernel
theorem dX0_hullBound_55 : decode cX0_hullBound 55 = .ok (.invokestatic 54, 3) := by decide +kernel
theorem dX0_hullBound_58 : decode cX0_hullBound 58 = .ok (.istore 5, 2) := by decide +kernel
theorem dX0_hullBound_60 : decode cX0_hullBound 60 = .ok (.iload 6, 2) := by decide +kernel
theorem dX0_hullBound_62 : decode cX0_hullBound 62 = .ok (.aload_n 1, 1) := by decide +kernel
theorem dX0_hullBound_63 : decode cX0_hullBound 63 = .ok (.iload 8, 2) := by decide +kernel
theorem dX0_hullBound_65 : decode cX0_hullBound 65 = .ok (.iaload, 1) := by decide +kernel
theorem dX0_hullBound_66 : decode cX0_hullBound 66 = .ok (.invokestatic 60, 3) := by decide +kernel
theorem dX0_hullBound_69 : decode cX0_hullBound 69 = .ok (.istore 6, 2) := by decide +kernel
theorem dX0_hullBound_71 : decode cX0_hullBound 71 = .ok (.iinc 8 1, 3) := by decide +kernel
theorem dX0_hullBound_74 : decode cX0_hullBound 74 = .ok (.goto (-32), 3) := by decide +kernel
theorem dX0_hullBound_77 : decode cX0_hullBound 77 = .ok (.iload_n 3, 1) := by decide +kernel
theorem dX0_hullBound_78 : decode cX0_hullBound 78 = .ok (.aload_n 2, 1) := by decide +kernel
theorem dX0_hullBound_79 : decode cX0_hullBound 79 = .ok (.iload 4, 2) := by decide +kernel
theorem dX0_hullBound_81 : decode cX0_hullBound 81 = .ok (.iaload, 1) := by decide +kernel
theorem dX0_hullBound_82 : decode cX0_hullBound 82 = .ok (.iload 5, 2) := by decide +kernel
theorem dX0_hullBound_84 : decode cX0_hullBound 84 = .ok (.iload 6, 2) := by decide +kernel
theorem dX0_hullBound_86 : decode cX0_hullBound 86 = .ok (.invokestatic 63, 3) := by decide +kernel
theorem dX0_hullBound_89 : decode cX0_hullBound 89 = .ok (.invokestatic 40, 3) := by decide +kernel
theorem dX0_hullBound_92 : decode cX0_hullBound 92 = .ok (.iadd, 1) := by decide +kernel
theorem dX0_hullBound_93 : decode cX0_hullBound 93 = .ok (.istore_n 3, 1) := by decide +kernel
theorem dX0_hullBound_94 : decode cX0_hullBound 94 = .ok (.iinc 4 1, 3) := by decide +kernel
theorem dX0_hullBound_97 : decode cX0_hullBound 97 = .ok (.goto (-92), 3) := by decide +kernel
theorem dX0_hullBound_100 : decode cX0_hullBound 100 = .ok (.iload_n 3, 1) := by decide +kernel
theorem dX0_hullBound_101 : decode cX0_hullBound 101 = .ok (.ireturn, 1) := by decide +kernel
theorem dX0_gap_0 : decode cX0_gap 0 = .ok (.iload_n 0, 1) := by decide +kernel
theorem dX0_gap_1 : decode cX0_gap 1 = .ok (.iload_n 1, 1) := by decide +kernel
theorem dX0_gap_2 : decode cX0_gap 2 = .ok (.if_icmp .ge 7, 3) := by decide +kernel
theorem dX0_gap_5 : decode cX0_gap 5 = .ok (.iload_n 1, 1) := by decide +kernel
theorem dX0_gap_6 : decode cX0_gap 6 = .ok (.iload_n 0, 1) := by decide +kernel
theorem dX0_gap_7 : decode cX0_gap 7 = .ok (.isub, 1) := by decide +kernel
theorem dX0_gap_8 : decode cX0_gap 8 = .ok (.ireturn, 1) := by decide +kernel
theorem dX0_gap_9 : decode cX0_gap 9 = .ok (.iload_n 0, 1) := by decide +kernel
theorem dX0_gap_10 : decode cX0_gap 10 = .ok (.iload_n 2, 1) := by decide +kernel
theorem dX0_gap_11 : decode cX0_gap 11 = .ok (.if_icmp .le 9, 3) := by decide +kernel
theorem dX0_gap_14 : decode cX0_gap 14 = .ok (.iload_n 0, 1) := by decide +kernel
theorem dX0_gap_15 : decode cX0_gap 15 = .ok (.iload_n 2, 1) := by decide +kernel
theorem dX0_gap_16 : decode cX0_gap 16 = .ok (.isub, 1) := by decide +kernel
theorem dX0_gap_17 : decode cX0_gap 17 = .ok (.goto 4, 3) := by decide +kernel
theorem dX0_gap_20 : decode cX0_gap 20 = .ok (.iconst 0, 1) := by decide +kernel
theorem dX0_gap_21 : decode cX0_gap 21 = .ok (.ireturn, 1) := by decide +kernel
theorem dX0_tracePath_0 : decode cX0_tracePath 0 = .ok (.aload_n 0, 1) := by decide +kernel
theorem dX0_tracePath_1 : decode cX0_tracePath 1 = .ok (.iconst (-1), 1) := by decide +kernel
theorem dX0_tracePath_2 : decode cX0_tracePath 2 = .ok (.invokevirtual 77, 3) := by decide +kernel
theorem dX0_tracePath_5 : decode cX0_tracePath 5 = .ok (.pop, 1) := by decide +kernel
theorem dX0_tracePath_6 : decode cX0_tracePath 6 = .ok (.aload_n 0, 1) := by decide +kernel
theorem dX0_tracePath_7 : decode cX0_tracePath 7 = .ok (.getfield 28, 3) := by decide +kernel
theorem dX0_tracePath_10 : decode cX0_tracePath 10 = .ok (.iconst 1, 1) := by decide +kernel
theorem dX0_tracePath_11 : decode cX0_tracePath 11 = .ok (.isub, 1) := by decide +kernel
theorem dX0_tracePath_12 : decode cX0_tracePath 12 = .ok (.istore_n 1, 1) := by decide +kernel
theorem dX0_tracePath_13 : decode cX0_tracePath 13 = .ok (.aload_n 0, 1) := by decide +kernel
theorem dX0_tracePath_14 : decode cX0_tracePath 14 = .ok (.getfield 28, 3) := by decide +kernel
theorem dX0_tracePath_17 : decode cX0_tracePath 17 = .ok (.iconst 1, 1) := by decide +kernel
theorem dX0_tracePath_18 : decode cX0_tracePath 18 = .ok (.isub, 1) := by decide +kernel
theorem dX0_tracePath_19 : decode cX0_tracePath 19 = .ok (.istore_n 2, 1) := by decide +kernel
theorem dX0_tracePath_20 : decode cX0_tracePath 20 = .ok (.aload_n 0, 1) := by decide +kernel
theorem dX0_tracePath_21 : decode cX0_tracePath 21 = .ok (.bipush 31, 2) := by decide +kernel
theorem dX0_tracePath_23 : decode cX0_tracePath 23 = .ok (.putfield 24, 3) := by decide +kernel
theorem dX0_tracePath_26 : decode cX0_tracePath 26 = .ok (.aload_n 0, 1) := by decide +kernel
theorem dX0_tracePath_27 : decode cX0_tracePath 27 = .ok (.getfield 24, 3) := by decide +kernel
theorem dX0_tracePath_30 : decode cX0_tracePath 30 = .ok (.ifCond .le 151, 3) := by decide +kernel
theorem dX0_tracePath_33 : decode cX0_tracePath 33 = .ok (.iload_n 1, 1) := by decide +kernel
theorem dX0_tracePath_34 : decode cX0_tracePath 34 = .ok (.ifCond .lt 147, 3) := by decide +kernel
theorem dX0_tracePath_37 : decode cX0_tracePath 37 = .ok (.iload_n 2, 1) := by decide +kernel
theorem dX0_tracePath_38 : decode cX0_tracePath 38 = .ok (.ifCond .lt 143, 3) := by decide +kernel
theorem dX0_tracePath_41 : decode cX0_tracePath 41 = .ok (.aload_n 0, 1) := by decide +kernel
theorem dX0_tracePath_42 : decode cX0_tracePath 42 = .ok (.dup, 1) := by decide +kernel
theorem dX0_tracePath_43 : decode cX0_tracePath 43 = .ok (.getfield 24, 3) := by decide +kernel
theorem dX0_tracePath_46 : decode cX0_tracePath 46 = .ok (.iconst 1, 1) := by decide +kernel
theorem dX0_tracePath_47 : decode cX0_tracePath 47 = .ok (.isub, 1) := by decide +kernel
theorem dX0_tracePath_48 : decode cX0_tracePath 48 = .ok (.putfield 24, 3) := by decide +kernel
theorem dX0_tracePath_51 : decode cX0_tracePath 51 = .ok (.aload_n 0, 1) := by decide +kernel
theorem dX0_tracePath_52 : decode cX0_tracePath 52 = .ok (.getfield 21, 3) := by decide +kernel
theorem dX0_tracePath_55 : decode cX0_tracePath 55 = .ok (.aload_n 0, 1) := by decide +kernel
theorem dX0_tracePath_56 : decode cX0_tracePath 56 = .ok (.getfield 24, 3) := by decide +kernel
theorem dX0_tracePath_59 : decode cX0_tracePath 59 = .ok (.bipush 16, 2) := by decide +kernel
theorem dX0_tracePath_61 : decode cX0_tracePath 61 = .ok (.iload_n 1, 1) := by decide +kernel
theorem dX0_tracePath_62 : decode cX0_tracePath 62 = .ok (.imul, 1) := by decide +kernel
theorem dX0_tracePath_63 : decode cX0_tracePath 63 = .ok (.iload_n 2, 1) := by decide +kernel
theorem dX0_tracePath_64 : decode cX0_tracePath 64 = .ok (.iadd, 1) := by decide +kernel
theorem dX0_tracePath_65 : decode cX0_tracePath 65 = .ok (.iastore, 1) := by decide +kernel
theorem dX0_tracePath_66 : decode cX0_tracePath 66 = .ok (.aload_n 0, 1) := by decide +kernel
theorem dX0_tracePath_67 : decode cX0_tracePath 67 = .ok (.iload_n 1, 1) := by decide +kernel
theorem dX0_tracePath_68 : decode cX0_tracePath 68 = .ok (.iconst 1, 1) := by decide +kernel
theorem dX0_tracePath_69 : decode cX0_tracePath 69 = .ok (.isub, 1) := by decide +kernel
theorem dX0_tracePath_70 : decode cX0_tracePath 70 = .ok (.iload_n 2, 1) := by decide +kernel
theorem dX0_tracePath_71 : decode cX0_tracePath 71 = .ok (.iconst 1, 1) := by decide +kernel
theorem dX0_tracePath_72 : decode cX0_tracePath 72 = .ok (.isub, 1) := by decide +kernel
theorem dX0_tracePath_73 : decode cX0_tracePath 73 = .ok (.invokevirtual 70, 3) := by decide +kernel
theorem dX0_tracePath_76 : decode cX0_tracePath 76 = .ok (.istore_n 3, 1) := by decide +kernel
theorem dX0_tracePath_77 : decode cX0_tracePath 77 = .ok (.aload_n 0, 1) := by decide +kernel
theorem dX0_tracePath_78 : decode cX0_tracePath 78 = .ok (.iload_n 1, 1) := by decide +kernel
theorem dX0_tracePath_79 : decode cX0_tracePath 79 = .ok (.iconst 1, 1) := by decide +kernel
theorem dX0_tracePath_80 : decode cX0_tracePath 80 = .ok (.isub, 1) := by decide +kernel
theorem dX0_tracePath_81 : decode cX0_tracePath 81 = .ok (.iload_n 2, 1) := by decide +kernel
theorem dX0_tracePath_82 : decode cX0_tracePath 82 = .ok (.invokevirtual 70, 3) := by decide +kernel
theorem dX0_tracePath_85 : decode cX0_tracePath 85 = .ok (.istore 4, 2) := by decide +kernel
theorem dX0_tracePath_87 : decode cX0_tracePath 87 = .ok (.aload_n 0, 1) := by decide +kernel
theorem dX0_tracePath_88 : decode cX0_tracePath 88 = .ok (.iload_n 1, 1) := by decide +kernel
theorem dX0_tracePath_89 : decode cX0_tracePath 89 = .ok (.iload_n 2, 1) := by decide +kernel
theorem dX0_tracePath_90 : decode cX0_tracePath 90 = .ok (.iconst 1, 1) := by decide +kernel
theorem dX0_tracePath_91 : decode cX0_tracePath 91 = .ok (.isub, 1) := by decide +kernel
theorem dX0_tracePath_92 : decode cX0_tracePath 92 = .ok (.invokevirtual 70, 3) := by decide +kernel
theorem dX0_tracePath_95 : decode cX0_tracePath 95 = .ok (.istore 5, 2) := by decide +kernel
theorem dX0_tracePath_97 : decode cX0_tracePath 97 = .ok (.iload_n 3, 1) := by decide +kernel
theorem dX0_tracePath_98 : decode cX0_tracePath 98 = .ok (.iload 4, 2) := by decide +kernel
theorem dX0_tracePath_100 : decode cX0_tracePath 100 = .ok (.if_icmp .gt 13, 3) := by decide +kernel
theorem dX0_tracePath_103 : decode cX0_tracePath 103 = .ok (.iload_n 3, 1) := by decide +kernel
theorem dX0_tracePath_104 : decode cX0_tracePath 104 = .ok (.iload 5, 2) := by decide +kernel
theorem dX0_tracePath_106 : decode cX0_tracePath 106 = .ok (.if_icmp .gt 7, 3) := by decide +kernel
theorem dX0_tracePath_109 : decode cX0_tracePath 109 = .ok (.iconst 1, 1) := by decide +kernel
theorem dX0_tracePath_110 : decode cX0_tracePath 110 = .ok (.goto 4, 3) := by decide +kernel
theorem dX0_tracePath_113 : decode cX0_tracePath 113 = .ok (.iconst 0, 1) := by decide +kernel
theorem dX0_tracePath_114 : decode cX0_tracePath 114 = .ok (.istore 6, 2) := by decide +kernel
theorem dX0_tracePath_116 : decode cX0_tracePath 116 = .ok (.iload 6, 2) := by decide +kernel
theorem dX0_tracePath_118 : decode cX0_tracePath 118 = .ok (.ifCond .ne 10, 3) := by decide +kernel
theorem dX0_tracePath_121 : decode cX0_tracePath 121 = .ok (.iload 4, 2) := by decide +kernel
theorem dX0_tracePath_123 : decode cX0_tracePath 123 = .ok (.iload 5, 2) := by decide +kernel
theorem dX0_tracePath_125 : decode cX0_tracePath 125 = .ok (.if_icmp .gt 7, 3) := by decide +kernel
theorem dX0_tracePath_128 : decode cX0_tracePath 128 = .ok (.iconst 1, 1) := by decide +kernel
theorem dX0_tracePath_129 : decode cX0_tracePath 129 = .ok (.goto 4, 3) := by decide +kernel
theorem dX0_tracePath_132 : decode cX0_tracePath 132 = .ok (.iconst 0, 1) := by decide +kernel
theorem dX0_tracePath_133 : decode cX0_tracePath 133 = .ok (.istore 7, 2) := by decide +kernel
theorem dX0_tracePath_135 : decode cX0_tracePath 135 = .ok (.iload 6, 2) := by decide +kernel
theorem dX0_tracePath_137 : decode cX0_tracePath 137 = .ok (.ifCond .ne 8, 3) := by decide +kernel
theorem dX0_tracePath_140 : decode cX0_tracePath 140 = .ok (.iload 7, 2) := by decide +kernel
theorem dX0_tracePath_142 : decode cX0_tracePath 142 = .ok (.ifCond .ne 7, 3) := by decide +kernel
theorem dX0_tracePath_145 : decode cX0_tracePath 145 = .ok (.iconst 1, 1) := by decide +kernel
theorem dX0_tracePath_146 : decode cX0_tracePath 146 = .ok (.goto 4, 3) := by decide +kernel
theorem dX0_tracePath_149 : decode cX0_tracePath 149 = .ok (.iconst 0, 1) := by decide +kernel
theorem dX0_tracePath_150 : decode cX0_tracePath 150 = .ok (.istore 8, 2) := by decide +kernel
theorem dX0_tracePath_152 : decode cX0_tracePath 152 = .ok (.iload_n 1, 1) := by decide +kernel
theorem dX0_tracePath_153 : decode cX0_tracePath 153 = .ok (.iload 7, 2) := by decide +kernel
theorem dX0_tracePath_155 : decode cX0_tracePath 155 = .ok (.ifCond .eq 7, 3) := by decide +kernel
theorem dX0_tracePath_158 : decode cX0_tracePath 158 = .ok (.iconst 1, 1) := by decide +kernel
theorem dX0_tracePath_159 : decode cX0_tracePath 159 = .ok (.goto 4, 3) := by decide +kernel
theorem dX0_tracePath_162 : decode cX0_tracePath 162 = .ok (.iconst 0, 1) := by decide +kernel
theorem dX0_tracePath_163 : decode cX0_tracePath 163 = .ok (.isub, 1) := by decide +kernel
theorem dX0_tracePath_164 : decode cX0_tracePath 164 = .ok (.istore_n 1, 1) := by decide +kernel
theorem dX0_tracePath_165 : decode cX0_tracePath 165 = .ok (.iload_n 2, 1) := by decide +kernel
theorem dX0_tracePath_166 : decode cX0_tracePath 166 = .ok (.iload 8, 2) := by decide +kernel
theorem dX0_tracePath_168 : decode cX0_tracePath 168 = .ok (.ifCond .eq 7, 3) := by decide +kernel
theorem dX0_tracePath_171 : decode cX0_tracePath 171 = .ok (.iconst 1, 1) := by decide +kernel
theorem dX0_tracePath_172 : decode cX0_tracePath 172 = .ok (.goto 4, 3) := by decide +kernel
theorem dX0_tracePath_175 : decode cX0_tracePath 175 = .ok (.iconst 0, 1) := by decide +kernel
theorem dX0_tracePath_176 : decode cX0_tracePath 176 = .ok (.isub, 1) := by decide +kernel
theorem dX0_tracePath_177 : decode cX0_tracePath 177 = .ok (.istore_n 2, 1) := by decide +kernel
theorem dX0_tracePath_178 : decode cX0_tracePath 178 = .ok (.goto (-152), 3) := by decide +kernel
theorem dX0_tracePath_181 : decode cX0_tracePath 181 = .ok (.bipush 31, 2) := by decide +kernel
theorem dX0_tracePath_183 : decode cX0_tracePath 183 = .ok (.aload_n 0, 1) := by decide +kernel
theorem dX0_tracePath_184 : decode cX0_tracePath 184 = .ok (.getfield 24, 3) := by decide +kernel
theorem dX0_tracePath_187 : decode cX0_tracePath 187 = .ok (.isub, 1) := by decide +kernel
theorem dX0_tracePath_188 : decode cX0_tracePath 188 = .ok (.ireturn, 1) := by decide +kernel
theorem dX0_pairOfPath_0 : decode cX0_pairOfPath 0 = .ok (.aload_n 0, 1) := by decide +kernel
theorem dX0_pairOfPath_1 : decode cX0_pairOfPath 1 = .ok (.getfield 21, 3) := by decide +kernel
theorem dX0_pairOfPath_4 : decode cX0_pairOfPath 4 = .ok (.aload_n 0, 1) := by decide +kernel
theorem dX0_pairOfPath_5 : decode cX0_pairOfPath 5 = .ok (.getfield 24, 3) := by decide +kernel
theorem dX0_pairOfPath_8 : decode cX0_pairOfPath 8 = .ok (.iload_n 1, 1) := by decide +kernel
theorem dX0_pairOfPath_9 : decode cX0_pairOfPath 9 = .ok (.iadd, 1) := by decide +kernel
theorem dX0_pairOfPath_10 : decode cX0_pairOfPath 10 = .ok (.iaload, 1) := by decide +kernel
theorem dX0_pairOfPath_11 : decode cX0_pairOfPath 11 = .ok (.ireturn, 1) := by decide +kernel
theorem dX1_limit_0 : decode cX1_limit 0 = .ok (.aload_n 0, 1) := by decide +kernel
theorem dX1_limit_1 : decode cX1_limit 1 = .ok (.getfield 18, 3) := by decide +kernel
theorem dX1_limit_4 : decode cX1_limit 4 = .ok (.aload_n 0, 1) := by decide +kernel
theorem dX1_limit_5 : decode cX1_limit 5 = .ok (.getfield 22, 3) := by decide +kernel
theorem dX1_limit_8 : decode cX1_limit 8 = .ok (.if_icmp .ne 17, 3) := by decide +kernel
theorem dX1_limit_11 : decode cX1_limit 11 = .ok (.aload_n 0, 1) := by decide +kernel
theorem dX1_limit_12 : decode cX1_limit 12 = .ok (.getfield 15, 3) := by decide +kernel
theorem dX1_limit_15 : decode cX1_limit 15 = .ok (.aload_n 0, 1) := by decide +kernel
theorem dX1_limit_16 : decode cX1_limit 16 = .ok (.getfield 18, 3) := by decide +kernel
theorem dX1_limit_19 : decode cX1_limit 19 = .ok (.iconst 1, 1) := by decide +kernel
theorem dX1_limit_20 : decode cX1_limit 20 = .ok (.isub, 1) := by decide +kernel
theorem dX1_limit_21 : decode cX1_limit 21 = .ok (.iaload, 1) := by decide +kernel
theorem dX1_limit_22 : decode cX1_limit 22 = .ok (.goto 4, 3) := by decide +kernel
theorem dX1_limit_25 : decode cX1_limit 25 = .ok (.iconst (-1), 1) := by decide +kernel
theorem dX1_limit_26 : decode cX1_limit 26 = .ok (.ireturn, 1) := by decide +kernel
theorem dX1_insert_0 : decode cX1_insert 0 = .ok (.aload_n 0, 1) := by decide +kernel
theorem dX1_insert_1 : decode cX1_insert 1 = .ok (.getfield 18, 3) := by decide +kernel
theorem dX1_insert_4 : decode cX1_insert 4 = .ok (.aload_n 0, 1) := by decide +kernel
theorem dX1_insert_5 : decode cX1_insert 5 = .ok (.getfield 22, 3) := by decide +kernel
theorem dX1_insert_8 : decode cX1_insert 8 = .ok (.iconst 1, 1) := by decide +kernel
theorem dX1_insert_9 : decode cX1_insert 9 = .ok (.isub, 1) := by decide +kernel
theorem dX1_insert_10 : decode cX1_insert 10 = .ok (.invokestatic 25, 3) := by decide +kernel
theorem dX1_insert_13 : decode cX1_insert 13 = .ok (.istore_n 3, 1) := by decide +kernel
theorem dX1_insert_14 : decode cX1_insert 14 = .ok (.iload_n 3, 1) := by decide +kernel
theorem dX1_insert_15 : decode cX1_insert 15 = .ok (.ifCond .le 49, 3) := by decide +kernel
theorem dX1_insert_18 : decode cX1_insert 18 = .ok (.aload_n 0, 1) := by decide +kernel
theorem dX1_insert_19 : decode cX1_insert 19 = .ok (.getfield 15, 3) := by decide +kernel
theorem dX1_insert_22 : decode cX1_insert 22 = .ok (.iload_n 3, 1) := by decide +kernel
theorem dX1_insert_23 : decode cX1_insert 23 = .ok (.iconst 1, 1) := by decide +kernel
theorem dX1_insert_24 : decode cX1_insert 24 = .ok (.isub, 1) := by decide +kernel
theorem dX1_insert_25 : decode cX1_insert 25 = .ok (.iaload, 1) := by decide +kernel
theorem dX1_insert_26 : decode cX1_insert 26 = .ok (.iload_n 2, 1) := by decide +kernel
theorem dX1_insert_27 : decode cX1_insert 27 = .ok (.if_icmp .le 37, 3) := by decide +kernel
theorem dX1_insert_30 : decode cX1_insert 30 = .ok (.aload_n 0, 1) := by decide +kernel
theorem dX1_insert_31 : decode cX1_insert 31 = .ok (.getfield 9, 3) := by decide +kernel
theorem dX1_insert_34 : decode cX1_insert 34 = .ok (.iload_n 3, 1) := by decide +kernel
theorem dX1_insert_35 : decode cX1_insert 35 = .ok (.aload_n 0, 1) := by decide +kernel
theorem dX1_insert_36 : decode cX1_insert 36 = .ok (.getfield 9, 3) := by decide +kernel
theorem dX1_insert_39 : decode cX1_insert 39 = .ok (.iload_n 3, 1) := by decide +kernel
theorem dX1_insert_40 : decode cX1_insert 40 = .ok (.iconst 1, 1) := by decide +kernel
theorem dX1_insert_41 : decode cX1_insert 41 = .ok (.isub, 1) := by decide +kernel
theorem dX1_insert_42 : decode cX1_insert 42 = .ok (.iaload, 1) := by decide +kernel
theorem dX1_insert_43 : decode cX1_insert 43 = .ok (.iastore, 1) := by decide +kernel
theorem dX1_insert_44 : decode cX1_insert 44 = .ok (.aload_n 0, 1) := by decide +kernel
theorem dX1_insert_45 : decode cX1_insert 45 = .ok (.getfield 15, 3) := by decide +kernel
theorem dX1_insert_48 : decode cX1_insert 48 = .ok (.iload_n 3, 1) := by decide +kernel
theorem dX1_insert_49 : decode cX1_insert 49 = .ok (.aload_n 0, 1) := by decide +kernel
theorem dX1_insert_50 : decode cX1_insert 50 = .ok (.getfield 15, 3) := by decide +kernel
theorem dX1_insert_53 : decode cX1_insert 53 = .ok (.iload_n 3, 1) := by decide +kernel
theorem dX1_insert_54 : decode cX1_insert 54 = .ok (.iconst 1, 1) := by decide +kernel
theorem dX1_insert_55 : decode cX1_insert 55 = .ok (.isub, 1) := by decide +kernel
theorem dX1_insert_56 : decode cX1_insert 56 = .ok (.iaload, 1) := by decide +kernel
theorem dX1_insert_57 : decode cX1_insert 57 = .ok (.iastore, 1) := by decide +kernel
theorem dX1_insert_58 : decode cX1_insert 58 = .ok (.iinc 3 (-1), 3) := by decide +kernel
theorem dX1_insert_61 : decode cX1_insert 61 = .ok (.goto (-47), 3) := by decide +kernel
theorem dX1_insert_64 : decode cX1_insert 64 = .ok (.aload_n 0, 1) := by decide +kernel
theorem dX1_insert_65 : decode cX1_insert 65 = .ok (.getfield 9, 3) := by decide +kernel
theorem dX1_insert_68 : decode cX1_insert 68 = .ok (.iload_n 3, 1) := by decide +kernel
theorem dX1_insert_69 : decode cX1_insert 69 = .ok (.iload_n 1, 1) := by decide +kernel
theorem dX1_insert_70 : decode cX1_insert 70 = .ok (.iastore, 1) := by decide +kernel
theorem dX1_insert_71 : decode cX1_insert 71 = .ok (.aload_n 0, 1) := by decide +kernel
theorem dX1_insert_72 : decode cX1_insert 72 = .ok (.getfield 15, 3) := by decide +kernel
theorem dX1_insert_75 : decode cX1_insert 75 = .ok (.iload_n 3, 1) := by decide +kernel
theorem dX1_insert_76 : decode cX1_insert 76 = .ok (.iload_n 2, 1) := by decide +kernel
theorem dX1_insert_77 : decode cX1_insert 77 = .ok (.iastore, 1) := by decide +kernel
theorem dX1_insert_78 : decode cX1_insert 78 = .ok (.aload_n 0, 1) := by decide +kernel
theorem dX1_insert_79 : decode cX1_insert 79 = .ok (.aload_n 0, 1) := by decide +kernel
theorem dX1_insert_80 : decode cX1_insert 80 = .ok (.getfield 18, 3) := by decide +kernel
theorem dX1_insert_83 : decode cX1_insert 83 = .ok (.iconst 1, 1) := by decide +kernel
theorem dX1_insert_84 : decode cX1_insert 84 = .ok (.iadd, 1) := by decide +kernel
theorem dX1_insert_85 : decode cX1_insert 85 = .ok (.aload_n 0, 1) := by decide +kernel
theorem dX1_insert_86 : decode cX1_insert 86 = .ok (.getfield 22, 3) := by decide +kernel
theorem dX1_insert_89 : decode cX1_insert 89 = .ok (.invokestatic 25, 3) := by decide +kernel
theorem dX1_insert_92 : decode cX1_insert 92 = .ok (.putfield 18, 3) := by decide +kernel
theorem dX1_insert_95 : decode cX1_insert 95 = .ok (.return_, 1) := by decide +kernel
end
section
theorem dX2_init_0 : decode cX2_init 0 = .ok (.aload_n 0, 1) := by decide +kernel
theorem dX2_init_1 : decode cX2_init 1 = .ok (.invokespecial 3, 3) := by decide +kernel
theorem dX2_init_4 : decode cX2_init 4 = .ok (.aload_n 0, 1) := by decide +kernel
theorem dX2_init_5 : decode cX2_init 5 = .ok (.iconst 2, 1) := by decide +kernel
theorem dX2_init_6 : decode cX2_init 6 = .ok (.putfield 9, 3) := by decide +kernel
theorem dX2_init_9 : decode cX2_init 9 = .ok (.aload_n 0, 1) := by decide +kernel
theorem dX2_init_10 : decode cX2_init 10 = .ok (.iconst 0, 1) := by decide +kernel
theorem dX2_init_11 : decode cX2_init 11 = .ok (.putfield 13, 3) := by decide +kernel
theorem dX2_init_14 : decode cX2_init 14 = .ok (.aload_n 0, 1) := by decide +kernel
theorem dX2_init_15 : decode cX2_init 15 = .ok (.bipush 16, 2) := by decide +kernel
theorem dX2_init_17 : decode cX2_init 17 = .ok (.newarray .int, 2) := by decide +kernel
theorem dX2_init_19 : decode cX2_init 19 = .ok (.putfield 16, 3) := by decide +kernel
theorem dX2_init_22 : decode cX2_init 22 = .ok (.aload_n 0, 1) := by decide +kernel
theorem dX2_init_23 : decode cX2_init 23 = .ok (.sipush 192, 3) := by decide +kernel
theorem dX2_init_26 : decode cX2_init 26 = .ok (.newarray .int, 2) := by decide +kernel
theorem dX2_init_28 : decode cX2_init 28 = .ok (.putfield 20, 3) := by decide +kernel
theorem dX2_init_31 : decode cX2_init 31 = .ok (.aload_n 0, 1) := by decide +kernel
theorem dX2_init_32 : decode cX2_init 32 = .ok (.bipush 12, 2) := by decide +kernel
theorem dX2_init_34 : decode cX2_init 34 = .ok (.newarray .int, 2) := by decide +kernel
theorem dX2_init_36 : decode cX2_init 36 = .ok (.putfield 23, 3) := by decide +kernel
theorem dX2_init_39 : decode cX2_init 39 = .ok (.aload_n 0, 1) := by decide +kernel
theorem dX2_init_40 : decode cX2_init 40 = .ok (.iconst 0, 1) := by decide +kernel
theorem dX2_init_41 : decode cX2_init 41 = .ok (.putfield 26, 3) := by decide +kernel
theorem dX2_init_44 : decode cX2_init 44 = .ok (.aload_n 0, 1) := by decide +kernel
theorem dX2_init_45 : decode cX2_init 45 = .ok (.bipush 64, 2) := by decide +kernel
theorem dX2_init_47 : decode cX2_init 47 = .ok (.newarray .int, 2) := by decide +kernel
theorem dX2_init_49 : decode cX2_init 49 = .ok (.putfield 29, 3) := by decide +kernel
theorem dX2_init_52 : decode cX2_init 52 = .ok (.aload_n 0, 1) := by decide +kernel
theorem dX2_init_53 : decode cX2_init 53 = .ok (.iconst 0, 1) := by decide +kernel
theorem dX2_init_54 : decode cX2_init 54 = .ok (.putfield 32, 3) := by decide +kernel
theorem dX2_init_57 : decode cX2_init 57 = .ok (.aload_n 0, 1) := by decide +kernel
theorem dX2_init_58 : decode cX2_init 58 = .ok (.new 35, 3) := by decide +kernel
theorem dX2_init_61 : decode cX2_init 61 = .ok (.dup, 1) := by decide +kernel
theorem dX2_init_62 : decode cX2_init 62 = .ok (.invokespecial 37, 3) := by decide +kernel
theorem dX2_init_65 : decode cX2_init 65 = .ok (.putfield 38, 3) := by decide +kernel
theorem dX2_init_68 : decode cX2_init 68 = .ok (.aload_n 0, 1) := by decide +kernel
theorem dX2_init_69 : decode cX2_init 69 = .ok (.new 42, 3) := by decide +kernel
theorem dX2_init_72 : decode cX2_init 72 = .ok (.dup, 1) := by decide +kernel
theorem dX2_init_73 : decode cX2_init 73 = .ok (.invokespecial 44, 3) := by decide +kernel
theorem dX2_init_76 : decode cX2_init 76 = .ok (.putfield 45, 3) := by decide +kernel
theorem dX2_init_79 : decode cX2_init 79 = .ok (.aload_n 0, 1) := by decide +kernel
theorem dX2_init_80 : decode cX2_init 80 = .ok (.iconst 5, 1) := by decide +kernel
theorem dX2_init_81 : decode cX2_init 81 = .ok (.newarray .int, 2) := by decide +kernel
theorem dX2_init_83 : decode cX2_init 83 = .ok (.putfield 49, 3) := by decide +kernel
theorem dX2_init_86 : decode cX2_init 86 = .ok (.return_, 1) := by decide +kernel
theorem dX2_begin_0 : decode cX2_begin 0 = .ok (.iload_n 1, 1) := by decide +kernel
theorem dX2_begin_1 : decode cX2_begin 1 = .ok (.iconst 2, 1) := by decide +kernel
theorem dX2_begin_2 : decode cX2_begin 2 = .ok (.if_icmp .lt 9, 3) := by decide +kernel
theorem dX2_begin_5 : decode cX2_begin 5 = .ok (.iload_n 1, 1) := by decide +kernel
theorem dX2_begin_6 : decode cX2_begin 6 = .ok (.bipush 16, 2) := by decide +kernel
theorem dX2_begin_8 : decode cX2_begin 8 = .ok (.if_icmp .le 13, 3) := by decide +kernel
theorem dX2_begin_11 : decode cX2_begin 11 = .ok (.new 52, 3) := by decide +kernel
theorem dX2_begin_14 : decode cX2_begin 14 = .ok (.dup, 1) := by decide +kernel
theorem dX2_begin_15 : decode cX2_begin 15 = .ok (.ldc 54, 2) := by decide +kernel
theorem dX2_begin_17 : decode cX2_begin 17 = .ok (.invokespecial 56, 3) := by decide +kernel
theorem dX2_begin_20 : decode cX2_begin 20 = .ok (.athrow, 1) := by decide +kernel
theorem dX2_begin_21 : decode cX2_begin 21 = .ok (.aload_n 0, 1) := by decide +kernel
theorem dX2_begin_22 : decode cX2_begin 22 = .ok (.iload_n 1, 1) := by decide +kernel
theorem dX2_begin_23 : decode cX2_begin 23 = .ok (.putfield 9, 3) := by decide +kernel
theorem dX2_begin_26 : decode cX2_begin 26 = .ok (.aload_n 0, 1) := by decide +kernel
theorem dX2_begin_27 : decode cX2_begin 27 = .ok (.iconst 0, 1) := by decide +kernel
theorem dX2_begin_28 : decode cX2_begin 28 = .ok (.putfield 26, 3) := by decide +kernel
theorem dX2_begin_31 : decode cX2_begin 31 = .ok (.aload_n 0, 1) := by decide +kernel
theorem dX2_begin_32 : decode cX2_begin 32 = .ok (.getfield 16, 3) := by decide +kernel
theorem dX2_begin_35 : decode cX2_begin 35 = .ok (.iconst 0, 1) := by decide +kernel
theorem dX2_begin_36 : decode cX2_begin 36 = .ok (.invokestatic 59, 3) := by decide +kernel
theorem dX2_begin_39 : decode cX2_begin 39 = .ok (.aload_n 0, 1) := by decide +kernel
theorem dX2_begin_40 : decode cX2_begin 40 = .ok (.getfield 45, 3) := by decide +kernel
theorem dX2_begin_43 : decode cX2_begin 43 = .ok (.iconst 1, 1) := by decide +kernel
theorem dX2_begin_44 : decode cX2_begin 44 = .ok (.invokevirtual 65, 3) := by decide +kernel
theorem dX2_begin_47 : decode cX2_begin 47 = .ok (.return_, 1) := by decide +kernel
theorem dX2_ask_0 : decode cX2_ask 0 = .ok (.iload_n 1, 1) := by decide +kernel
theorem dX2_ask_1 : decode cX2_ask 1 = .ok (.ifCond .lt 11, 3) := by decide +kernel
theorem dX2_ask_4 : decode cX2_ask 4 = .ok (.iload_n 1, 1) := by decide +kernel
theorem dX2_ask_5 : decode cX2_ask 5 = .ok (.aload_n 0, 1) := by decide +kernel
theorem dX2_ask_6 : decode cX2_ask 6 = .ok (.getfield 9, 3) := by decide +kernel
theorem dX2_ask_9 : decode cX2_ask 9 = .ok (.if_icmp .lt 13, 3) := by decide +kernel
theorem dX2_ask_12 : decode cX2_ask 12 = .ok (.new 69, 3) := by decide +kernel
theorem dX2_ask_15 : decode cX2_ask 15 = .ok (.dup, 1) := by decide +kernel
theorem dX2_ask_16 : decode cX2_ask 16 = .ok (.ldc 71, 2) := by decide +kernel
theorem dX2_ask_18 : decode cX2_ask 18 = .ok (.invokespecial 73, 3) := by decide +kernel
theorem dX2_ask_21 : decode cX2_ask 21 = .ok (.athrow, 1) := by decide +kernel
theorem dX2_ask_22 : decode cX2_ask 22 = .ok (.iload_n 2, 1) := by decide +kernel
theorem dX2_ask_23 : decode cX2_ask 23 = .ok (.invokestatic 74, 3) := by decide +kernel
theorem dX2_ask_26 : decode cX2_ask 26 = .ok (.ifCond .ne 13, 3) := by decide +kernel
theorem dX2_ask_29 : decode cX2_ask 29 = .ok (.new 52, 3) := by decide +kernel
theorem dX2_ask_32 : decode cX2_ask 32 = .ok (.dup, 1) := by decide +kernel
theorem dX2_ask_33 : decode cX2_ask 33 = .ok (.ldc 78, 2) := by decide +kernel
theorem dX2_ask_35 : decode cX2_ask 35 = .ok (.invokespecial 56, 3) := by decide +kernel
theorem dX2_ask_38 : decode cX2_ask 38 = .ok (.athrow, 1) := by decide +kernel
theorem dX2_ask_39 : decode cX2_ask 39 = .ok (.aload_n 0, 1) := by decide +kernel
theorem dX2_ask_40 : decode cX2_ask 40 = .ok (.getfield 16, 3) := by decide +kernel
theorem dX2_ask_43 : decode cX2_ask 43 = .ok (.iload_n 1, 1) := by decide +kernel
theorem dX2_ask_44 : decode cX2_ask 44 = .ok (.iaload, 1) := by decide +kernel
theorem dX2_ask_45 : decode cX2_ask 45 = .ok (.istore_n 3, 1) := by decide +kernel
theorem dX2_ask_46 : decode cX2_ask 46 = .ok (.aload_n 0, 1) := by decide +kernel
theorem dX2_ask_47 : decode cX2_ask 47 = .ok (.getfield 16, 3) := by decide +kernel
theorem dX2_ask_50 : decode cX2_ask 50 = .ok (.iload_n 1, 1) := by decide +kernel
theorem dX2_ask_51 : decode cX2_ask 51 = .ok (.iload_n 2, 1) := by decide +kernel
theorem dX2_ask_52 : decode cX2_ask 52 = .ok (.iastore, 1) := by decide +kernel
theorem dX2_ask_53 : decode cX2_ask 53 = .ok (.iload_n 3, 1) := by decide +kernel
theorem dX2_ask_54 : decode cX2_ask 54 = .ok (.ireturn, 1) := by decide +kernel
theorem dX2_isValue_0 : decode cX2_isValue 0 = .ok (.iload_n 0, 1) := by decide +kernel
theorem dX2_isValue_1 : decode cX2_isValue 1 = .ok (.sipush (-1000), 3) := by decide +kernel
theorem dX2_isValue_4 : decode cX2_isValue 4 = .ok (.if_icmp .lt 14, 3) := by decide +kernel
theorem dX2_isValue_7 : decode cX2_isValue 7 = .ok (.iload_n 0, 1) := by decide +kernel
theorem dX2_isValue_8 : decode cX2_isValue 8 = .ok (.sipush 1000, 3) := by decide +kernel
theorem dX2_isValue_11 : decode cX2_isValue 11 = .ok (.if_icmp .gt 7, 3) := by decide +kernel
theorem dX2_isValue_14 : decode cX2_isValue 14 = .ok (.iconst 1, 1) := by decide +kernel
theorem dX2_isValue_15 : decode cX2_isValue 15 = .ok (.goto 4, 3) := by decide +kernel
theorem dX2_isValue_18 : decode cX2_isValue 18 = .ok (.iconst 0, 1) := by decide +kernel
theorem dX2_isValue_19 : decode cX2_isValue 19 = .ok (.ireturn, 1) := by decide +kernel
theorem dX2_keep_0 : decode cX2_keep 0 = .ok (.iload_n 1, 1) := by decide +kernel
theorem dX2_keep_1 : decode cX2_keep 1 = .ok (.ifCond .lt 9, 3) := by decide +kernel
theorem dX2_keep_4 : decode cX2_keep 4 = .ok (.iload_n 1, 1) := by decide +kernel
theorem dX2_keep_5 : decode cX2_keep 5 = .ok (.bipush 7, 2) := by decide +kernel
theorem dX2_keep_7 : decode cX2_keep 7 = .ok (.if_icmp .le 13, 3) := by decide +kernel
theorem dX2_keep_10 : decode cX2_keep 10 = .ok (.new 52, 3) := by decide +kernel
theorem dX2_keep_13 : decode cX2_keep 13 = .ok (.dup, 1) := by decide +kernel
theorem dX2_keep_14 : decode cX2_keep 14 = .ok (.ldc 80, 2) := by decide +kernel
theorem dX2_keep_16 : decode cX2_keep 16 = .ok (.invokespecial 56, 3) := by decide +kernel
theorem dX2_keep_19 : decode cX2_keep 19 = .ok (.athrow, 1) := by decide +kernel
theorem dX2_keep_20 : decode cX2_keep 20 = .ok (.aload_n 0, 1) := by decide +kernel
theorem dX2_keep_21 : decode cX2_keep 21 = .ok (.getfield 26, 3) := by decide +kernel
theorem dX2_keep_24 : decode cX2_keep 24 = .ok (.bipush 12, 2) := by decide +kernel
theorem dX2_keep_26 : decode cX2_keep 26 = .ok (.if_icmp .lt 13, 3) := by decide +kernel
theorem dX2_keep_29 : decode cX2_keep 29 = .ok (.new 82, 3) := by decide +kernel
theorem dX2_keep_32 : decode cX2_keep 32 = .ok (.dup, 1) := by decide +kernel
theorem dX2_keep_33 : decode cX2_keep 33 = .ok (.ldc 84, 2) := by decide +kernel
theorem dX2_keep_35 : decode cX2_keep 35 = .ok (.invokespecial 86, 3) := by decide +kernel
theorem dX2_keep_38 : decode cX2_keep 38 = .ok (.athrow, 1) := by decide +kernel
theorem dX2_keep_39 : decode cX2_keep 39 = .ok (.aload_n 0, 1) := by decide +kernel
theorem dX2_keep_40 : decode cX2_keep 40 = .ok (.getfield 26, 3) := by decide +kernel
theorem dX2_keep_43 : decode cX2_keep 43 = .ok (.istore_n 2, 1) := by decide +kernel
theorem dX2_keep_44 : decode cX2_keep 44 = .ok (.aload_n 0, 1) := by decide +kernel
theorem dX2_keep_45 : decode cX2_keep 45 = .ok (.getfield 16, 3) := by decide +kernel
theorem dX2_keep_48 : decode cX2_keep 48 = .ok (.iconst 0, 1) := by decide +kernel
theorem dX2_keep_49 : decode cX2_keep 49 = .ok (.aload_n 0, 1) := by decide +kernel
theorem dX2_keep_50 : decode cX2_keep 50 = .ok (.getfield 20, 3) := by decide +kernel
theorem dX2_keep_53 : decode cX2_keep 53 = .ok (.iload_n 2, 1) := by decide +kernel
theorem dX2_keep_54 : decode cX2_keep 54 = .ok (.bipush 16, 2) := by decide +kernel
theorem dX2_keep_56 : decode cX2_keep 56 = .ok (.imul, 1) := by decide +kernel
theorem dX2_keep_57 : decode cX2_keep 57 = .ok (.aload_n 0, 1) := by decide +kernel
theorem dX2_keep_58 : decode cX2_keep 58 = .ok (.getfield 9, 3) := by decide +kernel
theorem dX2_keep_61 : decode cX2_keep 61 = .ok (.invokestatic 87, 3) := by decide +kernel
theorem dX2_keep_64 : decode cX2_keep 64 = .ok (.aload_n 0, 1) := by decide +kernel
theorem dX2_keep_65 : decode cX2_keep 65 = .ok (.getfield 23, 3) := by decide +kernel
theorem dX2_keep_68 : decode cX2_keep 68 = .ok (.iload_n 2, 1) := by decide +kernel
theorem dX2_keep_69 : decode cX2_keep 69 = .ok (.iload_n 1, 1) := by decide +kernel
theorem dX2_keep_70 : decode cX2_keep 70 = .ok (.iastore, 1) := by decide +kernel
theorem dX2_keep_71 : decode cX2_keep 71 = .ok (.aload_n 0, 1) := by decide +kernel
theorem dX2_keep_72 : decode cX2_keep 72 = .ok (.iload_n 2, 1) := by decide +kernel
theorem dX2_keep_73 : decode cX2_keep 73 = .ok (.iconst 1, 1) := by decide +kernel
theorem dX2_keep_74 : decode cX2_keep 74 = .ok (.iadd, 1) := by decide +kernel
theorem dX2_keep_75 : decode cX2_keep 75 = .ok (.putfield 26, 3) := by decide +kernel
theorem dX2_keep_78 : decode cX2_keep 78 = .ok (.iload_n 2, 1) := by decide +kernel
theorem dX2_keep_79 : decode cX2_keep 79 = .ok (.ireturn, 1) := by decide +kernel
theorem dX2_recall_0 : decode cX2_recall 0 = .ok (.aload_n 0, 1) := by decide +kernel
theorem dX2_recall_1 : decode cX2_recall 1 = .ok (.iload_n 1, 1) := by decide +kernel
theorem dX2_recall_2 : decode cX2_recall 2 = .ok (.invokevirtual 93, 3) := by decide +kernel
theorem dX2_recall_5 : decode cX2_recall 5 = .ok (.aload_n 0, 1) := by decide +kernel
theorem dX2_recall_6 : decode cX2_recall 6 = .ok (.getfield 20, 3) := by decide +kernel
theorem dX2_recall_9 : decode cX2_recall 9 = .ok (.iload_n 1, 1) := by decide +kernel
theorem dX2_recall_10 : decode cX2_recall 10 = .ok (.bipush 16, 2) := by decide +kernel
theorem dX2_recall_12 : decode cX2_recall 12 = .ok (.imul, 1) := by decide +kernel
theorem dX2_recall_13 : decode cX2_recall 13 = .ok (.aload_n 0, 1) := by decide +kernel
theorem dX2_recall_14 : decode cX2_recall 14 = .ok (.getfield 16, 3) := by decide +kernel
theorem dX2_recall_17 : decode cX2_recall 17 = .ok (.iconst 0, 1) := by decide +kernel
theorem dX2_recall_18 : decode cX2_recall 18 = .ok (.aload_n 0, 1) := by decide +kernel
theorem dX2_recall_19 : decode cX2_recall 19 = .ok (.getfield 9, 3) := by decide +kernel
theorem dX2_recall_22 : decode cX2_recall 22 = .ok (.invokestatic 87, 3) := by decide +kernel
theorem dX2_recall_25 : decode cX2_recall 25 = .ok (.return_, 1) := by decide +kernel
theorem dX2_checkRow_0 : decode cX2_checkRow 0 = .ok (.iload_n 1, 1) := by decide +kernel
theorem dX2_checkRow_1 : decode cX2_checkRow 1 = .ok (.ifCond .lt 11, 3) := by decide +kernel
theorem dX2_checkRow_4 : decode cX2_checkRow 4 = .ok (.iload_n 1, 1) := by decide +kernel
theorem dX2_checkRow_5 : decode cX2_checkRow 5 = .ok (.aload_n 0, 1) := by decide +kernel
theorem dX2_checkRow_6 : decode cX2_checkRow 6 = .ok (.getfield 26, 3) := by decide +kernel
theorem dX2_checkRow_9 : decode cX2_checkRow 9 = .ok (.if_icmp .lt 13, 3) := by decide +kernel
theorem dX2_checkRow_12 : decode cX2_checkRow 12 = .ok (.new 69, 3) := by decide +kernel
theorem dX2_checkRow_15 : decode cX2_checkRow 15 = .ok (.dup, 1) := by decide +kernel
theorem dX2_checkRow_16 : decode cX2_checkRow 16 = .ok (.ldc 151, 2) := by decide +kernel
theorem dX2_checkRow_18 : decode cX2_checkRow 18 = .ok (.invokespecial 73, 3) := by decide +kernel
theorem dX2_checkRow_21 : decode cX2_checkRow 21 = .ok (.athrow, 1) := by decide +kernel
theorem dX2_checkRow_22 : decode cX2_checkRow 22 = .ok (.return_, 1) := by decide +kernel
theorem dX2_band_0 : decode cX2_band 0 = .ok (.iload_n 1, 1) := by decide +kernel
theorem dX2_band_1 : decode cX2_band 1 = .ok (.ifCond .lt 9, 3) := by decide +kernel
theorem dX2_band_4 : decode cX2_band 4 = .ok (.iload_n 1, 1) := by decide +kernel
theorem dX2_band_5 : decode cX2_band 5 = .ok (.bipush 15, 2) := by decide +kernel
theorem dX2_band_7 : decode cX2_band 7 = .ok (.if_icmp .le 13, 3) := by decide +kernel
theorem dX2_band_10 : decode cX2_band 10 = .ok (.new 52, 3) := by decide +kernel
theorem dX2_band_13 : decode cX2_band 13 = .ok (.dup, 1) := by decide +kernel
theorem dX2_band_14 : decode cX2_band 14 = .ok (.ldc 96, 2) := by decide +kernel
theorem dX2_band_16 : decode cX2_band 16 = .ok (.invokespecial 56, 3) := by decide +kernel
theorem dX2_band_19 : decode cX2_band 19 = .ok (.athrow, 1) := by decide +kernel
theorem dX2_band_20 : decode cX2_band 20 = .ok (.aload_n 0, 1) := by decide +kernel
theorem dX2_band_21 : decode cX2_band 21 = .ok (.getfield 13, 3) := by decide +kernel
theorem dX2_band_24 : decode cX2_band 24 = .ok (.istore_n 2, 1) := by decide +kernel
theorem dX2_band_25 : decode cX2_band 25 = .ok (.aload_n 0, 1) := by decide +kernel
theorem dX2_band_26 : decode cX2_band 26 = .ok (.iload_n 1, 1) := by decide +kernel
theorem dX2_band_27 : decode cX2_band 27 = .ok (.putfield 13, 3) := by decide +kernel
theorem dX2_band_30 : decode cX2_band 30 = .ok (.iload_n 2, 1) := by decide +kernel
theorem dX2_band_31 : decode cX2_band 31 = .ok (.ireturn, 1) := by decide +kernel
theorem dX2_distance_0 : decode cX2_distance 0 = .ok (.aload_n 0, 1) := by decide +kernel
theorem dX2_distance_1 : decode cX2_distance 1 = .ok (.iload_n 1, 1) := by decide +kernel
theorem dX2_distance_2 : decode cX2_distance 2 = .ok (.invokevirtual 93, 3) := by decide +kernel
theorem dX2_distance_5 : decode cX2_distance 5 = .ok (.aload_n 0, 1) := by decide +kernel
theorem dX2_distance_6 : decode cX2_distance 6 = .ok (.iload_n 1, 1) := by decide +kernel
theorem dX2_distance_7 : decode cX2_distance 7 = .ok (.invokevirtual 98, 3) := by decide +kernel
theorem dX2_distance_10 : decode cX2_distance 10 = .ok (.aload_n 0, 1) := by decide +kernel
theorem dX2_distance_11 : decode cX2_distance 11 = .ok (.getfield 38, 3) := by decide +kernel
theorem dX2_distance_14 : decode cX2_distance 14 = .ok (.iconst (-1), 1) := by decide +kernel
theorem dX2_distance_15 : decode cX2_distance 15 = .ok (.invokevirtual 101, 3) := by decide +kernel
theorem dX2_distance_18 : decode cX2_distance 18 = .ok (.ireturn, 1) := by decide +kernel
theorem dX2_placeRow_0 : decode cX2_placeRow 0 = .ok (.aload_n 0, 1) := by decide +kernel
theorem dX2_placeRow_1 : decode cX2_placeRow 1 = .ok (.getfield 38, 3) := by decide +kernel
theorem dX2_placeRow_4 : decode cX2_placeRow 4 = .ok (.aload_n 0, 1) := by decide +kernel
theorem dX2_placeRow_5 : decode cX2_placeRow 5 = .ok (.getfield 16, 3) := by decide +kernel
theorem dX2_placeRow_8 : decode cX2_placeRow 8 = .ok (.aload_n 0, 1) := by decide +kernel
theorem dX2_placeRow_9 : decode cX2_placeRow 9 = .ok (.getfield 9, 3) := by decide +kernel
theorem dX2_placeRow_12 : decode cX2_placeRow 12 = .ok (.aload_n 0, 1) := by decide +kernel
theorem dX2_placeRow_13 : decode cX2_placeRow 13 = .ok (.getfield 13, 3) := by decide +kernel
theorem dX2_placeRow_16 : decode cX2_placeRow 16 = .ok (.invokevirtual 157, 3) := by decide +kernel
theorem dX2_placeRow_19 : decode cX2_placeRow 19 = .ok (.aload_n 0, 1) := by decide +kernel
theorem dX2_placeRow_20 : decode cX2_placeRow 20 = .ok (.getfield 38, 3) := by decide +kernel
theorem dX2_placeRow_23 : decode cX2_placeRow 23 = .ok (.aload_n 0, 1) := by decide +kernel
theorem dX2_placeRow_24 : decode cX2_placeRow 24 = .ok (.getfield 20, 3) := by decide +kernel
theorem dX2_placeRow_27 : decode cX2_placeRow 27 = .ok (.iload_n 1, 1) := by decide +kernel
theorem dX2_placeRow_28 : decode cX2_placeRow 28 = .ok (.bipush 16, 2) := by decide +kernel
theorem dX2_placeRow_30 : decode cX2_placeRow 30 = .ok (.imul, 1) := by decide +kernel
theorem dX2_placeRow_31 : decode cX2_placeRow 31 = .ok (.invokevirtual 161, 3) := by decide +kernel
theorem dX2_placeRow_34 : decode cX2_placeRow 34 = .ok (.return_, 1) := by decide +kernel
theorem dX2_bound_0 : decode cX2_bound 0 = .ok (.aload_n 0, 1) := by decide +kernel
theorem dX2_bound_1 : decode cX2_bound 1 = .ok (.iload_n 1, 1) := by decide +kernel
theorem dX2_bound_2 : decode cX2_bound 2 = .ok (.invokevirtual 93, 3) := by decide +kernel
theorem dX2_bound_5 : decode cX2_bound 5 = .ok (.iload_n 2, 1) := by decide +kernel
theorem dX2_bound_6 : decode cX2_bound 6 = .ok (.ifCond .lt 8, 3) := by decide +kernel
theorem dX2_bound_9 : decode cX2_bound 9 = .ok (.iload_n 2, 1) := by decide +kernel
theorem dX2_bound_10 : decode cX2_bound 10 = .ok (.iconst 2, 1) := by decide +kernel
theorem dX2_bound_11 : decode cX2_bound 11 = .ok (.if_icmp .le 13, 3) := by decide +kernel
theorem dX2_bound_14 : decode cX2_bound 14 = .ok (.new 52, 3) := by decide +kernel
theorem dX2_bound_17 : decode cX2_bound 17 = .ok (.dup, 1) := by decide +kernel
theorem dX2_bound_18 : decode cX2_bound 18 = .ok (.ldc 105, 2) := by decide +kernel
theorem dX2_bound_20 : decode cX2_bound 20 = .ok (.invokespecial 56, 3) := by decide +kernel
theorem dX2_bound_23 : decode cX2_bound 23 = .ok (.athrow, 1) := by decide +kernel
theorem dX2_bound_24 : decode cX2_bound 24 = .ok (.aload_n 0, 1) := by decide +kernel
theorem dX2_bound_25 : decode cX2_bound 25 = .ok (.iload_n 1, 1) := by decide +kernel
theorem dX2_bound_26 : decode cX2_bound 26 = .ok (.invokevirtual 98, 3) := by decide +kernel
theorem dX2_bound_29 : decode cX2_bound 29 = .ok (.aload_n 0, 1) := by decide +kernel
theorem dX2_bound_30 : decode cX2_bound 30 = .ok (.getfield 38, 3) := by decide +kernel
theorem dX2_bound_33 : decode cX2_bound 33 = .ok (.iload_n 2, 1) := by decide +kernel
theorem dX2_bound_34 : decode cX2_bound 34 = .ok (.invokevirtual 107, 3) := by decide +kernel
theorem dX2_bound_37 : decode cX2_bound 37 = .ok (.ireturn, 1) := by decide +kernel
theorem dX2_steps_0 : decode cX2_steps 0 = .ok (.aload_n 0, 1) := by decide +kernel
theorem dX2_steps_1 : decode cX2_steps 1 = .ok (.iload_n 1, 1) := by decide +kernel
theorem dX2_steps_2 : decode cX2_steps 2 = .ok (.invokevirtual 93, 3) := by decide +kernel
theorem dX2_steps_5 : decode cX2_steps 5 = .ok (.aload_n 0, 1) := by decide +kernel
theorem dX2_steps_6 : decode cX2_steps 6 = .ok (.iload_n 1, 1) := by decide +kernel
theorem dX2_steps_7 : decode cX2_steps 7 = .ok (.invokevirtual 98, 3) := by decide +kernel
theorem dX2_steps_10 : decode cX2_steps 10 = .ok (.aload_n 0, 1) := by decide +kernel
theorem dX2_steps_11 : decode cX2_steps 11 = .ok (.getfield 38, 3) := by decide +kernel
theorem dX2_steps_14 : decode cX2_steps 14 = .ok (.invokevirtual 110, 3) := by decide +kernel
theorem dX2_steps_17 : decode cX2_steps 17 = .ok (.ireturn, 1) := by decide +kernel
theorem dX2_pair_0 : decode cX2_pair 0 = .ok (.aload_n 0, 1) := by decide +kernel
theorem dX2_pair_1 : decode cX2_pair 1 = .ok (.iload_n 1, 1) := by decide +kernel
theorem dX2_pair_2 : decode cX2_pair 2 = .ok (.invokevirtual 93, 3) := by decide +kernel
theorem dX2_pair_5 : decode cX2_pair 5 = .ok (.aload_n 0, 1) := by decide +kernel
theorem dX2_pair_6 : decode cX2_pair 6 = .ok (.iload_n 1, 1) := by decide +kernel
theorem dX2_pair_7 : decode cX2_pair 7 = .ok (.invokevirtual 98, 3) := by decide +kernel
theorem dX2_pair_10 : decode cX2_pair 10 = .ok (.aload_n 0, 1) := by decide +kernel
theorem dX2_pair_11 : decode cX2_pair 11 = .ok (.getfield 38, 3) := by decide +kernel
theorem dX2_pair_14 : decode cX2_pair 14 = .ok (.invokevirtual 110, 3) := by decide +kernel
theorem dX2_pair_17 : decode cX2_pair 17 = .ok (.istore_n 3, 1) := by decide +kernel
theorem dX2_pair_18 : decode cX2_pair 18 = .ok (.iload_n 2, 1) := by decide +kernel
theorem dX2_pair_19 : decode cX2_pair 19 = .ok (.ifCond .lt 8, 3) := by decide +kernel
theorem dX2_pair_22 : decode cX2_pair 22 = .ok (.iload_n 2, 1) := by decide +kernel
theorem dX2_pair_23 : decode cX2_pair 23 = .ok (.iload_n 3, 1) := by decide +kernel
theorem dX2_pair_24 : decode cX2_pair 24 = .ok (.if_icmp .lt 13, 3) := by decide +kernel
theorem dX2_pair_27 : decode cX2_pair 27 = .ok (.new 69, 3) := by decide +kernel
theorem dX2_pair_30 : decode cX2_pair 30 = .ok (.dup, 1) := by decide +kernel
theorem dX2_pair_31 : decode cX2_pair 31 = .ok (.ldc 114, 2) := by decide +kernel
theorem dX2_pair_33 : decode cX2_pair 33 = .ok (.invokespecial 73, 3) := by decide +kernel
theorem dX2_pair_36 : decode cX2_pair 36 = .ok (.athrow, 1) := by decide +kernel
theorem dX2_pair_37 : decode cX2_pair 37 = .ok (.aload_n 0, 1) := by decide +kernel
theorem dX2_pair_38 : decode cX2_pair 38 = .ok (.getfield 38, 3) := by decide +kernel
theorem dX2_pair_41 : decode cX2_pair 41 = .ok (.iload_n 2, 1) := by decide +kernel
theorem dX2_pair_42 : decode cX2_pair 42 = .ok (.invokevirtual 116, 3) := by decide +kernel
theorem dX2_pair_45 : decode cX2_pair 45 = .ok (.ireturn, 1) := by decide +kernel
theorem dX2_search_0 : decode cX2_search 0 = .ok (.iload_n 1, 1) := by decide +kernel
theorem dX2_search_1 : decode cX2_search 1 = .ok (.invokestatic 119, 3) := by decide +kernel
theorem dX2_search_4 : decode cX2_search 4 = .ok (.aload_n 0, 1) := by decide +kernel
theorem dX2_search_5 : decode cX2_search 5 = .ok (.invokevirtual 122, 3) := by decide +kernel
theorem dX2_search_8 : decode cX2_search 8 = .ok (.aload_n 0, 1) := by decide +kernel
theorem dX2_search_9 : decode cX2_search 9 = .ok (.aload_n 0, 1) := by decide +kernel
theorem dX2_search_10 : decode cX2_search 10 = .ok (.getfield 20, 3) := by decide +kernel
theorem dX2_search_13 : decode cX2_search 13 = .ok (.aload_n 0, 1) := by decide +kernel
theorem dX2_search_14 : decode cX2_search 14 = .ok (.getfield 26, 3) := by decide +kernel
theorem dX2_search_17 : decode cX2_search 17 = .ok (.bipush 16, 2) := by decide +kernel
theorem dX2_search_19 : decode cX2_search 19 = .ok (.iload_n 1, 1) := by decide +kernel
theorem dX2_search_20 : decode cX2_search 20 = .ok (.invokevirtual 125, 3) := by decide +kernel
theorem dX2_search_23 : decode cX2_search 23 = .ok (.ireturn, 1) := by decide +kernel
theorem dX2_checkWanted_0 : decode cX2_checkWanted 0 = .ok (.iload_n 0, 1) := by decide +kernel
theorem dX2_checkWanted_1 : decode cX2_checkWanted 1 = .ok (.iconst 1, 1) := by decide +kernel
theorem dX2_checkWanted_2 : decode cX2_checkWanted 2 = .ok (.if_icmp .lt 9, 3) := by decide +kernel
theorem dX2_checkWanted_5 : decode cX2_checkWanted 5 = .ok (.iload_n 0, 1) := by decide +kernel
theorem dX2_checkWanted_6 : decode cX2_checkWanted 6 = .ok (.bipush 12, 2) := by decide +kernel
theorem dX2_checkWanted_8 : decode cX2_checkWanted 8 = .ok (.if_icmp .le 13, 3) := by decide +kernel
theorem dX2_checkWanted_11 : decode cX2_checkWanted 11 = .ok (.new 52, 3) := by decide +kernel
theorem dX2_checkWanted_14 : decode cX2_checkWanted 14 = .ok (.dup, 1) := by decide +kernel
theorem dX2_checkWanted_15 : decode cX2_checkWanted 15 = .ok (.ldc 155, 2) := by decide +kernel
theorem dX2_checkWanted_17 : decode cX2_checkWanted 17 = .ok (.invokespecial 56, 3) := by decide +kernel
theorem dX2_checkWanted_20 : decode cX2_checkWanted 20 = .ok (.athrow, 1) := by decide +kernel
theorem dX2_checkWanted_21 : decode cX2_checkWanted 21 = .ok (.return_, 1) := by decide +kernel
theorem dX2_checkAnyRow_0 : decode cX2_checkAnyRow 0 = .ok (.aload_n 0, 1) := by decide +kernel
theorem dX2_checkAnyRow_1 : decode cX2_checkAnyRow 1 = .ok (.getfield 26, 3) := by decide +kernel
theorem dX2_checkAnyRow_4 : decode cX2_checkAnyRow 4 = .ok (.ifCond .ne 13, 3) := by decide +kernel
theorem dX2_checkAnyRow_7 : decode cX2_checkAnyRow 7 = .ok (.new 82, 3) := by decide +kernel
theorem dX2_checkAnyRow_10 : decode cX2_checkAnyRow 10 = .ok (.dup, 1) := by decide +kernel
theorem dX2_checkAnyRow_11 : decode cX2_checkAnyRow 11 = .ok (.ldc 153, 2) := by decide +kernel
theorem dX2_checkAnyRow_13 : decode cX2_checkAnyRow 13 = .ok (.invokespecial 86, 3) := by decide +kernel
theorem dX2_checkAnyRow_16 : decode cX2_checkAnyRow 16 = .ok (.athrow, 1) := by decide +kernel
theorem dX2_checkAnyRow_17 : decode cX2_checkAnyRow 17 = .ok (.return_, 1) := by decide +kernel
theorem dX2_searchAmong_0 : decode cX2_searchAmong 0 = .ok (.aload_n 0, 1) := by decide +kernel
theorem dX2_searchAmong_1 : decode cX2_searchAmong 1 = .ok (.getfield 45, 3) := by decide +kernel
theorem dX2_searchAmong_4 : decode cX2_searchAmong 4 = .ok (.iload 4, 2) := by decide +kernel
theorem dX2_searchAmong_6 : decode cX2_searchAmong 6 = .ok (.invokevirtual 65, 3) := by decide +kernel
theorem dX2_searchAmong_9 : decode cX2_searchAmong 9 = .ok (.aload_n 0, 1) := by decide +kernel
theorem dX2_searchAmong_10 : decode cX2_searchAmong 10 = .ok (.getfield 49, 3) := by decide +kernel
theorem dX2_searchAmong_13 : decode cX2_searchAmong 13 = .ok (.iconst 0, 1) := by decide +kernel
theorem dX2_searchAmong_14 : decode cX2_searchAmong 14 = .ok (.invokestatic 59, 3) := by decide +kernel
theorem dX2_searchAmong_17 : decode cX2_searchAmong 17 = .ok (.aload_n 0, 1) := by decide +kernel
theorem dX2_searchAmong_18 : decode cX2_searchAmong 18 = .ok (.getfield 38, 3) := by decide +kernel
theorem dX2_searchAmong_21 : decode cX2_searchAmong 21 = .ok (.aload_n 0, 1) := by decide +kernel
theorem dX2_searchAmong_22 : decode cX2_searchAmong 22 = .ok (.getfield 16, 3) := by decide +kernel
theorem dX2_searchAmong_25 : decode cX2_searchAmong 25 = .ok (.aload_n 0, 1) := by decide +kernel
theorem dX2_searchAmong_26 : decode cX2_searchAmong 26 = .ok (.getfield 9, 3) := by decide +kernel
theorem dX2_searchAmong_29 : decode cX2_searchAmong 29 = .ok (.aload_n 0, 1) := by decide +kernel
theorem dX2_searchAmong_30 : decode cX2_searchAmong 30 = .ok (.getfield 13, 3) := by decide +kernel
theorem dX2_searchAmong_33 : decode cX2_searchAmong 33 = .ok (.invokevirtual 157, 3) := by decide +kernel
theorem dX2_searchAmong_36 : decode cX2_searchAmong 36 = .ok (.iconst 0, 1) := by decide +kernel
theorem dX2_searchAmong_37 : decode cX2_searchAmong 37 = .ok (.istore 5, 2) := by decide +kernel
theorem dX2_searchAmong_39 : decode cX2_searchAmong 39 = .ok (.iload 5, 2) := by decide +kernel
theorem dX2_searchAmong_41 : decode cX2_searchAmong 41 = .ok (.iload_n 2, 1) := by decide +kernel
theorem dX2_searchAmong_42 : decode cX2_searchAmong 42 = .ok (.if_icmp .ge 27, 3) := by decide +kernel
theorem dX2_searchAmong_45 : decode cX2_searchAmong 45 = .ok (.aload_n 0, 1) := by decide +kernel
theorem dX2_searchAmong_46 : decode cX2_searchAmong 46 = .ok (.getfield 38, 3) := by decide +kernel
theorem dX2_searchAmong_49 : decode cX2_searchAmong 49 = .ok (.aload_n 1, 1) := by decide +kernel
theorem dX2_searchAmong_50 : decode cX2_searchAmong 50 = .ok (.iload 5, 2) := by decide +kernel
theorem dX2_searchAmong_52 : decode cX2_searchAmong 52 = .ok (.iload_n 3, 1) := by decide +kernel
theorem dX2_searchAmong_53 : decode cX2_searchAmong 53 = .ok (.imul, 1) := by decide +kernel
theorem dX2_searchAmong_54 : decode cX2_searchAmong 54 = .ok (.invokevirtual 161, 3) := by decide +kernel
theorem dX2_searchAmong_57 : decode cX2_searchAmong 57 = .ok (.aload_n 0, 1) := by decide +kernel
theorem dX2_searchAmong_58 : decode cX2_searchAmong 58 = .ok (.iload 5, 2) := by decide +kernel
theorem dX2_searchAmong_60 : decode cX2_searchAmong 60 = .ok (.invokevirtual 164, 3) := by decide +kernel
theorem dX2_searchAmong_63 : decode cX2_searchAmong 63 = .ok (.iinc 5 1, 3) := by decide +kernel
theorem dX2_searchAmong_66 : decode cX2_searchAmong 66 = .ok (.goto (-27), 3) := by decide +kernel
theorem dX2_searchAmong_69 : decode cX2_searchAmong 69 = .ok (.aload_n 0, 1) := by decide +kernel
theorem dX2_searchAmong_70 : decode cX2_searchAmong 70 = .ok (.getfield 45, 3) := by decide +kernel
theorem dX2_searchAmong_73 : decode cX2_searchAmong 73 = .ok (.getfield 129, 3) := by decide +kernel
theorem dX2_searchAmong_76 : decode cX2_searchAmong 76 = .ok (.ireturn, 1) := by decide +kernel
theorem dX2_weigh_0 : decode cX2_weigh 0 = .ok (.aload_n 0, 1) := by decide +kernel
theorem dX2_weigh_1 : decode cX2_weigh 1 = .ok (.getfield 45, 3) := by decide +kernel
theorem dX2_weigh_4 : decode cX2_weigh 4 = .ok (.invokevirtual 167, 3) := by decide +kernel
theorem dX2_weigh_7 : decode cX2_weigh 7 = .ok (.istore_n 2, 1) := by decide +kernel
theorem dX2_weigh_8 : decode cX2_weigh 8 = .ok (.iload_n 2, 1) := by decide +kernel
theorem dX2_weigh_9 : decode cX2_weigh 9 = .ok (.iconst (-1), 1) := by decide +kernel
theorem dX2_weigh_10 : decode cX2_weigh 10 = .ok (.if_icmp .ne 7, 3) := by decide +kernel
theorem dX2_weigh_13 : decode cX2_weigh 13 = .ok (.iconst (-1), 1) := by decide +kernel
theorem dX2_weigh_14 : decode cX2_weigh 14 = .ok (.goto 8, 3) := by decide +kernel
theorem dX2_weigh_17 : decode cX2_weigh 17 = .ok (.aload_n 0, 1) := by decide +kernel
theorem dX2_weigh_18 : decode cX2_weigh 18 = .ok (.iload_n 2, 1) := by decide +kernel
theorem dX2_weigh_19 : decode cX2_weigh 19 = .ok (.invokevirtual 170, 3) := by decide +kernel
theorem dX2_weigh_22 : decode cX2_weigh 22 = .ok (.istore_n 3, 1) := by decide +kernel
theorem dX2_weigh_23 : decode cX2_weigh 23 = .ok (.iload_n 3, 1) := by decide +kernel
theorem dX2_weigh_24 : decode cX2_weigh 24 = .ok (.iconst (-1), 1) := by decide +kernel
theorem dX2_weigh_25 : decode cX2_weigh 25 = .ok (.if_icmp .eq 14, 3) := by decide +kernel
theorem dX2_weigh_28 : decode cX2_weigh 28 = .ok (.aload_n 0, 1) := by decide +kernel
theorem dX2_weigh_29 : decode cX2_weigh 29 = .ok (.getfield 49, 3) := by decide +kernel
theorem dX2_weigh_32 : decode cX2_weigh 32 = .ok (.iload_n 3, 1) := by decide +kernel
theorem dX2_weigh_33 : decode cX2_weigh 33 = .ok (.dup2, 1) := by decide +kernel
theorem dX2_weigh_34 : decode cX2_weigh 34 = .ok (.iaload, 1) := by decide +kernel
theorem dX2_weigh_35 : decode cX2_weigh 35 = .ok (.iconst 1, 1) := by decide +kernel
theorem dX2_weigh_36 : decode cX2_weigh 36 = .ok (.iadd, 1) := by decide +kernel
theorem dX2_weigh_37 : decode cX2_weigh 37 = .ok (.iastore, 1) := by decide +kernel
theorem dX2_weigh_38 : decode cX2_weigh 38 = .ok (.return_, 1) := by decide +kernel
theorem dX2_weigh_39 : decode cX2_weigh 39 = .ok (.aload_n 0, 1) := by decide +kernel
theorem dX2_weigh_40 : decode cX2_weigh 40 = .ok (.getfield 49, 3) := by decide +kernel
theorem dX2_weigh_43 : decode cX2_weigh 43 = .ok (.iconst 3, 1) := by decide +kernel
theorem dX2_weigh_44 : decode cX2_weigh 44 = .ok (.dup2, 1) := by decide +kernel
theorem dX2_weigh_45 : decode cX2_weigh 45 = .ok (.iaload, 1) := by decide +kernel
theorem dX2_weigh_46 : decode cX2_weigh 46 = .ok (.iconst 1, 1) := by decide +kernel
theorem dX2_weigh_47 : decode cX2_weigh 47 = .ok (.iadd, 1) := by decide +kernel
theorem dX2_weigh_48 : decode cX2_weigh 48 = .ok (.iastore, 1) := by decide +kernel
theorem dX2_weigh_49 : decode cX2_weigh 49 = .ok (.aload_n 0, 1) := by decide +kernel
theorem dX2_weigh_50 : decode cX2_weigh 50 = .ok (.getfield 38, 3) := by decide +kernel
theorem dX2_weigh_53 : decode cX2_weigh 53 = .ok (.iload_n 2, 1) := by decide +kernel
theorem dX2_weigh_54 : decode cX2_weigh 54 = .ok (.invokevirtual 101, 3) := by decide +kernel
theorem dX2_weigh_57 : decode cX2_weigh 57 = .ok (.istore 4, 2) := by decide +kernel
theorem dX2_weigh_59 : decode cX2_weigh 59 = .ok (.iload 4, 2) := by decide +kernel
theorem dX2_weigh_61 : decode cX2_weigh 61 = .ok (.iconst (-1), 1) := by decide +kernel
theorem dX2_weigh_62 : decode cX2_weigh 62 = .ok (.if_icmp .ne 16, 3) := by decide +kernel
theorem dX2_weigh_65 : decode cX2_weigh 65 = .ok (.aload_n 0, 1) := by decide +kernel
theorem dX2_weigh_66 : decode cX2_weigh 66 = .ok (.getfield 49, 3) := by decide +kernel
theorem dX2_weigh_69 : decode cX2_weigh 69 = .ok (.iconst 4, 1) := by decide +kernel
theorem dX2_weigh_70 : decode cX2_weigh 70 = .ok (.dup2, 1) := by decide +kernel
theorem dX2_weigh_71 : decode cX2_weigh 71 = .ok (.iaload, 1) := by decide +kernel
theorem dX2_weigh_72 : decode cX2_weigh 72 = .ok (.iconst 1, 1) := by decide +kernel
theorem dX2_weigh_73 : decode cX2_weigh 73 = .ok (.iadd, 1) := by decide +kernel
theorem dX2_weigh_74 : decode cX2_weigh 74 = .ok (.iastore, 1) := by decide +kernel
theorem dX2_weigh_75 : decode cX2_weigh 75 = .ok (.goto 24, 3) := by decide +kernel
theorem dX2_weigh_78 : decode cX2_weigh 78 = .ok (.iload_n 2, 1) := by decide +kernel
theorem dX2_weigh_79 : decode cX2_weigh 79 = .ok (.iconst (-1), 1) := by decide +kernel
theorem dX2_weigh_80 : decode cX2_weigh 80 = .ok (.if_icmp .eq 9, 3) := by decide +kernel
theorem dX2_weigh_83 : decode cX2_weigh 83 = .ok (.iload 4, 2) := by decide +kernel
theorem dX2_weigh_85 : decode cX2_weigh 85 = .ok (.iload_n 2, 1) := by decide +kernel
theorem dX2_weigh_86 : decode cX2_weigh 86 = .ok (.if_icmp .ge 13, 3) := by decide +kernel
theorem dX2_weigh_89 : decode cX2_weigh 89 = .ok (.aload_n 0, 1) := by decide +kernel
theorem dX2_weigh_90 : decode cX2_weigh 90 = .ok (.getfield 45, 3) := by decide +kernel
theorem dX2_weigh_93 : decode cX2_weigh 93 = .ok (.iload_n 1, 1) := by decide +kernel
theorem dX2_weigh_94 : decode cX2_weigh 94 = .ok (.iload 4, 2) := by decide +kernel
theorem dX2_weigh_96 : decode cX2_weigh 96 = .ok (.invokevirtual 173, 3) := by decide +kernel
theorem dX2_weigh_99 : decode cX2_weigh 99 = .ok (.return_, 1) := by decide +kernel
theorem dX2_passingBound_0 : decode cX2_passingBound 0 = .ok (.iconst 0, 1) := by decide +kernel
theorem dX2_passingBound_1 : decode cX2_passingBound 1 = .ok (.istore_n 2, 1) := by decide +kernel
theorem dX2_passingBound_2 : decode cX2_passingBound 2 = .ok (.iload_n 2, 1) := by decide +kernel
theorem dX2_passingBound_3 : decode cX2_passingBound 3 = .ok (.iconst 2, 1) := by decide +kernel
theorem dX2_passingBound_4 : decode cX2_passingBound 4 = .ok (.if_icmp .gt 23, 3) := by decide +kernel
theorem dX2_passingBound_7 : decode cX2_passingBound 7 = .ok (.aload_n 0, 1) := by decide +kernel
theorem dX2_passingBound_8 : decode cX2_passingBound 8 = .ok (.getfield 38, 3) := by decide +kernel
theorem dX2_passingBound_11 : decode cX2_passingBound 11 = .ok (.iload_n 2, 1) := by decide +kernel
theorem dX2_passingBound_12 : decode cX2_passingBound 12 = .ok (.invokevirtual 107, 3) := by decide +kernel
theorem dX2_passingBound_15 : decode cX2_passingBound 15 = .ok (.iload_n 1, 1) := by decide +kernel
theorem dX2_passingBound_16 : decode cX2_passingBound 16 = .ok (.if_icmp .lt 5, 3) := by decide +kernel
theorem dX2_passingBound_19 : decode cX2_passingBound 19 = .ok (.iload_n 2, 1) := by decide +kernel
theorem dX2_passingBound_20 : decode cX2_passingBound 20 = .ok (.ireturn, 1) := by decide +kernel
theorem dX2_passingBound_21 : decode cX2_passingBound 21 = .ok (.iinc 2 1, 3) := by decide +kernel
theorem dX2_passingBound_24 : decode cX2_passingBound 24 = .ok (.goto (-22), 3) := by decide +kernel
theorem dX2_passingBound_27 : decode cX2_passingBound 27 = .ok (.iconst (-1), 1) := by decide +kernel
theorem dX2_passingBound_28 : decode cX2_passingBound 28 = .ok (.ireturn, 1) := by decide +kernel
theorem dX2_found_0 : decode cX2_found 0 = .ok (.iload_n 1, 1) := by decide +kernel
theorem dX2_found_1 : decode cX2_found 1 = .ok (.ifCond .lt 14, 3) := by decide +kernel
theorem dX2_found_4 : decode cX2_found 4 = .ok (.iload_n 1, 1) := by decide +kernel
theorem dX2_found_5 : decode cX2_found 5 = .ok (.aload_n 0, 1) := by decide +kernel
theorem dX2_found_6 : decode cX2_found 6 = .ok (.getfield 45, 3) := by decide +kernel
theorem dX2_found_9 : decode cX2_found 9 = .ok (.getfield 129, 3) := by decide +kernel
theorem dX2_found_12 : decode cX2_found 12 = .ok (.if_icmp .lt 13, 3) := by decide +kernel
theorem dX2_found_15 : decode cX2_found 15 = .ok (.new 69, 3) := by decide +kernel
theorem dX2_found_18 : decode cX2_found 18 = .ok (.dup, 1) := by decide +kernel
theorem dX2_found_19 : decode cX2_found 19 = .ok (.ldc 132, 2) := by decide +kernel
theorem dX2_found_21 : decode cX2_found 21 = .ok (.invokespecial 73, 3) := by decide +kernel
theorem dX2_found_24 : decode cX2_found 24 = .ok (.athrow, 1) := by decide +kernel
theorem dX2_found_25 : decode cX2_found 25 = .ok (.iload_n 2, 1) := by decide +kernel
theorem dX2_found_26 : decode cX2_found 26 = .ok (.ifCond .eq 15, 3) := by decide +kernel
theorem dX2_found_29 : decode cX2_found 29 = .ok (.aload_n 0, 1) := by decide +kernel
theorem dX2_found_30 : decode cX2_found 30 = .ok (.getfield 45, 3) := by decide +kernel
theorem dX2_found_33 : decode cX2_found 33 = .ok (.getfield 134, 3) := by decide +kernel
theorem dX2_found_36 : decode cX2_found 36 = .ok (.iload_n 1, 1) := by decide +kernel
theorem dX2_found_37 : decode cX2_found 37 = .ok (.iaload, 1) := by decide +kernel
theorem dX2_found_38 : decode cX2_found 38 = .ok (.goto 12, 3) := by decide +kernel
theorem dX2_found_41 : decode cX2_found 41 = .ok (.aload_n 0, 1) := by decide +kernel
theorem dX2_found_42 : decode cX2_found 42 = .ok (.getfield 45, 3) := by decide +kernel
theorem dX2_found_45 : decode cX2_found 45 = .ok (.getfield 137, 3) := by decide +kernel
theorem dX2_found_48 : decode cX2_found 48 = .ok (.iload_n 1, 1) := by decide +kernel
theorem dX2_found_49 : decode cX2_found 49 = .ok (.iaload, 1) := by decide +kernel
theorem dX2_found_50 : decode cX2_found 50 = .ok (.ireturn, 1) := by decide +kernel
theorem dX2_guess_0 : decode cX2_guess 0 = .ok (.iload_n 1, 1) := by decide +kernel
theorem dX2_guess_1 : decode cX2_guess 1 = .ok (.invokestatic 119, 3) := by decide +kernel
theorem dX2_guess_4 : decode cX2_guess 4 = .ok (.aload_n 0, 1) := by decide +kernel
theorem dX2_guess_5 : decode cX2_guess 5 = .ok (.invokevirtual 122, 3) := by decide +kernel
theorem dX2_guess_8 : decode cX2_guess 8 = .ok (.aload_n 0, 1) := by decide +kernel
theorem dX2_guess_9 : decode cX2_guess 9 = .ok (.aload_n 0, 1) := by decide +kernel
theorem dX2_guess_10 : decode cX2_guess 10 = .ok (.getfield 20, 3) := by decide +kernel
theorem dX2_guess_13 : decode cX2_guess 13 = .ok (.aload_n 0, 1) := by decide +kernel
theorem dX2_guess_14 : decode cX2_guess 14 = .ok (.getfield 26, 3) := by decide +kernel
theorem dX2_guess_17 : decode cX2_guess 17 = .ok (.bipush 16, 2) := by decide +kernel
theorem dX2_guess_19 : decode cX2_guess 19 = .ok (.iload_n 1, 1) := by decide +kernel
theorem dX2_guess_20 : decode cX2_guess 20 = .ok (.invokevirtual 125, 3) := by decide +kernel
theorem dX2_guess_23 : decode cX2_guess 23 = .ok (.istore_n 2, 1) := by decide +kernel
theorem dX2_guess_24 : decode cX2_guess 24 = .ok (.iconst (-1), 1) := by decide +kernel
theorem dX2_guess_25 : decode cX2_guess 25 = .ok (.istore_n 3, 1) := by decide +kernel
theorem dX2_guess_26 : decode cX2_guess 26 = .ok (.iconst 0, 1) := by decide +kernel
theorem dX2_guess_27 : decode cX2_guess 27 = .ok (.istore 4, 2) := by decide +kernel
theorem dX2_guess_29 : decode cX2_guess 29 = .ok (.iconst 0, 1) := by decide +kernel
theorem dX2_guess_30 : decode cX2_guess 30 = .ok (.istore 5, 2) := by decide +kernel
theorem dX2_guess_32 : decode cX2_guess 32 = .ok (.iload 5, 2) := by decide +kernel
theorem dX2_guess_34 : decode cX2_guess 34 = .ok (.iload_n 2, 1) := by decide +kernel
theorem dX2_guess_35 : decode cX2_guess 35 = .ok (.if_icmp .ge 48, 3) := by decide +kernel
theorem dX2_guess_38 : decode cX2_guess 38 = .ok (.aload_n 0, 1) := by decide +kernel
theorem dX2_guess_39 : decode cX2_guess 39 = .ok (.getfield 23, 3) := by decide +kernel
theorem dX2_guess_42 : decode cX2_guess 42 = .ok (.aload_n 0, 1) := by decide +kernel
theorem dX2_guess_43 : decode cX2_guess 43 = .ok (.getfield 45, 3) := by decide +kernel
theorem dX2_guess_46 : decode cX2_guess 46 = .ok (.getfield 137, 3) := by decide +kernel
theorem dX2_guess_49 : decode cX2_guess 49 = .ok (.iload 5, 2) := by decide +kernel
theorem dX2_guess_51 : decode cX2_guess 51 = .ok (.iaload, 1) := by decide +kernel
theorem dX2_guess_52 : decode cX2_guess 52 = .ok (.iaload, 1) := by decide +kernel
theorem dX2_guess_53 : decode cX2_guess 53 = .ok (.istore 6, 2) := by decide +kernel
theorem dX2_guess_55 : decode cX2_guess 55 = .ok (.aload_n 0, 1) := by decide +kernel
theorem dX2_guess_56 : decode cX2_guess 56 = .ok (.iload 6, 2) := by decide +kernel
theorem dX2_guess_58 : decode cX2_guess 58 = .ok (.invokevirtual 140, 3) := by decide +kernel
theorem dX2_guess_61 : decode cX2_guess 61 = .ok (.istore 7, 2) := by decide +kernel
theorem dX2_guess_63 : decode cX2_guess 63 = .ok (.iload 7, 2) := by decide +kernel
theorem dX2_guess_65 : decode cX2_guess 65 = .ok (.iload 4, 2) := by decide +kernel
theorem dX2_guess_67 : decode cX2_guess 67 = .ok (.if_icmp .le 10, 3) := by decide +kernel
theorem dX2_guess_70 : decode cX2_guess 70 = .ok (.iload 7, 2) := by decide +kernel
theorem dX2_guess_72 : decode cX2_guess 72 = .ok (.istore 4, 2) := by decide +kernel
theorem dX2_guess_74 : decode cX2_guess 74 = .ok (.iload 6, 2) := by decide +kernel
theorem dX2_guess_76 : decode cX2_guess 76 = .ok (.istore_n 3, 1) := by decide +kernel
theorem dX2_guess_77 : decode cX2_guess 77 = .ok (.iinc 5 1, 3) := by decide +kernel
theorem dX2_guess_80 : decode cX2_guess 80 = .ok (.goto (-48), 3) := by decide +kernel
theorem dX2_guess_83 : decode cX2_guess 83 = .ok (.iload_n 3, 1) := by decide +kernel
theorem dX2_guess_84 : decode cX2_guess 84 = .ok (.ireturn, 1) := by decide +kernel
theorem dX2_votesFor_0 : decode cX2_votesFor 0 = .ok (.iconst 0, 1) := by decide +kernel
theorem dX2_votesFor_1 : decode cX2_votesFor 1 = .ok (.istore_n 2, 1) := by decide +kernel
theorem dX2_votesFor_2 : decode cX2_votesFor 2 = .ok (.iconst 0, 1) := by decide +kernel
theorem dX2_votesFor_3 : decode cX2_votesFor 3 = .ok (.istore_n 3, 1) := by decide +kernel
theorem dX2_votesFor_4 : decode cX2_votesFor 4 = .ok (.iload_n 3, 1) := by decide +kernel
theorem dX2_votesFor_5 : decode cX2_votesFor 5 = .ok (.aload_n 0, 1) := by decide +kernel
theorem dX2_votesFor_6 : decode cX2_votesFor 6 = .ok (.getfield 45, 3) := by decide +kernel
theorem dX2_votesFor_9 : decode cX2_votesFor 9 = .ok (.getfield 129, 3) := by decide +kernel
theorem dX2_votesFor_12 : decode cX2_votesFor 12 = .ok (.if_icmp .ge 30, 3) := by decide +kernel
theorem dX2_votesFor_15 : decode cX2_votesFor 15 = .ok (.aload_n 0, 1) := by decide +kernel
theorem dX2_votesFor_16 : decode cX2_votesFor 16 = .ok (.getfield 23, 3) := by decide +kernel
theorem dX2_votesFor_19 : decode cX2_votesFor 19 = .ok (.aload_n 0, 1) := by decide +kernel
theorem dX2_votesFor_20 : decode cX2_votesFor 20 = .ok (.getfield 45, 3) := by decide +kernel
theorem dX2_votesFor_23 : decode cX2_votesFor 23 = .ok (.getfield 137, 3) := by decide +kernel
theorem dX2_votesFor_26 : decode cX2_votesFor 26 = .ok (.iload_n 3, 1) := by decide +kernel
theorem dX2_votesFor_27 : decode cX2_votesFor 27 = .ok (.iaload, 1) := by decide +kernel
theorem dX2_votesFor_28 : decode cX2_votesFor 28 = .ok (.iaload, 1) := by decide +kernel
theorem dX2_votesFor_29 : decode cX2_votesFor 29 = .ok (.iload_n 1, 1) := by decide +kernel
theorem dX2_votesFor_30 : decode cX2_votesFor 30 = .ok (.if_icmp .ne 6, 3) := by decide +kernel
theorem dX2_votesFor_33 : decode cX2_votesFor 33 = .ok (.iinc 2 1, 3) := by decide +kernel
theorem dX2_votesFor_36 : decode cX2_votesFor 36 = .ok (.iinc 3 1, 3) := by decide +kernel
theorem dX2_votesFor_39 : decode cX2_votesFor 39 = .ok (.goto (-35), 3) := by decide +kernel
theorem dX2_votesFor_42 : decode cX2_votesFor 42 = .ok (.iload_n 2, 1) := by decide +kernel
theorem dX2_votesFor_43 : decode cX2_votesFor 43 = .ok (.ireturn, 1) := by decide +kernel
theorem dX2_count_0 : decode cX2_count 0 = .ok (.iload_n 1, 1) := by decide +kernel
theorem dX2_count_1 : decode cX2_count 1 = .ok (.ifCond .lt 8, 3) := by decide +kernel
theorem dX2_count_4 : decode cX2_count 4 = .ok (.iload_n 1, 1) := by decide +kernel
theorem dX2_count_5 : decode cX2_count 5 = .ok (.iconst 4, 1) := by decide +kernel
theorem dX2_count_6 : decode cX2_count 6 = .ok (.if_icmp .le 13, 3) := by decide +kernel
theorem dX2_count_9 : decode cX2_count 9 = .ok (.new 52, 3) := by decide +kernel
theorem dX2_count_12 : decode cX2_count 12 = .ok (.dup, 1) := by decide +kernel
theorem dX2_count_13 : decode cX2_count 13 = .ok (.ldc 143, 2) := by decide +kernel
theorem dX2_count_15 : decode cX2_count 15 = .ok (.invokespecial 56, 3) := by decide +kernel
theorem dX2_count_18 : decode cX2_count 18 = .ok (.athrow, 1) := by decide +kernel
theorem dX2_count_19 : decode cX2_count 19 = .ok (.aload_n 0, 1) := by decide +kernel
theorem dX2_count_20 : decode cX2_count 20 = .ok (.getfield 49, 3) := by decide +kernel
theorem dX2_count_23 : decode cX2_count 23 = .ok (.iload_n 1, 1) := by decide +kernel
theorem dX2_count_24 : decode cX2_count 24 = .ok (.iaload, 1) := by decide +kernel
theorem dX2_count_25 : decode cX2_count 25 = .ok (.ireturn, 1) := by decide +kernel
theorem dX2_push_0 : decode cX2_push 0 = .ok (.iload_n 1, 1) := by decide +kernel
theorem dX2_push_1 : decode cX2_push 1 = .ok (.invokestatic 74, 3) := by decide +kernel
theorem dX2_push_4 : decode cX2_push 4 = .ok (.ifCond .ne 13, 3) := by decide +kernel
theorem dX2_push_7 : decode cX2_push 7 = .ok (.new 52, 3) := by decide +kernel
theorem dX2_push_10 : decode cX2_push 10 = .ok (.dup, 1) := by decide +kernel
theorem dX2_push_11 : decode cX2_push 11 = .ok (.ldc 78, 2) := by decide +kernel
theorem dX2_push_13 : decode cX2_push 13 = .ok (.invokespecial 56, 3) := by decide +kernel
theorem dX2_push_16 : decode cX2_push 16 = .ok (.athrow, 1) := by decide +kernel
theorem dX2_push_17 : decode cX2_push 17 = .ok (.aload_n 0, 1) := by decide +kernel
theorem dX2_push_18 : decode cX2_push 18 = .ok (.getfield 32, 3) := by decide +kernel
theorem dX2_push_21 : decode cX2_push 21 = .ok (.bipush 64, 2) := by decide +kernel
theorem dX2_push_23 : decode cX2_push 23 = .ok (.if_icmp .lt 13, 3) := by decide +kernel
theorem dX2_push_26 : decode cX2_push 26 = .ok (.new 82, 3) := by decide +kernel
theorem dX2_push_29 : decode cX2_push 29 = .ok (.dup, 1) := by decide +kernel
theorem dX2_push_30 : decode cX2_push 30 = .ok (.ldc 145, 2) := by decide +kernel
theorem dX2_push_32 : decode cX2_push 32 = .ok (.invokespecial 86, 3) := by decide +kernel
theorem dX2_push_35 : decode cX2_push 35 = .ok (.athrow, 1) := by decide +kernel
theorem dX2_push_36 : decode cX2_push 36 = .ok (.aload_n 0, 1) := by decide +kernel
theorem dX2_push_37 : decode cX2_push 37 = .ok (.getfield 29, 3) := by decide +kernel
theorem dX2_push_40 : decode cX2_push 40 = .ok (.aload_n 0, 1) := by decide +kernel
theorem dX2_push_41 : decode cX2_push 41 = .ok (.getfield 32, 3) := by decide +kernel
theorem dX2_push_44 : decode cX2_push 44 = .ok (.iload_n 1, 1) := by decide +kernel
theorem dX2_push_45 : decode cX2_push 45 = .ok (.iastore, 1) := by decide +kernel
theorem dX2_push_46 : decode cX2_push 46 = .ok (.aload_n 0, 1) := by decide +kernel
theorem dX2_push_47 : decode cX2_push 47 = .ok (.dup, 1) := by decide +kernel
theorem dX2_push_48 : decode cX2_push 48 = .ok (.getfield 32, 3) := by decide +kernel
theorem dX2_push_51 : decode cX2_push 51 = .ok (.iconst 1, 1) := by decide +kernel
theorem dX2_push_52 : decode cX2_push 52 = .ok (.iadd, 1) := by decide +kernel
theorem dX2_push_53 : decode cX2_push 53 = .ok (.putfield 32, 3) := by decide +kernel
theorem dX2_push_56 : decode cX2_push 56 = .ok (.aload_n 0, 1) := by decide +kernel
theorem dX2_push_57 : decode cX2_push 57 = .ok (.getfield 32, 3) := by decide +kernel
theorem dX2_push_60 : decode cX2_push 60 = .ok (.ireturn, 1) := by decide +kernel
theorem dX2_scan_0 : decode cX2_scan 0 = .ok (.iload_n 1, 1) := by decide +kernel
theorem dX2_scan_1 : decode cX2_scan 1 = .ok (.invokestatic 119, 3) := by decide +kernel
theorem dX2_scan_4 : decode cX2_scan 4 = .ok (.aload_n 0, 1) := by decide +kernel
theorem dX2_scan_5 : decode cX2_scan 5 = .ok (.getfield 32, 3) := by decide +kernel
theorem dX2_scan_8 : decode cX2_scan 8 = .ok (.aload_n 0, 1) := by decide +kernel
theorem dX2_scan_9 : decode cX2_scan 9 = .ok (.getfield 9, 3) := by decide +kernel
theorem dX2_scan_12 : decode cX2_scan 12 = .ok (.if_icmp .ge 13, 3) := by decide +kernel
theorem dX2_scan_15 : decode cX2_scan 15 = .ok (.new 82, 3) := by decide +kernel
theorem dX2_scan_18 : decode cX2_scan 18 = .ok (.dup, 1) := by decide +kernel
theorem dX2_scan_19 : decode cX2_scan 19 = .ok (.ldc 147, 2) := by decide +kernel
theorem dX2_scan_21 : decode cX2_scan 21 = .ok (.invokespecial 86, 3) := by decide +kernel
theorem dX2_scan_24 : decode cX2_scan 24 = .ok (.athrow, 1) := by decide +kernel
theorem dX2_scan_25 : decode cX2_scan 25 = .ok (.aload_n 0, 1) := by decide +kernel
theorem dX2_scan_26 : decode cX2_scan 26 = .ok (.aload_n 0, 1) := by decide +kernel
theorem dX2_scan_27 : decode cX2_scan 27 = .ok (.getfield 29, 3) := by decide +kernel
theorem dX2_scan_30 : decode cX2_scan 30 = .ok (.aload_n 0, 1) := by decide +kernel
theorem dX2_scan_31 : decode cX2_scan 31 = .ok (.getfield 32, 3) := by decide +kernel
theorem dX2_scan_34 : decode cX2_scan 34 = .ok (.aload_n 0, 1) := by decide +kernel
theorem dX2_scan_35 : decode cX2_scan 35 = .ok (.getfield 9, 3) := by decide +kernel
theorem dX2_scan_38 : decode cX2_scan 38 = .ok (.isub, 1) := by decide +kernel
theorem dX2_scan_39 : decode cX2_scan 39 = .ok (.iconst 1, 1) := by decide +kernel
theorem dX2_scan_40 : decode cX2_scan 40 = .ok (.iadd, 1) := by decide +kernel
theorem dX2_scan_41 : decode cX2_scan 41 = .ok (.iconst 1, 1) := by decide +kernel
theorem dX2_scan_42 : decode cX2_scan 42 = .ok (.iload_n 1, 1) := by decide +kernel
theorem dX2_scan_43 : decode cX2_scan 43 = .ok (.invokevirtual 125, 3) := by decide +kernel
theorem dX2_scan_46 : decode cX2_scan 46 = .ok (.ireturn, 1) := by decide +kernel
theorem dX2_shift_0 : decode cX2_shift 0 = .ok (.iload_n 1, 1) := by decide +kernel
theorem dX2_shift_1 : decode cX2_shift 1 = .ok (.ifCond .lt 11, 3) := by decide +kernel
theorem dX2_shift_4 : decode cX2_shift 4 = .ok (.iload_n 1, 1) := by decide +kernel
theorem dX2_shift_5 : decode cX2_shift 5 = .ok (.aload_n 0, 1) := by decide +kernel
theorem dX2_shift_6 : decode cX2_shift 6 = .ok (.getfield 32, 3) := by decide +kernel
theorem dX2_shift_9 : decode cX2_shift 9 = .ok (.if_icmp .le 13, 3) := by decide +kernel
theorem dX2_shift_12 : decode cX2_shift 12 = .ok (.new 52, 3) := by decide +kernel
theorem dX2_shift_15 : decode cX2_shift 15 = .ok (.dup, 1) := by decide +kernel
theorem dX2_shift_16 : decode cX2_shift 16 = .ok (.ldc 149, 2) := by decide +kernel
theorem dX2_shift_18 : decode cX2_shift 18 = .ok (.invokespecial 56, 3) := by decide +kernel
theorem dX2_shift_21 : decode cX2_shift 21 = .ok (.athrow, 1) := by decide +kernel
theorem dX2_shift_22 : decode cX2_shift 22 = .ok (.aload_n 0, 1) := by decide +kernel
theorem dX2_shift_23 : decode cX2_shift 23 = .ok (.getfield 29, 3) := by decide +kernel
theorem dX2_shift_26 : decode cX2_shift 26 = .ok (.iload_n 1, 1) := by decide +kernel
theorem dX2_shift_27 : decode cX2_shift 27 = .ok (.aload_n 0, 1) := by decide +kernel
theorem dX2_shift_28 : decode cX2_shift 28 = .ok (.getfield 29, 3) := by decide +kernel
theorem dX2_shift_31 : decode cX2_shift 31 = .ok (.iconst 0, 1) := by decide +kernel
theorem dX2_shift_32 : decode cX2_shift 32 = .ok (.aload_n 0, 1) := by decide +kernel
theorem dX2_shift_33 : decode cX2_shift 33 = .ok (.getfield 32, 3) := by decide +kernel
theorem dX2_shift_36 : decode cX2_shift 36 = .ok (.iload_n 1, 1) := by decide +kernel
theorem dX2_shift_37 : decode cX2_shift 37 = .ok (.isub, 1) := by decide +kernel
theorem dX2_shift_38 : decode cX2_shift 38 = .ok (.invokestatic 87, 3) := by decide +kernel
theorem dX2_shift_41 : decode cX2_shift 41 = .ok (.aload_n 0, 1) := by decide +kernel
theorem dX2_shift_42 : decode cX2_shift 42 = .ok (.dup, 1) := by decide +kernel
theorem dX2_shift_43 : decode cX2_shift 43 = .ok (.getfield 32, 3) := by decide +kernel
theorem dX2_shift_46 : decode cX2_shift 46 = .ok (.iload_n 1, 1) := by decide +kernel
theorem dX2_shift_47 : decode cX2_shift 47 = .ok (.isub, 1) := by decide +kernel
theorem dX2_shift_48 : decode cX2_shift 48 = .ok (.putfield 32, 3) := by decide +kernel
theorem dX2_shift_51 : decode cX2_shift 51 = .ok (.return_, 1) := by decide +kernel
end
section
theorem dX3_init_0 : decode cX3_init 0 = .ok (.aload_n 0, 1) := by decide +kernel
theorem dX3_init_1 : decode cX3_init 1 = .ok (.invokespecial 1, 3) := by decide +kernel
theorem dX3_init_4 : decode cX3_init 4 = .ok (.aload_n 0, 1) := by decide +kernel
theorem dX3_init_5 : decode cX3_init 5 = .ok (.iconst 2, 1) := by decide +kernel
theorem dX3_init_6 : decode cX3_init 6 = .ok (.putfield 7, 3) := by decide +kernel
theorem dX3_init_9 : decode cX3_init 9 = .ok (.aload_n 0, 1) := by decide +kernel
theorem dX3_init_10 : decode cX3_init 10 = .ok (.bipush 16, 2) := by decide +kernel
theorem dX3_init_12 : decode cX3_init 12 = .ok (.newarray .int, 2) := by decide +kernel
theorem dX3_init_14 : decode cX3_init 14 = .ok (.putfield 13, 3) := by decide +kernel
theorem dX3_init_17 : decode cX3_init 17 = .ok (.aload_n 0, 1) := by decide +kernel
theorem dX3_init_18 : decode cX3_init 18 = .ok (.sipush 192, 3) := by decide +kernel
theorem dX3_init_21 : decode cX3_init 21 = .ok (.newarray .int, 2) := by decide +kernel
theorem dX3_init_23 : decode cX3_init 23 = .ok (.putfield 17, 3) := by decide +kernel
theorem dX3_init_26 : decode cX3_init 26 = .ok (.aload_n 0, 1) := by decide +kernel
theorem dX3_init_27 : decode cX3_init 27 = .ok (.bipush 12, 2) := by decide +kernel
theorem dX3_init_29 : decode cX3_init 29 = .ok (.newarray .int, 2) := by decide +kernel
theorem dX3_init_31 : decode cX3_init 31 = .ok (.putfield 20, 3) := by decide +kernel
theorem dX3_init_34 : decode cX3_init 34 = .ok (.aload_n 0, 1) := by decide +kernel
theorem dX3_init_35 : decode cX3_init 35 = .ok (.bipush 64, 2) := by decide +kernel
theorem dX3_init_37 : decode cX3_init 37 = .ok (.newarray .int, 2) := by decide +kernel
theorem dX3_init_39 : decode cX3_init 39 = .ok (.putfield 23, 3) := by decide +kernel
theorem dX3_init_42 : decode cX3_init 42 = .ok (.aload_n 0, 1) := by decide +kernel
theorem dX3_init_43 : decode cX3_init 43 = .ok (.bipush 16, 2) := by decide +kernel
theorem dX3_init_45 : decode cX3_init 45 = .ok (.newarray .int, 2) := by decide +kernel
theorem dX3_init_47 : decode cX3_init 47 = .ok (.putfield 26, 3) := by decide +kernel
theorem dX3_init_50 : decode cX3_init 50 = .ok (.aload_n 0, 1) := by decide +kernel
theorem dX3_init_51 : decode cX3_init 51 = .ok (.sipush 256, 3) := by decide +kernel
theorem dX3_init_54 : decode cX3_init 54 = .ok (.newarray .int, 2) := by decide +kernel
theorem dX3_init_56 : decode cX3_init 56 = .ok (.putfield 29, 3) := by decide +kernel
theorem dX3_init_59 : decode cX3_init 59 = .ok (.aload_n 0, 1) := by decide +kernel
theorem dX3_init_60 : decode cX3_init 60 = .ok (.bipush 32, 2) := by decide +kernel
theorem dX3_init_62 : decode cX3_init 62 = .ok (.newarray .int, 2) := by decide +kernel
theorem dX3_init_64 : decode cX3_init 64 = .ok (.putfield 32, 3) := by decide +kernel
theorem dX3_init_67 : decode cX3_init 67 = .ok (.aload_n 0, 1) := by decide +kernel
theorem dX3_init_68 : decode cX3_init 68 = .ok (.bipush 13, 2) := by decide +kernel
theorem dX3_init_70 : decode cX3_init 70 = .ok (.newarray .int, 2) := by decide +kernel
theorem dX3_init_72 : decode cX3_init 72 = .ok (.putfield 35, 3) := by decide +kernel
theorem dX3_init_75 : decode cX3_init 75 = .ok (.aload_n 0, 1) := by decide +kernel
theorem dX3_init_76 : decode cX3_init 76 = .ok (.bipush 13, 2) := by decide +kernel
theorem dX3_init_78 : decode cX3_init 78 = .ok (.newarray .int, 2) := by decide +kernel
theorem dX3_init_80 : decode cX3_init 80 = .ok (.putfield 38, 3) := by decide +kernel
theorem dX3_init_83 : decode cX3_init 83 = .ok (.aload_n 0, 1) := by decide +kernel
theorem dX3_init_84 : decode cX3_init 84 = .ok (.iconst 5, 1) := by decide +kernel
theorem dX3_init_85 : decode cX3_init 85 = .ok (.newarray .int, 2) := by decide +kernel
theorem dX3_init_87 : decode cX3_init 87 = .ok (.putfield 41, 3) := by decide +kernel
theorem dX3_init_90 : decode cX3_init 90 = .ok (.return_, 1) := by decide +kernel
theorem dX3_thrown_0 : decode cX3_thrown 0 = .ok (.aload_n 0, 1) := by decide +kernel
theorem dX3_thrown_1 : decode cX3_thrown 1 = .ok (.getfield 44, 3) := by decide +kernel
theorem dX3_thrown_4 : decode cX3_thrown 4 = .ok (.ireturn, 1) := by decide +kernel
theorem dX3_begin_0 : decode cX3_begin 0 = .ok (.aload_n 0, 1) := by decide +kernel
theorem dX3_begin_1 : decode cX3_begin 1 = .ok (.iload_n 1, 1) := by decide +kernel
theorem dX3_begin_2 : decode cX3_begin 2 = .ok (.iconst 2, 1) := by decide +kernel
theorem dX3_begin_3 : decode cX3_begin 3 = .ok (.bipush 16, 2) := by decide +kernel
theorem dX3_begin_5 : decode cX3_begin 5 = .ok (.invokestatic 47, 3) := by decide +kernel
theorem dX3_begin_8 : decode cX3_begin 8 = .ok (.ifCond .eq 7, 3) := by decide +kernel
theorem dX3_begin_11 : decode cX3_begin 11 = .ok (.iconst 0, 1) := by decide +kernel
theorem dX3_begin_12 : decode cX3_begin 12 = .ok (.goto 4, 3) := by decide +kernel
theorem dX3_begin_15 : decode cX3_begin 15 = .ok (.iconst 1, 1) := by decide +kernel
theorem dX3_begin_16 : decode cX3_begin 16 = .ok (.putfield 44, 3) := by decide +kernel
theorem dX3_begin_19 : decode cX3_begin 19 = .ok (.aload_n 0, 1) := by decide +kernel
theorem dX3_begin_20 : decode cX3_begin 20 = .ok (.getfield 44, 3) := by decide +kernel
theorem dX3_begin_23 : decode cX3_begin 23 = .ok (.ifCond .ne 39, 3) := by decide +kernel
theorem dX3_begin_26 : decode cX3_begin 26 = .ok (.aload_n 0, 1) := by decide +kernel
theorem dX3_begin_27 : decode cX3_begin 27 = .ok (.iload_n 1, 1) := by decide +kernel
theorem dX3_begin_28 : decode cX3_begin 28 = .ok (.putfield 7, 3) := by decide +kernel
theorem dX3_begin_31 : decode cX3_begin 31 = .ok (.aload_n 0, 1) := by decide +kernel
theorem dX3_begin_32 : decode cX3_begin 32 = .ok (.iconst 0, 1) := by decide +kernel
theorem dX3_begin_33 : decode cX3_begin 33 = .ok (.putfield 51, 3) := by decide +kernel
theorem dX3_begin_36 : decode cX3_begin 36 = .ok (.aload_n 0, 1) := by decide +kernel
theorem dX3_begin_37 : decode cX3_begin 37 = .ok (.iconst 0, 1) := by decide +kernel
theorem dX3_begin_38 : decode cX3_begin 38 = .ok (.putfield 54, 3) := by decide +kernel
theorem dX3_begin_41 : decode cX3_begin 41 = .ok (.iconst 0, 1) := by decide +kernel
theorem dX3_begin_42 : decode cX3_begin 42 = .ok (.istore_n 2, 1) := by decide +kernel
theorem dX3_begin_43 : decode cX3_begin 43 = .ok (.iload_n 2, 1) := by decide +kernel
theorem dX3_begin_44 : decode cX3_begin 44 = .ok (.bipush 16, 2) := by decide +kernel
theorem dX3_begin_46 : decode cX3_begin 46 = .ok (.if_icmp .ge 16, 3) := by decide +kernel
theorem dX3_begin_49 : decode cX3_begin 49 = .ok (.aload_n 0, 1) := by decide +kernel
theorem dX3_begin_50 : decode cX3_begin 50 = .ok (.getfield 13, 3) := by decide +kernel
theorem dX3_begin_53 : decode cX3_begin 53 = .ok (.iload_n 2, 1) := by decide +kernel
theorem dX3_begin_54 : decode cX3_begin 54 = .ok (.iconst 0, 1) := by decide +kernel
theorem dX3_begin_55 : decode cX3_begin 55 = .ok (.iastore, 1) := by decide +kernel
theorem dX3_begin_56 : decode cX3_begin 56 = .ok (.iinc 2 1, 3) := by decide +kernel
theorem dX3_begin_59 : decode cX3_begin 59 = .ok (.goto (-16), 3) := by decide +kernel
theorem dX3_begin_62 : decode cX3_begin 62 = .ok (.return_, 1) := by decide +kernel
theorem dX3_within_0 : decode cX3_within 0 = .ok (.iload_n 0, 1) := by decide +kernel
theorem dX3_within_1 : decode cX3_within 1 = .ok (.iload_n 1, 1) := by decide +kernel
theorem dX3_within_2 : decode cX3_within 2 = .ok (.if_icmp .lt 12, 3) := by decide +kernel
theorem dX3_within_5 : decode cX3_within 5 = .ok (.iload_n 0, 1) := by decide +kernel
theorem dX3_within_6 : decode cX3_within 6 = .ok (.iload_n 2, 1) := by decide +kernel
theorem dX3_within_7 : decode cX3_within 7 = .ok (.if_icmp .gt 7, 3) := by decide +kernel
theorem dX3_within_10 : decode cX3_within 10 = .ok (.iconst 1, 1) := by decide +kernel
theorem dX3_within_11 : decode cX3_within 11 = .ok (.goto 4, 3) := by decide +kernel
theorem dX3_within_14 : decode cX3_within 14 = .ok (.iconst 0, 1) := by decide +kernel
theorem dX3_within_15 : decode cX3_within 15 = .ok (.ireturn, 1) := by decide +kernel
theorem dX3_ask_0 : decode cX3_ask 0 = .ok (.aload_n 0, 1) := by decide +kernel
theorem dX3_ask_1 : decode cX3_ask 1 = .ok (.iload_n 1, 1) := by decide +kernel
theorem dX3_ask_2 : decode cX3_ask 2 = .ok (.iconst 0, 1) := by decide +kernel
theorem dX3_ask_3 : decode cX3_ask 3 = .ok (.aload_n 0, 1) := by decide +kernel
theorem dX3_ask_4 : decode cX3_ask 4 = .ok (.getfield 7, 3) := by decide +kernel
theorem dX3_ask_7 : decode cX3_ask 7 = .ok (.iconst 1, 1) := by decide +kernel
theorem dX3_ask_8 : decode cX3_ask 8 = .ok (.isub, 1) := by decide +kernel
theorem dX3_ask_9 : decode cX3_ask 9 = .ok (.invokestatic 47, 3) := by decide +kernel
theorem dX3_ask_12 : decode cX3_ask 12 = .ok (.ifCond .ne 7, 3) := by decide +kernel
theorem dX3_ask_15 : decode cX3_ask 15 = .ok (.iconst 1, 1) := by decide +kernel
theorem dX3_ask_16 : decode cX3_ask 16 = .ok (.goto 21, 3) := by decide +kernel
theorem dX3_ask_19 : decode cX3_ask 19 = .ok (.iload_n 2, 1) := by decide +kernel
theorem dX3_ask_20 : decode cX3_ask 20 = .ok (.sipush (-1000), 3) := by decide +kernel
theorem dX3_ask_23 : decode cX3_ask 23 = .ok (.sipush 1000, 3) := by decide +kernel
theorem dX3_ask_26 : decode cX3_ask 26 = .ok (.invokestatic 47, 3) := by decide +kernel
theorem dX3_ask_29 : decode cX3_ask 29 = .ok (.ifCond .eq 7, 3) := by decide +kernel
theorem dX3_ask_32 : decode cX3_ask 32 = .ok (.iconst 0, 1) := by decide +kernel
theorem dX3_ask_33 : decode cX3_ask 33 = .ok (.goto 4, 3) := by decide +kernel
theorem dX3_ask_36 : decode cX3_ask 36 = .ok (.iconst 2, 1) := by decide +kernel
theorem dX3_ask_37 : decode cX3_ask 37 = .ok (.putfield 44, 3) := by decide +kernel
theorem dX3_ask_40 : decode cX3_ask 40 = .ok (.aload_n 0, 1) := by decide +kernel
theorem dX3_ask_41 : decode cX3_ask 41 = .ok (.getfield 44, 3) := by decide +kernel
theorem dX3_ask_44 : decode cX3_ask 44 = .ok (.ifCond .le 5, 3) := by decide +kernel
theorem dX3_ask_47 : decode cX3_ask 47 = .ok (.iconst 0, 1) := by decide +kernel
theorem dX3_ask_48 : decode cX3_ask 48 = .ok (.ireturn, 1) := by decide +kernel
theorem dX3_ask_49 : decode cX3_ask 49 = .ok (.aload_n 0, 1) := by decide +kernel
theorem dX3_ask_50 : decode cX3_ask 50 = .ok (.getfield 13, 3) := by decide +kernel
theorem dX3_ask_53 : decode cX3_ask 53 = .ok (.iload_n 1, 1) := by decide +kernel
theorem dX3_ask_54 : decode cX3_ask 54 = .ok (.iaload, 1) := by decide +kernel
theorem dX3_ask_55 : decode cX3_ask 55 = .ok (.istore_n 3, 1) := by decide +kernel
theorem dX3_ask_56 : decode cX3_ask 56 = .ok (.aload_n 0, 1) := by decide +kernel
theorem dX3_ask_57 : decode cX3_ask 57 = .ok (.getfield 13, 3) := by decide +kernel
theorem dX3_ask_60 : decode cX3_ask 60 = .ok (.iload_n 1, 1) := by decide +kernel
theorem dX3_ask_61 : decode cX3_ask 61 = .ok (.iload_n 2, 1) := by decide +kernel
theorem dX3_ask_62 : decode cX3_ask 62 = .ok (.iastore, 1) := by decide +kernel
theorem dX3_ask_63 : decode cX3_ask 63 = .ok (.iload_n 3, 1) := by decide +kernel
theorem dX3_ask_64 : decode cX3_ask 64 = .ok (.ireturn, 1) := by decide +kernel
theorem dX3_keep_0 : decode cX3_keep 0 = .ok (.aload_n 0, 1) := by decide +kernel
theorem dX3_keep_1 : decode cX3_keep 1 = .ok (.iload_n 1, 1) := by decide +kernel
theorem dX3_keep_2 : decode cX3_keep 2 = .ok (.iconst 0, 1) := by decide +kernel
theorem dX3_keep_3 : decode cX3_keep 3 = .ok (.bipush 7, 2) := by decide +kernel
theorem dX3_keep_5 : decode cX3_keep 5 = .ok (.invokestatic 47, 3) := by decide +kernel
theorem dX3_keep_8 : decode cX3_keep 8 = .ok (.ifCond .ne 7, 3) := by decide +kernel
theorem dX3_keep_11 : decode cX3_keep 11 = .ok (.iconst 1, 1) := by decide +kernel
theorem dX3_keep_12 : decode cX3_keep 12 = .ok (.goto 17, 3) := by decide +kernel
theorem dX3_keep_15 : decode cX3_keep 15 = .ok (.aload_n 0, 1) := by decide +kernel
theorem dX3_keep_16 : decode cX3_keep 16 = .ok (.getfield 51, 3) := by decide +kernel
theorem dX3_keep_19 : decode cX3_keep 19 = .ok (.bipush 12, 2) := by decide +kernel
theorem dX3_keep_21 : decode cX3_keep 21 = .ok (.if_icmp .ne 7, 3) := by decide +kernel
theorem dX3_keep_24 : decode cX3_keep 24 = .ok (.iconst 2, 1) := by decide +kernel
theorem dX3_keep_25 : decode cX3_keep 25 = .ok (.goto 4, 3) := by decide +kernel
theorem dX3_keep_28 : decode cX3_keep 28 = .ok (.iconst 0, 1) := by decide +kernel
theorem dX3_keep_29 : decode cX3_keep 29 = .ok (.putfield 44, 3) := by decide +kernel
theorem dX3_keep_32 : decode cX3_keep 32 = .ok (.aload_n 0, 1) := by decide +kernel
theorem dX3_keep_33 : decode cX3_keep 33 = .ok (.getfield 44, 3) := by decide +kernel
theorem dX3_keep_36 : decode cX3_keep 36 = .ok (.ifCond .le 5, 3) := by decide +kernel
theorem dX3_keep_39 : decode cX3_keep 39 = .ok (.iconst 0, 1) := by decide +kernel
theorem dX3_keep_40 : decode cX3_keep 40 = .ok (.ireturn, 1) := by decide +kernel
theorem dX3_keep_41 : decode cX3_keep 41 = .ok (.iconst 0, 1) := by decide +kernel
theorem dX3_keep_42 : decode cX3_keep 42 = .ok (.istore_n 2, 1) := by decide +kernel
theorem dX3_keep_43 : decode cX3_keep 43 = .ok (.iload_n 2, 1) := by decide +kernel
theorem dX3_keep_44 : decode cX3_keep 44 = .ok (.aload_n 0, 1) := by decide +kernel
theorem dX3_keep_45 : decode cX3_keep 45 = .ok (.getfield 7, 3) := by decide +kernel
theorem dX3_keep_48 : decode cX3_keep 48 = .ok (.if_icmp .ge 29, 3) := by decide +kernel
theorem dX3_keep_51 : decode cX3_keep 51 = .ok (.aload_n 0, 1) := by decide +kernel
theorem dX3_keep_52 : decode cX3_keep 52 = .ok (.getfield 17, 3) := by decide +kernel
theorem dX3_keep_55 : decode cX3_keep 55 = .ok (.bipush 16, 2) := by decide +kernel
theorem dX3_keep_57 : decode cX3_keep 57 = .ok (.aload_n 0, 1) := by decide +kernel
theorem dX3_keep_58 : decode cX3_keep 58 = .ok (.getfield 51, 3) := by decide +kernel
theorem dX3_keep_61 : decode cX3_keep 61 = .ok (.imul, 1) := by decide +kernel
theorem dX3_keep_62 : decode cX3_keep 62 = .ok (.iload_n 2, 1) := by decide +kernel
theorem dX3_keep_63 : decode cX3_keep 63 = .ok (.iadd, 1) := by decide +kernel
theorem dX3_keep_64 : decode cX3_keep 64 = .ok (.aload_n 0, 1) := by decide +kernel
theorem dX3_keep_65 : decode cX3_keep 65 = .ok (.getfield 13, 3) := by decide +kernel
theorem dX3_keep_68 : decode cX3_keep 68 = .ok (.iload_n 2, 1) := by decide +kernel
theorem dX3_keep_69 : decode cX3_keep 69 = .ok (.iaload, 1) := by decide +kernel
theorem dX3_keep_70 : decode cX3_keep 70 = .ok (.iastore, 1) := by decide +kernel
theorem dX3_keep_71 : decode cX3_keep 71 = .ok (.iinc 2 1, 3) := by decide +kernel
theorem dX3_keep_74 : decode cX3_keep 74 = .ok (.goto (-31), 3) := by decide +kernel
theorem dX3_keep_77 : decode cX3_keep 77 = .ok (.aload_n 0, 1) := by decide +kernel
theorem dX3_keep_78 : decode cX3_keep 78 = .ok (.getfield 20, 3) := by decide +kernel
theorem dX3_keep_81 : decode cX3_keep 81 = .ok (.aload_n 0, 1) := by decide +kernel
theorem dX3_keep_82 : decode cX3_keep 82 = .ok (.getfield 51, 3) := by decide +kernel
theorem dX3_keep_85 : decode cX3_keep 85 = .ok (.iload_n 1, 1) := by decide +kernel
theorem dX3_keep_86 : decode cX3_keep 86 = .ok (.iastore, 1) := by decide +kernel
theorem dX3_keep_87 : decode cX3_keep 87 = .ok (.aload_n 0, 1) := by decide +kernel
theorem dX3_keep_88 : decode cX3_keep 88 = .ok (.dup, 1) := by decide +kernel
theorem dX3_keep_89 : decode cX3_keep 89 = .ok (.getfield 51, 3) := by decide +kernel
theorem dX3_keep_92 : decode cX3_keep 92 = .ok (.iconst 1, 1) := by decide +kernel
theorem dX3_keep_93 : decode cX3_keep 93 = .ok (.iadd, 1) := by decide +kernel
theorem dX3_keep_94 : decode cX3_keep 94 = .ok (.putfield 51, 3) := by decide +kernel
theorem dX3_keep_97 : decode cX3_keep 97 = .ok (.aload_n 0, 1) := by decide +kernel
theorem dX3_keep_98 : decode cX3_keep 98 = .ok (.getfield 51, 3) := by decide +kernel
theorem dX3_keep_101 : decode cX3_keep 101 = .ok (.iconst 1, 1) := by decide +kernel
theorem dX3_keep_102 : decode cX3_keep 102 = .ok (.isub, 1) := by decide +kernel
theorem dX3_keep_103 : decode cX3_keep 103 = .ok (.ireturn, 1) := by decide +kernel
theorem dX3_recall_0 : decode cX3_recall 0 = .ok (.aload_n 0, 1) := by decide +kernel
theorem dX3_recall_1 : decode cX3_recall 1 = .ok (.iload_n 1, 1) := by decide +kernel
theorem dX3_recall_2 : decode cX3_recall 2 = .ok (.invokevirtual 57, 3) := by decide +kernel
theorem dX3_recall_5 : decode cX3_recall 5 = .ok (.ifCond .eq 36, 3) := by decide +kernel
theorem dX3_recall_8 : decode cX3_recall 8 = .ok (.iconst 0, 1) := by decide +kernel
theorem dX3_recall_9 : decode cX3_recall 9 = .ok (.istore_n 2, 1) := by decide +kernel
theorem dX3_recall_10 : decode cX3_recall 10 = .ok (.iload_n 2, 1) := by decide +kernel
theorem dX3_recall_11 : decode cX3_recall 11 = .ok (.aload_n 0, 1) := by decide +kernel
theorem dX3_recall_12 : decode cX3_recall 12 = .ok (.getfield 7, 3) := by decide +kernel
theorem dX3_recall_15 : decode cX3_recall 15 = .ok (.if_icmp .ge 26, 3) := by decide +kernel
theorem dX3_recall_18 : decode cX3_recall 18 = .ok (.aload_n 0, 1) := by decide +kernel
theorem dX3_recall_19 : decode cX3_recall 19 = .ok (.getfield 13, 3) := by decide +kernel
theorem dX3_recall_22 : decode cX3_recall 22 = .ok (.iload_n 2, 1) := by decide +kernel
theorem dX3_recall_23 : decode cX3_recall 23 = .ok (.aload_n 0, 1) := by decide +kernel
theorem dX3_recall_24 : decode cX3_recall 24 = .ok (.getfield 17, 3) := by decide +kernel
theorem dX3_recall_27 : decode cX3_recall 27 = .ok (.bipush 16, 2) := by decide +kernel
theorem dX3_recall_29 : decode cX3_recall 29 = .ok (.iload_n 1, 1) := by decide +kernel
theorem dX3_recall_30 : decode cX3_recall 30 = .ok (.imul, 1) := by decide +kernel
theorem dX3_recall_31 : decode cX3_recall 31 = .ok (.iload_n 2, 1) := by decide +kernel
theorem dX3_recall_32 : decode cX3_recall 32 = .ok (.iadd, 1) := by decide +kernel
theorem dX3_recall_33 : decode cX3_recall 33 = .ok (.iaload, 1) := by decide +kernel
theorem dX3_recall_34 : decode cX3_recall 34 = .ok (.iastore, 1) := by decide +kernel
theorem dX3_recall_35 : decode cX3_recall 35 = .ok (.iinc 2 1, 3) := by decide +kernel
theorem dX3_recall_38 : decode cX3_recall 38 = .ok (.goto (-28), 3) := by decide +kernel
theorem dX3_recall_41 : decode cX3_recall 41 = .ok (.return_, 1) := by decide +kernel
theorem dX3_isRow_0 : decode cX3_isRow 0 = .ok (.aload_n 0, 1) := by decide +kernel
theorem dX3_isRow_1 : decode cX3_isRow 1 = .ok (.iload_n 1, 1) := by decide +kernel
theorem dX3_isRow_2 : decode cX3_isRow 2 = .ok (.iconst 0, 1) := by decide +kernel
theorem dX3_isRow_3 : decode cX3_isRow 3 = .ok (.aload_n 0, 1) := by decide +kernel
theorem dX3_isRow_4 : decode cX3_isRow 4 = .ok (.getfield 51, 3) := by decide +kernel
theorem dX3_isRow_7 : decode cX3_isRow 7 = .ok (.iconst 1, 1) := by decide +kernel
theorem dX3_isRow_8 : decode cX3_isRow 8 = .ok (.isub, 1) := by decide +kernel
theorem dX3_isRow_9 : decode cX3_isRow 9 = .ok (.invokestatic 47, 3) := by decide +kernel
theorem dX3_isRow_12 : decode cX3_isRow 12 = .ok (.ifCond .eq 7, 3) := by decide +kernel
theorem dX3_isRow_15 : decode cX3_isRow 15 = .ok (.iconst 0, 1) := by decide +kernel
theorem dX3_isRow_16 : decode cX3_isRow 16 = .ok (.goto 4, 3) := by decide +kernel
theorem dX3_isRow_19 : decode cX3_isRow 19 = .ok (.iconst 1, 1) := by decide +kernel
theorem dX3_isRow_20 : decode cX3_isRow 20 = .ok (.putfield 44, 3) := by decide +kernel
theorem dX3_isRow_23 : decode cX3_isRow 23 = .ok (.aload_n 0, 1) := by decide +kernel
theorem dX3_isRow_24 : decode cX3_isRow 24 = .ok (.getfield 44, 3) := by decide +kernel
theorem dX3_isRow_27 : decode cX3_isRow 27 = .ok (.ifCond .ne 7, 3) := by decide +kernel
theorem dX3_isRow_30 : decode cX3_isRow 30 = .ok (.iconst 1, 1) := by decide +kernel
theorem dX3_isRow_31 : decode cX3_isRow 31 = .ok (.goto 4, 3) := by decide +kernel
theorem dX3_isRow_34 : decode cX3_isRow 34 = .ok (.iconst 0, 1) := by decide +kernel
theorem dX3_isRow_35 : decode cX3_isRow 35 = .ok (.ireturn, 1) := by decide +kernel
theorem dX3_band_0 : decode cX3_band 0 = .ok (.aload_n 0, 1) := by decide +kernel
theorem dX3_band_1 : decode cX3_band 1 = .ok (.iload_n 1, 1) := by decide +kernel
theorem dX3_band_2 : decode cX3_band 2 = .ok (.iconst 0, 1) := by decide +kernel
theorem dX3_band_3 : decode cX3_band 3 = .ok (.bipush 15, 2) := by decide +kernel
theorem dX3_band_5 : decode cX3_band 5 = .ok (.invokestatic 47, 3) := by decide +kernel
theorem dX3_band_8 : decode cX3_band 8 = .ok (.ifCond .eq 7, 3) := by decide +kernel
theorem dX3_band_11 : decode cX3_band 11 = .ok (.iconst 0, 1) := by decide +kernel
theorem dX3_band_12 : decode cX3_band 12 = .ok (.goto 4, 3) := by decide +kernel
theorem dX3_band_15 : decode cX3_band 15 = .ok (.iconst 1, 1) := by decide +kernel
theorem dX3_band_16 : decode cX3_band 16 = .ok (.putfield 44, 3) := by decide +kernel
theorem dX3_band_19 : decode cX3_band 19 = .ok (.aload_n 0, 1) := by decide +kernel
theorem dX3_band_20 : decode cX3_band 20 = .ok (.getfield 44, 3) := by decide +kernel
theorem dX3_band_23 : decode cX3_band 23 = .ok (.ifCond .le 5, 3) := by decide +kernel
theorem dX3_band_26 : decode cX3_band 26 = .ok (.iconst 0, 1) := by decide +kernel
theorem dX3_band_27 : decode cX3_band 27 = .ok (.ireturn, 1) := by decide +kernel
theorem dX3_band_28 : decode cX3_band 28 = .ok (.aload_n 0, 1) := by decide +kernel
theorem dX3_band_29 : decode cX3_band 29 = .ok (.getfield 61, 3) := by decide +kernel
theorem dX3_band_32 : decode cX3_band 32 = .ok (.istore_n 2, 1) := by decide +kernel
theorem dX3_band_33 : decode cX3_band 33 = .ok (.aload_n 0, 1) := by decide +kernel
theorem dX3_band_34 : decode cX3_band 34 = .ok (.iload_n 1, 1) := by decide +kernel
theorem dX3_band_35 : decode cX3_band 35 = .ok (.putfield 61, 3) := by decide +kernel
theorem dX3_band_38 : decode cX3_band 38 = .ok (.iload_n 2, 1) := by decide +kernel
theorem dX3_band_39 : decode cX3_band 39 = .ok (.ireturn, 1) := by decide +kernel
theorem dX3_distance_0 : decode cX3_distance 0 = .ok (.aload_n 0, 1) := by decide +kernel
theorem dX3_distance_1 : decode cX3_distance 1 = .ok (.iload_n 1, 1) := by decide +kernel
theorem dX3_distance_2 : decode cX3_distance 2 = .ok (.invokevirtual 57, 3) := by decide +kernel
theorem dX3_distance_5 : decode cX3_distance 5 = .ok (.ifCond .ne 5, 3) := by decide +kernel
theorem dX3_distance_8 : decode cX3_distance 8 = .ok (.iconst 0, 1) := by decide +kernel
theorem dX3_distance_9 : decode cX3_distance 9 = .ok (.ireturn, 1) := by decide +kernel
theorem dX3_distance_10 : decode cX3_distance 10 = .ok (.aload_n 0, 1) := by decide +kernel
theorem dX3_distance_11 : decode cX3_distance 11 = .ok (.iload_n 1, 1) := by decide +kernel
theorem dX3_distance_12 : decode cX3_distance 12 = .ok (.invokevirtual 75, 3) := by decide +kernel
theorem dX3_distance_15 : decode cX3_distance 15 = .ok (.aload_n 0, 1) := by decide +kernel
theorem dX3_distance_16 : decode cX3_distance 16 = .ok (.invokevirtual 79, 3) := by decide +kernel
theorem dX3_distance_19 : decode cX3_distance 19 = .ok (.aload_n 0, 1) := by decide +kernel
theorem dX3_distance_20 : decode cX3_distance 20 = .ok (.aload_n 0, 1) := by decide +kernel
theorem dX3_distance_21 : decode cX3_distance 21 = .ok (.getfield 7, 3) := by decide +kernel
theorem dX3_distance_24 : decode cX3_distance 24 = .ok (.iconst 1, 1) := by decide +kernel
theorem dX3_distance_25 : decode cX3_distance 25 = .ok (.isub, 1) := by decide +kernel
theorem dX3_distance_26 : decode cX3_distance 26 = .ok (.aload_n 0, 1) := by decide +kernel
theorem dX3_distance_27 : decode cX3_distance 27 = .ok (.getfield 7, 3) := by decide +kernel
theorem dX3_distance_30 : decode cX3_distance 30 = .ok (.iconst 1, 1) := by decide +kernel
theorem dX3_distance_31 : decode cX3_distance 31 = .ok (.isub, 1) := by decide +kernel
theorem dX3_distance_32 : decode cX3_distance 32 = .ok (.invokevirtual 68, 3) := by decide +kernel
theorem dX3_distance_35 : decode cX3_distance 35 = .ok (.ireturn, 1) := by decide +kernel
theorem dX3_takeRow_0 : decode cX3_takeRow 0 = .ok (.iconst 0, 1) := by decide +kernel
theorem dX3_takeRow_1 : decode cX3_takeRow 1 = .ok (.istore_n 2, 1) := by decide +kernel
theorem dX3_takeRow_2 : decode cX3_takeRow 2 = .ok (.iload_n 2, 1) := by decide +kernel
theorem dX3_takeRow_3 : decode cX3_takeRow 3 = .ok (.aload_n 0, 1) := by decide +kernel
theorem dX3_takeRow_4 : decode cX3_takeRow 4 = .ok (.getfield 7, 3) := by decide +kernel
theorem dX3_takeRow_7 : decode cX3_takeRow 7 = .ok (.if_icmp .ge 26, 3) := by decide +kernel
theorem dX3_takeRow_10 : decode cX3_takeRow 10 = .ok (.aload_n 0, 1) := by decide +kernel
theorem dX3_takeRow_11 : decode cX3_takeRow 11 = .ok (.getfield 26, 3) := by decide +kernel
theorem dX3_takeRow_14 : decode cX3_takeRow 14 = .ok (.iload_n 2, 1) := by decide +kernel
theorem dX3_takeRow_15 : decode cX3_takeRow 15 = .ok (.aload_n 0, 1) := by decide +kernel
theorem dX3_takeRow_16 : decode cX3_takeRow 16 = .ok (.getfield 17, 3) := by decide +kernel
theorem dX3_takeRow_19 : decode cX3_takeRow 19 = .ok (.bipush 16, 2) := by decide +kernel
theorem dX3_takeRow_21 : decode cX3_takeRow 21 = .ok (.iload_n 1, 1) := by decide +kernel
theorem dX3_takeRow_22 : decode cX3_takeRow 22 = .ok (.imul, 1) := by decide +kernel
theorem dX3_takeRow_23 : decode cX3_takeRow 23 = .ok (.iload_n 2, 1) := by decide +kernel
theorem dX3_takeRow_24 : decode cX3_takeRow 24 = .ok (.iadd, 1) := by decide +kernel
theorem dX3_takeRow_25 : decode cX3_takeRow 25 = .ok (.iaload, 1) := by decide +kernel
theorem dX3_takeRow_26 : decode cX3_takeRow 26 = .ok (.iastore, 1) := by decide +kernel
theorem dX3_takeRow_27 : decode cX3_takeRow 27 = .ok (.iinc 2 1, 3) := by decide +kernel
theorem dX3_takeRow_30 : decode cX3_takeRow 30 = .ok (.goto (-28), 3) := by decide +kernel
theorem dX3_takeRow_33 : decode cX3_takeRow 33 = .ok (.return_, 1) := by decide +kernel
theorem dX3_fill_0 : decode cX3_fill 0 = .ok (.iconst 0, 1) := by decide +kernel
theorem dX3_fill_1 : decode cX3_fill 1 = .ok (.istore_n 1, 1) := by decide +kernel
theorem dX3_fill_2 : decode cX3_fill 2 = .ok (.iload_n 1, 1) := by decide +kernel
theorem dX3_fill_3 : decode cX3_fill 3 = .ok (.aload_n 0, 1) := by decide +kernel
theorem dX3_fill_4 : decode cX3_fill 4 = .ok (.getfield 7, 3) := by decide +kernel
theorem dX3_fill_7 : decode cX3_fill 7 = .ok (.if_icmp .ge 109, 3) := by decide +kernel
theorem dX3_fill_10 : decode cX3_fill 10 = .ok (.iconst 0, 1) := by decide +kernel
theorem dX3_fill_11 : decode cX3_fill 11 = .ok (.istore_n 2, 1) := by decide +kernel
theorem dX3_fill_12 : decode cX3_fill 12 = .ok (.iload_n 2, 1) := by decide +kernel
theorem dX3_fill_13 : decode cX3_fill 13 = .ok (.aload_n 0, 1) := by decide +kernel
theorem dX3_fill_14 : decode cX3_fill 14 = .ok (.getfield 7, 3) := by decide +kernel
theorem dX3_fill_17 : decode cX3_fill 17 = .ok (.if_icmp .ge 93, 3) := by decide +kernel
theorem dX3_fill_20 : decode cX3_fill 20 = .ok (.aload_n 0, 1) := by decide +kernel
theorem dX3_fill_21 : decode cX3_fill 21 = .ok (.iload_n 2, 1) := by decide +kernel
theorem dX3_fill_22 : decode cX3_fill 22 = .ok (.iload_n 1, 1) := by decide +kernel
theorem dX3_fill_23 : decode cX3_fill 23 = .ok (.invokevirtual 64, 3) := by decide +kernel
theorem dX3_fill_26 : decode cX3_fill 26 = .ok (.ifCond .eq 78, 3) := by decide +kernel
theorem dX3_fill_29 : decode cX3_fill 29 = .ok (.aload_n 0, 1) := by decide +kernel
theorem dX3_fill_30 : decode cX3_fill 30 = .ok (.getfield 13, 3) := by decide +kernel
theorem dX3_fill_33 : decode cX3_fill 33 = .ok (.iload_n 2, 1) := by decide +kernel
theorem dX3_fill_34 : decode cX3_fill 34 = .ok (.iaload, 1) := by decide +kernel
theorem dX3_fill_35 : decode cX3_fill 35 = .ok (.aload_n 0, 1) := by decide +kernel
theorem dX3_fill_36 : decode cX3_fill 36 = .ok (.getfield 26, 3) := by decide +kernel
theorem dX3_fill_39 : decode cX3_fill 39 = .ok (.iload_n 1, 1) := by decide +kernel
theorem dX3_fill_40 : decode cX3_fill 40 = .ok (.iaload, 1) := by decide +kernel
theorem dX3_fill_41 : decode cX3_fill 41 = .ok (.isub, 1) := by decide +kernel
theorem dX3_fill_42 : decode cX3_fill 42 = .ok (.istore_n 3, 1) := by decide +kernel
theorem dX3_fill_43 : decode cX3_fill 43 = .ok (.aload_n 0, 1) := by decide +kernel
theorem dX3_fill_44 : decode cX3_fill 44 = .ok (.iload_n 2, 1) := by decide +kernel
theorem dX3_fill_45 : decode cX3_fill 45 = .ok (.iconst 1, 1) := by decide +kernel
theorem dX3_fill_46 : decode cX3_fill 46 = .ok (.isub, 1) := by decide +kernel
theorem dX3_fill_47 : decode cX3_fill 47 = .ok (.iload_n 1, 1) := by decide +kernel
theorem dX3_fill_48 : decode cX3_fill 48 = .ok (.iconst 1, 1) := by decide +kernel
theorem dX3_fill_49 : decode cX3_fill 49 = .ok (.isub, 1) := by decide +kernel
theorem dX3_fill_50 : decode cX3_fill 50 = .ok (.invokevirtual 68, 3) := by decide +kernel
theorem dX3_fill_53 : decode cX3_fill 53 = .ok (.aload_n 0, 1) := by decide +kernel
theorem dX3_fill_54 : decode cX3_fill 54 = .ok (.iload_n 2, 1) := by decide +kernel
theorem dX3_fill_55 : decode cX3_fill 55 = .ok (.iconst 1, 1) := by decide +kernel
theorem dX3_fill_56 : decode cX3_fill 56 = .ok (.isub, 1) := by decide +kernel
theorem dX3_fill_57 : decode cX3_fill 57 = .ok (.iload_n 1, 1) := by decide +kernel
theorem dX3_fill_58 : decode cX3_fill 58 = .ok (.invokevirtual 68, 3) := by decide +kernel
theorem dX3_fill_61 : decode cX3_fill 61 = .ok (.aload_n 0, 1) := by decide +kernel
theorem dX3_fill_62 : decode cX3_fill 62 = .ok (.iload_n 2, 1) := by decide +kernel
theorem dX3_fill_63 : decode cX3_fill 63 = .ok (.iload_n 1, 1) := by decide +kernel
theorem dX3_fill_64 : decode cX3_fill 64 = .ok (.iconst 1, 1) := by decide +kernel
theorem dX3_fill_65 : decode cX3_fill 65 = .ok (.isub, 1) := by decide +kernel
theorem dX3_fill_66 : decode cX3_fill 66 = .ok (.invokevirtual 68, 3) := by decide +kernel
theorem dX3_fill_69 : decode cX3_fill 69 = .ok (.invokestatic 72, 3) := by decide +kernel
theorem dX3_fill_72 : decode cX3_fill 72 = .ok (.invokestatic 72, 3) := by decide +kernel
theorem dX3_fill_75 : decode cX3_fill 75 = .ok (.istore 4, 2) := by decide +kernel
theorem dX3_fill_77 : decode cX3_fill 77 = .ok (.aload_n 0, 1) := by decide +kernel
theorem dX3_fill_78 : decode cX3_fill 78 = .ok (.getfield 29, 3) := by decide +kernel
theorem dX3_fill_81 : decode cX3_fill 81 = .ok (.bipush 16, 2) := by decide +kernel
theorem dX3_fill_83 : decode cX3_fill 83 = .ok (.iload_n 2, 1) := by decide +kernel
theorem dX3_fill_84 : decode cX3_fill 84 = .ok (.imul, 1) := by decide +kernel
theorem dX3_fill_85 : decode cX3_fill 85 = .ok (.iload_n 1, 1) := by decide +kernel
theorem dX3_fill_86 : decode cX3_fill 86 = .ok (.iadd, 1) := by decide +kernel
theorem dX3_fill_87 : decode cX3_fill 87 = .ok (.iload_n 3, 1) := by decide +kernel
theorem dX3_fill_88 : decode cX3_fill 88 = .ok (.iload_n 3, 1) := by decide +kernel
theorem dX3_fill_89 : decode cX3_fill 89 = .ok (.imul, 1) := by decide +kernel
theorem dX3_fill_90 : decode cX3_fill 90 = .ok (.iload_n 2, 1) := by decide +kernel
theorem dX3_fill_91 : decode cX3_fill 91 = .ok (.iload_n 1, 1) := by decide +kernel
theorem dX3_fill_92 : decode cX3_fill 92 = .ok (.iadd, 1) := by decide +kernel
theorem dX3_fill_93 : decode cX3_fill 93 = .ok (.ifCond .ne 7, 3) := by decide +kernel
theorem dX3_fill_96 : decode cX3_fill 96 = .ok (.iconst 0, 1) := by decide +kernel
theorem dX3_fill_97 : decode cX3_fill 97 = .ok (.goto 5, 3) := by decide +kernel
theorem dX3_fill_100 : decode cX3_fill 100 = .ok (.iload 4, 2) := by decide +kernel
theorem dX3_fill_102 : decode cX3_fill 102 = .ok (.iadd, 1) := by decide +kernel
theorem dX3_fill_103 : decode cX3_fill 103 = .ok (.iastore, 1) := by decide +kernel
theorem dX3_fill_104 : decode cX3_fill 104 = .ok (.iinc 2 1, 3) := by decide +kernel
theorem dX3_fill_107 : decode cX3_fill 107 = .ok (.goto (-95), 3) := by decide +kernel
theorem dX3_fill_110 : decode cX3_fill 110 = .ok (.iinc 1 1, 3) := by decide +kernel
theorem dX3_fill_113 : decode cX3_fill 113 = .ok (.goto (-111), 3) := by decide +kernel
theorem dX3_fill_116 : decode cX3_fill 116 = .ok (.return_, 1) := by decide +kernel
theorem dX3_inBand_0 : decode cX3_inBand 0 = .ok (.iload_n 1, 1) := by decide +kernel
theorem dX3_inBand_1 : decode cX3_inBand 1 = .ok (.iconst 0, 1) := by decide +kernel
theorem dX3_inBand_2 : decode cX3_inBand 2 = .ok (.aload_n 0, 1) := by decide +kernel
theorem dX3_inBand_3 : decode cX3_inBand 3 = .ok (.getfield 7, 3) := by decide +kernel
theorem dX3_inBand_6 : decode cX3_inBand 6 = .ok (.iconst 1, 1) := by decide +kernel
theorem dX3_inBand_7 : decode cX3_inBand 7 = .ok (.isub, 1) := by decide +kernel
theorem dX3_inBand_8 : decode cX3_inBand 8 = .ok (.invokestatic 47, 3) := by decide +kernel
theorem dX3_inBand_11 : decode cX3_inBand 11 = .ok (.ifCond .eq 39, 3) := by decide +kernel
theorem dX3_inBand_14 : decode cX3_inBand 14 = .ok (.iload_n 2, 1) := by decide +kernel
theorem dX3_inBand_15 : decode cX3_inBand 15 = .ok (.iconst 0, 1) := by decide +kernel
theorem dX3_inBand_16 : decode cX3_inBand 16 = .ok (.aload_n 0, 1) := by decide +kernel
theorem dX3_inBand_17 : decode cX3_inBand 17 = .ok (.getfield 7, 3) := by decide +kernel
theorem dX3_inBand_20 : decode cX3_inBand 20 = .ok (.iconst 1, 1) := by decide +kernel
theorem dX3_inBand_21 : decode cX3_inBand 21 = .ok (.isub, 1) := by decide +kernel
theorem dX3_inBand_22 : decode cX3_inBand 22 = .ok (.invokestatic 47, 3) := by decide +kernel
theorem dX3_inBand_25 : decode cX3_inBand 25 = .ok (.ifCond .eq 25, 3) := by decide +kernel
theorem dX3_inBand_28 : decode cX3_inBand 28 = .ok (.iload_n 1, 1) := by decide +kernel
theorem dX3_inBand_29 : decode cX3_inBand 29 = .ok (.iload_n 2, 1) := by decide +kernel
theorem dX3_inBand_30 : decode cX3_inBand 30 = .ok (.isub, 1) := by decide +kernel
theorem dX3_inBand_31 : decode cX3_inBand 31 = .ok (.aload_n 0, 1) := by decide +kernel
theorem dX3_inBand_32 : decode cX3_inBand 32 = .ok (.getfield 61, 3) := by decide +kernel
theorem dX3_inBand_35 : decode cX3_inBand 35 = .ok (.ineg, 1) := by decide +kernel
theorem dX3_inBand_36 : decode cX3_inBand 36 = .ok (.aload_n 0, 1) := by decide +kernel
theorem dX3_inBand_37 : decode cX3_inBand 37 = .ok (.getfield 61, 3) := by decide +kernel
theorem dX3_inBand_40 : decode cX3_inBand 40 = .ok (.invokestatic 47, 3) := by decide +kernel
theorem dX3_inBand_43 : decode cX3_inBand 43 = .ok (.ifCond .eq 7, 3) := by decide +kernel
theorem dX3_inBand_46 : decode cX3_inBand 46 = .ok (.iconst 1, 1) := by decide +kernel
theorem dX3_inBand_47 : decode cX3_inBand 47 = .ok (.goto 4, 3) := by decide +kernel
theorem dX3_inBand_50 : decode cX3_inBand 50 = .ok (.iconst 0, 1) := by decide +kernel
theorem dX3_inBand_51 : decode cX3_inBand 51 = .ok (.ireturn, 1) := by decide +kernel
theorem dX3_costAt_0 : decode cX3_costAt 0 = .ok (.aload_n 0, 1) := by decide +kernel
theorem dX3_costAt_1 : decode cX3_costAt 1 = .ok (.iload_n 1, 1) := by decide +kernel
theorem dX3_costAt_2 : decode cX3_costAt 2 = .ok (.iload_n 2, 1) := by decide +kernel
theorem dX3_costAt_3 : decode cX3_costAt 3 = .ok (.invokevirtual 64, 3) := by decide +kernel
theorem dX3_costAt_6 : decode cX3_costAt 6 = .ok (.ifCond .eq 17, 3) := by decide +kernel
theorem dX3_costAt_9 : decode cX3_costAt 9 = .ok (.aload_n 0, 1) := by decide +kernel
theorem dX3_costAt_10 : decode cX3_costAt 10 = .ok (.getfield 29, 3) := by decide +kernel
theorem dX3_costAt_13 : decode cX3_costAt 13 = .ok (.bipush 16, 2) := by decide +kernel
theorem dX3_costAt_15 : decode cX3_costAt 15 = .ok (.iload_n 1, 1) := by decide +kernel
theorem dX3_costAt_16 : decode cX3_costAt 16 = .ok (.imul, 1) := by decide +kernel
theorem dX3_costAt_17 : decode cX3_costAt 17 = .ok (.iload_n 2, 1) := by decide +kernel
theorem dX3_costAt_18 : decode cX3_costAt 18 = .ok (.iadd, 1) := by decide +kernel
theorem dX3_costAt_19 : decode cX3_costAt 19 = .ok (.iaload, 1) := by decide +kernel
theorem dX3_costAt_20 : decode cX3_costAt 20 = .ok (.goto 4, 3) := by decide +kernel
theorem dX3_costAt_23 : decode cX3_costAt 23 = .ok (.iconst (-1), 1) := by decide +kernel
theorem dX3_costAt_24 : decode cX3_costAt 24 = .ok (.ireturn, 1) := by decide +kernel
theorem dX3_lesser_0 : decode cX3_lesser 0 = .ok (.iload_n 0, 1) := by decide +kernel
theorem dX3_lesser_1 : decode cX3_lesser 1 = .ok (.ifCond .ge 7, 3) := by decide +kernel
theorem dX3_lesser_4 : decode cX3_lesser 4 = .ok (.iload_n 1, 1) := by decide +kernel
theorem dX3_lesser_5 : decode cX3_lesser 5 = .ok (.goto 17, 3) := by decide +kernel
theorem dX3_lesser_8 : decode cX3_lesser 8 = .ok (.iload_n 1, 1) := by decide +kernel
theorem dX3_lesser_9 : decode cX3_lesser 9 = .ok (.ifCond .lt 8, 3) := by decide +kernel
theorem dX3_lesser_12 : decode cX3_lesser 12 = .ok (.iload_n 0, 1) := by decide +kernel
theorem dX3_lesser_13 : decode cX3_lesser 13 = .ok (.iload_n 1, 1) := by decide +kernel
theorem dX3_lesser_14 : decode cX3_lesser 14 = .ok (.if_icmp .ge 7, 3) := by decide +kernel
theorem dX3_lesser_17 : decode cX3_lesser 17 = .ok (.iload_n 0, 1) := by decide +kernel
theorem dX3_lesser_18 : decode cX3_lesser 18 = .ok (.goto 4, 3) := by decide +kernel
theorem dX3_lesser_21 : decode cX3_lesser 21 = .ok (.iload_n 1, 1) := by decide +kernel
theorem dX3_lesser_22 : decode cX3_lesser 22 = .ok (.ireturn, 1) := by decide +kernel
theorem dX3_bound_0 : decode cX3_bound 0 = .ok (.aload_n 0, 1) := by decide +kernel
theorem dX3_bound_1 : decode cX3_bound 1 = .ok (.iload_n 1, 1) := by decide +kernel
theorem dX3_bound_2 : decode cX3_bound 2 = .ok (.invokevirtual 57, 3) := by decide +kernel
theorem dX3_bound_5 : decode cX3_bound 5 = .ok (.ifCond .ne 5, 3) := by decide +kernel
theorem dX3_bound_8 : decode cX3_bound 8 = .ok (.iconst 0, 1) := by decide +kernel
theorem dX3_bound_9 : decode cX3_bound 9 = .ok (.ireturn, 1) := by decide +kernel
theorem dX3_bound_10 : decode cX3_bound 10 = .ok (.aload_n 0, 1) := by decide +kernel
theorem dX3_bound_11 : decode cX3_bound 11 = .ok (.iload_n 2, 1) := by decide +kernel
theorem dX3_bound_12 : decode cX3_bound 12 = .ok (.iconst 0, 1) := by decide +kernel
theorem dX3_bound_13 : decode cX3_bound 13 = .ok (.iconst 2, 1) := by decide +kernel
theorem dX3_bound_14 : decode cX3_bound 14 = .ok (.invokestatic 47, 3) := by decide +kernel
theorem dX3_bound_17 : decode cX3_bound 17 = .ok (.ifCond .eq 7, 3) := by decide +kernel
theorem dX3_bound_20 : decode cX3_bound 20 = .ok (.iconst 0, 1) := by decide +kernel
theorem dX3_bound_21 : decode cX3_bound 21 = .ok (.goto 4, 3) := by decide +kernel
theorem dX3_bound_24 : decode cX3_bound 24 = .ok (.iconst 2, 1) := by decide +kernel
theorem dX3_bound_25 : decode cX3_bound 25 = .ok (.putfield 44, 3) := by decide +kernel
theorem dX3_bound_28 : decode cX3_bound 28 = .ok (.aload_n 0, 1) := by decide +kernel
theorem dX3_bound_29 : decode cX3_bound 29 = .ok (.getfield 44, 3) := by decide +kernel
theorem dX3_bound_32 : decode cX3_bound 32 = .ok (.ifCond .le 5, 3) := by decide +kernel
theorem dX3_bound_35 : decode cX3_bound 35 = .ok (.iconst 0, 1) := by decide +kernel
theorem dX3_bound_36 : decode cX3_bound 36 = .ok (.ireturn, 1) := by decide +kernel
theorem dX3_bound_37 : decode cX3_bound 37 = .ok (.aload_n 0, 1) := by decide +kernel
theorem dX3_bound_38 : decode cX3_bound 38 = .ok (.iload_n 1, 1) := by decide +kernel
theorem dX3_bound_39 : decode cX3_bound 39 = .ok (.invokevirtual 75, 3) := by decide +kernel
theorem dX3_bound_42 : decode cX3_bound 42 = .ok (.aload_n 0, 1) := by decide +kernel
theorem dX3_bound_43 : decode cX3_bound 43 = .ok (.iload_n 2, 1) := by decide +kernel
theorem dX3_bound_44 : decode cX3_bound 44 = .ok (.invokevirtual 86, 3) := by decide +kernel
theorem dX3_bound_47 : decode cX3_bound 47 = .ok (.ireturn, 1) := by decide +kernel
theorem dX3_boundOf_0 : decode cX3_boundOf 0 = .ok (.iload_n 1, 1) := by decide +kernel
theorem dX3_boundOf_1 : decode cX3_boundOf 1 = .ok (.ifCond .ne 49, 3) := by decide +kernel
theorem dX3_boundOf_4 : decode cX3_boundOf 4 = .ok (.aload_n 0, 1) := by decide +kernel
theorem dX3_boundOf_5 : decode cX3_boundOf 5 = .ok (.getfield 13, 3) := by decide +kernel
theorem dX3_boundOf_8 : decode cX3_boundOf 8 = .ok (.iconst 0, 1) := by decide +kernel
theorem dX3_boundOf_9 : decode cX3_boundOf 9 = .ok (.iaload, 1) := by decide +kernel
theorem dX3_boundOf_10 : decode cX3_boundOf 10 = .ok (.aload_n 0, 1) := by decide +kernel
theorem dX3_boundOf_11 : decode cX3_boundOf 11 = .ok (.getfield 26, 3) := by decide +kernel
theorem dX3_boundOf_14 : decode cX3_boundOf 14 = .ok (.iconst 0, 1) := by decide +kernel
theorem dX3_boundOf_15 : decode cX3_boundOf 15 = .ok (.iaload, 1) := by decide +kernel
theorem dX3_boundOf_16 : decode cX3_boundOf 16 = .ok (.isub, 1) := by decide +kernel
theorem dX3_boundOf_17 : decode cX3_boundOf 17 = .ok (.istore_n 2, 1) := by decide +kernel
theorem dX3_boundOf_18 : decode cX3_boundOf 18 = .ok (.aload_n 0, 1) := by decide +kernel
theorem dX3_boundOf_19 : decode cX3_boundOf 19 = .ok (.getfield 13, 3) := by decide +kernel
theorem dX3_boundOf_22 : decode cX3_boundOf 22 = .ok (.aload_n 0, 1) := by decide +kernel
theorem dX3_boundOf_23 : decode cX3_boundOf 23 = .ok (.getfield 7, 3) := by decide +kernel
theorem dX3_boundOf_26 : decode cX3_boundOf 26 = .ok (.iconst 1, 1) := by decide +kernel
theorem dX3_boundOf_27 : decode cX3_boundOf 27 = .ok (.isub, 1) := by decide +kernel
theorem dX3_boundOf_28 : decode cX3_boundOf 28 = .ok (.iaload, 1) := by decide +kernel
theorem dX3_boundOf_29 : decode cX3_boundOf 29 = .ok (.aload_n 0, 1) := by decide +kernel
theorem dX3_boundOf_30 : decode cX3_boundOf 30 = .ok (.getfield 26, 3) := by decide +kernel
theorem dX3_boundOf_33 : decode cX3_boundOf 33 = .ok (.aload_n 0, 1) := by decide +kernel
theorem dX3_boundOf_34 : decode cX3_boundOf 34 = .ok (.getfield 7, 3) := by decide +kernel
theorem dX3_boundOf_37 : decode cX3_boundOf 37 = .ok (.iconst 1, 1) := by decide +kernel
theorem dX3_boundOf_38 : decode cX3_boundOf 38 = .ok (.isub, 1) := by decide +kernel
theorem dX3_boundOf_39 : decode cX3_boundOf 39 = .ok (.iaload, 1) := by decide +kernel
theorem dX3_boundOf_40 : decode cX3_boundOf 40 = .ok (.isub, 1) := by decide +kernel
theorem dX3_boundOf_41 : decode cX3_boundOf 41 = .ok (.istore_n 3, 1) := by decide +kernel
theorem dX3_boundOf_42 : decode cX3_boundOf 42 = .ok (.iload_n 2, 1) := by decide +kernel
theorem dX3_boundOf_43 : decode cX3_boundOf 43 = .ok (.iload_n 2, 1) := by decide +kernel
theorem dX3_boundOf_44 : decode cX3_boundOf 44 = .ok (.imul, 1) := by decide +kernel
theorem dX3_boundOf_45 : decode cX3_boundOf 45 = .ok (.iload_n 3, 1) := by decide +kernel
theorem dX3_boundOf_46 : decode cX3_boundOf 46 = .ok (.iload_n 3, 1) := by decide +kernel
theorem dX3_boundOf_47 : decode cX3_boundOf 47 = .ok (.imul, 1) := by decide +kernel
theorem dX3_boundOf_48 : decode cX3_boundOf 48 = .ok (.iadd, 1) := by decide +kernel
theorem dX3_boundOf_49 : decode cX3_boundOf 49 = .ok (.ireturn, 1) := by decide +kernel
theorem dX3_boundOf_50 : decode cX3_boundOf 50 = .ok (.iconst 0, 1) := by decide +kernel
theorem dX3_boundOf_51 : decode cX3_boundOf 51 = .ok (.istore_n 2, 1) := by decide +kernel
theorem dX3_boundOf_52 : decode cX3_boundOf 52 = .ok (.iconst 0, 1) := by decide +kernel
theorem dX3_boundOf_53 : decode cX3_boundOf 53 = .ok (.istore_n 3, 1) := by decide +kernel
theorem dX3_boundOf_54 : decode cX3_boundOf 54 = .ok (.iload_n 3, 1) := by decide +kernel
theorem dX3_boundOf_55 : decode cX3_boundOf 55 = .ok (.aload_n 0, 1) := by decide +kernel
theorem dX3_boundOf_56 : decode cX3_boundOf 56 = .ok (.getfield 7, 3) := by decide +kernel
theorem dX3_boundOf_59 : decode cX3_boundOf 59 = .ok (.if_icmp .ge 47, 3) := by decide +kernel
theorem dX3_boundOf_62 : decode cX3_boundOf 62 = .ok (.iload_n 2, 1) := by decide +kernel
theorem dX3_boundOf_63 : decode cX3_boundOf 63 = .ok (.aload_n 0, 1) := by decide +kernel
theorem dX3_boundOf_64 : decode cX3_boundOf 64 = .ok (.iload_n 1, 1) := by decide +kernel
theorem dX3_boundOf_65 : decode cX3_boundOf 65 = .ok (.iconst 1, 1) := by decide +kernel
theorem dX3_boundOf_66 : decode cX3_boundOf 66 = .ok (.if_icmp .ne 12, 3) := by decide +kernel
theorem dX3_boundOf_69 : decode cX3_boundOf 69 = .ok (.aload_n 0, 1) := by decide +kernel
theorem dX3_boundOf_70 : decode cX3_boundOf 70 = .ok (.getfield 26, 3) := by decide +kernel
theorem dX3_boundOf_73 : decode cX3_boundOf 73 = .ok (.iload_n 3, 1) := by decide +kernel
theorem dX3_boundOf_74 : decode cX3_boundOf 74 = .ok (.iaload, 1) := by decide +kernel
theorem dX3_boundOf_75 : decode cX3_boundOf 75 = .ok (.goto 9, 3) := by decide +kernel
theorem dX3_boundOf_78 : decode cX3_boundOf 78 = .ok (.aload_n 0, 1) := by decide +kernel
theorem dX3_boundOf_79 : decode cX3_boundOf 79 = .ok (.getfield 13, 3) := by decide +kernel
theorem dX3_boundOf_82 : decode cX3_boundOf 82 = .ok (.iload_n 3, 1) := by decide +kernel
theorem dX3_boundOf_83 : decode cX3_boundOf 83 = .ok (.iaload, 1) := by decide +kernel
theorem dX3_boundOf_84 : decode cX3_boundOf 84 = .ok (.iload_n 3, 1) := by decide +kernel
theorem dX3_boundOf_85 : decode cX3_boundOf 85 = .ok (.iload_n 1, 1) := by decide +kernel
theorem dX3_boundOf_86 : decode cX3_boundOf 86 = .ok (.iconst 1, 1) := by decide +kernel
theorem dX3_boundOf_87 : decode cX3_boundOf 87 = .ok (.if_icmp .ne 7, 3) := by decide +kernel
theorem dX3_boundOf_90 : decode cX3_boundOf 90 = .ok (.iconst 1, 1) := by decide +kernel
theorem dX3_boundOf_91 : decode cX3_boundOf 91 = .ok (.goto 4, 3) := by decide +kernel
theorem dX3_boundOf_94 : decode cX3_boundOf 94 = .ok (.iconst 0, 1) := by decide +kernel
theorem dX3_boundOf_95 : decode cX3_boundOf 95 = .ok (.invokevirtual 82, 3) := by decide +kernel
theorem dX3_boundOf_98 : decode cX3_boundOf 98 = .ok (.iadd, 1) := by decide +kernel
theorem dX3_boundOf_99 : decode cX3_boundOf 99 = .ok (.istore_n 2, 1) := by decide +kernel
theorem dX3_boundOf_100 : decode cX3_boundOf 100 = .ok (.iinc 3 1, 3) := by decide +kernel
theorem dX3_boundOf_103 : decode cX3_boundOf 103 = .ok (.goto (-49), 3) := by decide +kernel
theorem dX3_boundOf_106 : decode cX3_boundOf 106 = .ok (.iload_n 2, 1) := by decide +kernel
theorem dX3_boundOf_107 : decode cX3_boundOf 107 = .ok (.ireturn, 1) := by decide +kernel
theorem dX3_beyond_0 : decode cX3_beyond 0 = .ok (.sipush 1000, 3) := by decide +kernel
theorem dX3_beyond_3 : decode cX3_beyond 3 = .ok (.istore 4, 2) := by decide +kernel
theorem dX3_beyond_5 : decode cX3_beyond 5 = .ok (.sipush (-1000), 3) := by decide +kernel
theorem dX3_beyond_8 : decode cX3_beyond 8 = .ok (.istore 5, 2) := by decide +kernel
theorem dX3_beyond_10 : decode cX3_beyond 10 = .ok (.iconst 0, 1) := by decide +kernel
theorem dX3_beyond_11 : decode cX3_beyond 11 = .ok (.istore 6, 2) := by decide +kernel
theorem dX3_beyond_13 : decode cX3_beyond 13 = .ok (.iload 6, 2) := by decide +kernel
theorem dX3_beyond_15 : decode cX3_beyond 15 = .ok (.aload_n 0, 1) := by decide +kernel
theorem dX3_beyond_16 : decode cX3_beyond 16 = .ok (.getfield 7, 3) := by decide +kernel
theorem dX3_beyond_19 : decode cX3_beyond 19 = .ok (.if_icmp .ge 92, 3) := by decide +kernel
theorem dX3_beyond_22 : decode cX3_beyond 22 = .ok (.iload_n 3, 1) := by decide +kernel
theorem dX3_beyond_23 : decode cX3_beyond 23 = .ok (.ifCond .eq 13, 3) := by decide +kernel
theorem dX3_beyond_26 : decode cX3_beyond 26 = .ok (.aload_n 0, 1) := by decide +kernel
theorem dX3_beyond_27 : decode cX3_beyond 27 = .ok (.getfield 13, 3) := by decide +kernel
theorem dX3_beyond_30 : decode cX3_beyond 30 = .ok (.iload 6, 2) := by decide +kernel
theorem dX3_beyond_32 : decode cX3_beyond 32 = .ok (.iaload, 1) := by decide +kernel
theorem dX3_beyond_33 : decode cX3_beyond 33 = .ok (.goto 10, 3) := by decide +kernel
theorem dX3_beyond_36 : decode cX3_beyond 36 = .ok (.aload_n 0, 1) := by decide +kernel
theorem dX3_beyond_37 : decode cX3_beyond 37 = .ok (.getfield 26, 3) := by decide +kernel
theorem dX3_beyond_40 : decode cX3_beyond 40 = .ok (.iload 6, 2) := by decide +kernel
theorem dX3_beyond_42 : decode cX3_beyond 42 = .ok (.iaload, 1) := by decide +kernel
theorem dX3_beyond_43 : decode cX3_beyond 43 = .ok (.istore 7, 2) := by decide +kernel
theorem dX3_beyond_45 : decode cX3_beyond 45 = .ok (.iload 6, 2) := by decide +kernel
theorem dX3_beyond_47 : decode cX3_beyond 47 = .ok (.iload_n 2, 1) := by decide +kernel
theorem dX3_beyond_48 : decode cX3_beyond 48 = .ok (.isub, 1) := by decide +kernel
theorem dX3_beyond_49 : decode cX3_beyond 49 = .ok (.aload_n 0, 1) := by decide +kernel
theorem dX3_beyond_50 : decode cX3_beyond 50 = .ok (.getfield 61, 3) := by decide +kernel
theorem dX3_beyond_53 : decode cX3_beyond 53 = .ok (.ineg, 1) := by decide +kernel
theorem dX3_beyond_54 : decode cX3_beyond 54 = .ok (.aload_n 0, 1) := by decide +kernel
theorem dX3_beyond_55 : decode cX3_beyond 55 = .ok (.getfield 61, 3) := by decide +kernel
theorem dX3_beyond_58 : decode cX3_beyond 58 = .ok (.invokestatic 47, 3) := by decide +kernel
theorem dX3_beyond_61 : decode cX3_beyond 61 = .ok (.istore 8, 2) := by decide +kernel
theorem dX3_beyond_63 : decode cX3_beyond 63 = .ok (.iload 8, 2) := by decide +kernel
theorem dX3_beyond_65 : decode cX3_beyond 65 = .ok (.ifCond .eq 15, 3) := by decide +kernel
theorem dX3_beyond_68 : decode cX3_beyond 68 = .ok (.iload 7, 2) := by decide +kernel
theorem dX3_beyond_70 : decode cX3_beyond 70 = .ok (.iload 4, 2) := by decide +kernel
theorem dX3_beyond_72 : decode cX3_beyond 72 = .ok (.if_icmp .ge 8, 3) := by decide +kernel
theorem dX3_beyond_75 : decode cX3_beyond 75 = .ok (.iload 7, 2) := by decide +kernel
theorem dX3_beyond_77 : decode cX3_beyond 77 = .ok (.goto 5, 3) := by decide +kernel
theorem dX3_beyond_80 : decode cX3_beyond 80 = .ok (.iload 4, 2) := by decide +kernel
theorem dX3_beyond_82 : decode cX3_beyond 82 = .ok (.istore 4, 2) := by decide +kernel
theorem dX3_beyond_84 : decode cX3_beyond 84 = .ok (.iload 8, 2) := by decide +kernel
theorem dX3_beyond_86 : decode cX3_beyond 86 = .ok (.ifCond .eq 15, 3) := by decide +kernel
theorem dX3_beyond_89 : decode cX3_beyond 89 = .ok (.iload 7, 2) := by decide +kernel
theorem dX3_beyond_91 : decode cX3_beyond 91 = .ok (.iload 5, 2) := by decide +kernel
theorem dX3_beyond_93 : decode cX3_beyond 93 = .ok (.if_icmp .le 8, 3) := by decide +kernel
theorem dX3_beyond_96 : decode cX3_beyond 96 = .ok (.iload 7, 2) := by decide +kernel
theorem dX3_beyond_98 : decode cX3_beyond 98 = .ok (.goto 5, 3) := by decide +kernel
theorem dX3_beyond_101 : decode cX3_beyond 101 = .ok (.iload 5, 2) := by decide +kernel
theorem dX3_beyond_103 : decode cX3_beyond 103 = .ok (.istore 5, 2) := by decide +kernel
theorem dX3_beyond_105 : decode cX3_beyond 105 = .ok (.iinc 6 1, 3) := by decide +kernel
theorem dX3_beyond_108 : decode cX3_beyond 108 = .ok (.goto (-95), 3) := by decide +kernel
theorem dX3_beyond_111 : decode cX3_beyond 111 = .ok (.iload_n 1, 1) := by decide +kernel
theorem dX3_beyond_112 : decode cX3_beyond 112 = .ok (.iload 4, 2) := by decide +kernel
theorem dX3_beyond_114 : decode cX3_beyond 114 = .ok (.if_icmp .ge 10, 3) := by decide +kernel
theorem dX3_beyond_117 : decode cX3_beyond 117 = .ok (.iload 4, 2) := by decide +kernel
theorem dX3_beyond_119 : decode cX3_beyond 119 = .ok (.iload_n 1, 1) := by decide +kernel
theorem dX3_beyond_120 : decode cX3_beyond 120 = .ok (.isub, 1) := by decide +kernel
theorem dX3_beyond_121 : decode cX3_beyond 121 = .ok (.goto 17, 3) := by decide +kernel
theorem dX3_beyond_124 : decode cX3_beyond 124 = .ok (.iload_n 1, 1) := by decide +kernel
theorem dX3_beyond_125 : decode cX3_beyond 125 = .ok (.iload 5, 2) := by decide +kernel
theorem dX3_beyond_127 : decode cX3_beyond 127 = .ok (.if_icmp .le 10, 3) := by decide +kernel
theorem dX3_beyond_130 : decode cX3_beyond 130 = .ok (.iload_n 1, 1) := by decide +kernel
theorem dX3_beyond_131 : decode cX3_beyond 131 = .ok (.iload 5, 2) := by decide +kernel
theorem dX3_beyond_133 : decode cX3_beyond 133 = .ok (.isub, 1) := by decide +kernel
theorem dX3_beyond_134 : decode cX3_beyond 134 = .ok (.goto 4, 3) := by decide +kernel
theorem dX3_beyond_137 : decode cX3_beyond 137 = .ok (.iconst 0, 1) := by decide +kernel
theorem dX3_beyond_138 : decode cX3_beyond 138 = .ok (.istore 6, 2) := by decide +kernel
theorem dX3_beyond_140 : decode cX3_beyond 140 = .ok (.iload 6, 2) := by decide +kernel
theorem dX3_beyond_142 : decode cX3_beyond 142 = .ok (.iload 6, 2) := by decide +kernel
theorem dX3_beyond_144 : decode cX3_beyond 144 = .ok (.imul, 1) := by decide +kernel
theorem dX3_beyond_145 : decode cX3_beyond 145 = .ok (.ireturn, 1) := by decide +kernel
theorem dX3_steps_0 : decode cX3_steps 0 = .ok (.aload_n 0, 1) := by decide +kernel
theorem dX3_steps_1 : decode cX3_steps 1 = .ok (.iload_n 1, 1) := by decide +kernel
theorem dX3_steps_2 : decode cX3_steps 2 = .ok (.invokevirtual 57, 3) := by decide +kernel
theorem dX3_steps_5 : decode cX3_steps 5 = .ok (.ifCond .ne 5, 3) := by decide +kernel
theorem dX3_steps_8 : decode cX3_steps 8 = .ok (.iconst 0, 1) := by decide +kernel
theorem dX3_steps_9 : decode cX3_steps 9 = .ok (.ireturn, 1) := by decide +kernel
theorem dX3_steps_10 : decode cX3_steps 10 = .ok (.aload_n 0, 1) := by decide +kernel
theorem dX3_steps_11 : decode cX3_steps 11 = .ok (.iload_n 1, 1) := by decide +kernel
theorem dX3_steps_12 : decode cX3_steps 12 = .ok (.invokevirtual 75, 3) := by decide +kernel
theorem dX3_steps_15 : decode cX3_steps 15 = .ok (.aload_n 0, 1) := by decide +kernel
theorem dX3_steps_16 : decode cX3_steps 16 = .ok (.invokevirtual 79, 3) := by decide +kernel
theorem dX3_steps_19 : decode cX3_steps 19 = .ok (.aload_n 0, 1) := by decide +kernel
theorem dX3_steps_20 : decode cX3_steps 20 = .ok (.invokevirtual 90, 3) := by decide +kernel
theorem dX3_steps_23 : decode cX3_steps 23 = .ok (.ireturn, 1) := by decide +kernel
theorem dX3_walk_0 : decode cX3_walk 0 = .ok (.aload_n 0, 1) := by decide +kernel
theorem dX3_walk_1 : decode cX3_walk 1 = .ok (.getfield 7, 3) := by decide +kernel
theorem dX3_walk_4 : decode cX3_walk 4 = .ok (.iconst 1, 1) := by decide +kernel
theorem dX3_walk_5 : decode cX3_walk 5 = .ok (.isub, 1) := by decide +kernel
theorem dX3_walk_6 : decode cX3_walk 6 = .ok (.istore_n 1, 1) := by decide +kernel
theorem dX3_walk_7 : decode cX3_walk 7 = .ok (.aload_n 0, 1) := by decide +kernel
theorem dX3_walk_8 : decode cX3_walk 8 = .ok (.getfield 7, 3) := by decide +kernel
theorem dX3_walk_11 : decode cX3_walk 11 = .ok (.iconst 1, 1) := by decide +kernel
theorem dX3_walk_12 : decode cX3_walk 12 = .ok (.isub, 1) := by decide +kernel
theorem dX3_walk_13 : decode cX3_walk 13 = .ok (.istore_n 2, 1) := by decide +kernel
theorem dX3_walk_14 : decode cX3_walk 14 = .ok (.iconst 0, 1) := by decide +kernel
theorem dX3_walk_15 : decode cX3_walk 15 = .ok (.istore_n 3, 1) := by decide +kernel
theorem dX3_walk_16 : decode cX3_walk 16 = .ok (.aload_n 0, 1) := by decide +kernel
theorem dX3_walk_17 : decode cX3_walk 17 = .ok (.getfield 32, 3) := by decide +kernel
theorem dX3_walk_20 : decode cX3_walk 20 = .ok (.iconst 0, 1) := by decide +kernel
theorem dX3_walk_21 : decode cX3_walk 21 = .ok (.bipush 16, 2) := by decide +kernel
theorem dX3_walk_23 : decode cX3_walk 23 = .ok (.iload_n 1, 1) := by decide +kernel
theorem dX3_walk_24 : decode cX3_walk 24 = .ok (.imul, 1) := by decide +kernel
theorem dX3_walk_25 : decode cX3_walk 25 = .ok (.iload_n 2, 1) := by decide +kernel
theorem dX3_walk_26 : decode cX3_walk 26 = .ok (.iadd, 1) := by decide +kernel
theorem dX3_walk_27 : decode cX3_walk 27 = .ok (.iastore, 1) := by decide +kernel
theorem dX3_walk_28 : decode cX3_walk 28 = .ok (.iconst 1, 1) := by decide +kernel
theorem dX3_walk_29 : decode cX3_walk 29 = .ok (.istore_n 3, 1) := by decide +kernel
theorem dX3_walk_30 : decode cX3_walk 30 = .ok (.iload_n 1, 1) := by decide +kernel
theorem dX3_walk_31 : decode cX3_walk 31 = .ok (.iload_n 2, 1) := by decide +kernel
theorem dX3_walk_32 : decode cX3_walk 32 = .ok (.iadd, 1) := by decide +kernel
theorem dX3_walk_33 : decode cX3_walk 33 = .ok (.ifCond .le 146, 3) := by decide +kernel
theorem dX3_walk_36 : decode cX3_walk 36 = .ok (.aload_n 0, 1) := by decide +kernel
theorem dX3_walk_37 : decode cX3_walk 37 = .ok (.iload_n 1, 1) := by decide +kernel
theorem dX3_walk_38 : decode cX3_walk 38 = .ok (.iconst 1, 1) := by decide +kernel
theorem dX3_walk_39 : decode cX3_walk 39 = .ok (.isub, 1) := by decide +kernel
theorem dX3_walk_40 : decode cX3_walk 40 = .ok (.iload_n 2, 1) := by decide +kernel
theorem dX3_walk_41 : decode cX3_walk 41 = .ok (.iconst 1, 1) := by decide +kernel
theorem dX3_walk_42 : decode cX3_walk 42 = .ok (.isub, 1) := by decide +kernel
theorem dX3_walk_43 : decode cX3_walk 43 = .ok (.invokevirtual 68, 3) := by decide +kernel
theorem dX3_walk_46 : decode cX3_walk 46 = .ok (.istore 4, 2) := by decide +kernel
theorem dX3_walk_48 : decode cX3_walk 48 = .ok (.aload_n 0, 1) := by decide +kernel
theorem dX3_walk_49 : decode cX3_walk 49 = .ok (.iload_n 1, 1) := by decide +kernel
theorem dX3_walk_50 : decode cX3_walk 50 = .ok (.iconst 1, 1) := by decide +kernel
theorem dX3_walk_51 : decode cX3_walk 51 = .ok (.isub, 1) := by decide +kernel
theorem dX3_walk_52 : decode cX3_walk 52 = .ok (.iload_n 2, 1) := by decide +kernel
theorem dX3_walk_53 : decode cX3_walk 53 = .ok (.invokevirtual 68, 3) := by decide +kernel
theorem dX3_walk_56 : decode cX3_walk 56 = .ok (.istore 5, 2) := by decide +kernel
theorem dX3_walk_58 : decode cX3_walk 58 = .ok (.aload_n 0, 1) := by decide +kernel
theorem dX3_walk_59 : decode cX3_walk 59 = .ok (.iload_n 1, 1) := by decide +kernel
theorem dX3_walk_60 : decode cX3_walk 60 = .ok (.iload_n 2, 1) := by decide +kernel
theorem dX3_walk_61 : decode cX3_walk 61 = .ok (.iconst 1, 1) := by decide +kernel
theorem dX3_walk_62 : decode cX3_walk 62 = .ok (.isub, 1) := by decide +kernel
theorem dX3_walk_63 : decode cX3_walk 63 = .ok (.invokevirtual 68, 3) := by decide +kernel
theorem dX3_walk_66 : decode cX3_walk 66 = .ok (.istore 6, 2) := by decide +kernel
theorem dX3_walk_68 : decode cX3_walk 68 = .ok (.iload 4, 2) := by decide +kernel
theorem dX3_walk_70 : decode cX3_walk 70 = .ok (.iload 5, 2) := by decide +kernel
theorem dX3_walk_72 : decode cX3_walk 72 = .ok (.iload 6, 2) := by decide +kernel
theorem dX3_walk_74 : decode cX3_walk 74 = .ok (.invokestatic 72, 3) := by decide +kernel
theorem dX3_walk_77 : decode cX3_walk 77 = .ok (.invokestatic 72, 3) := by decide +kernel
theorem dX3_walk_80 : decode cX3_walk 80 = .ok (.istore 7, 2) := by decide +kernel
theorem dX3_walk_82 : decode cX3_walk 82 = .ok (.iload 4, 2) := by decide +kernel
theorem dX3_walk_84 : decode cX3_walk 84 = .ok (.iload 7, 2) := by decide +kernel
theorem dX3_walk_86 : decode cX3_walk 86 = .ok (.if_icmp .ne 12, 3) := by decide +kernel
theorem dX3_walk_89 : decode cX3_walk 89 = .ok (.iload 4, 2) := by decide +kernel
theorem dX3_walk_91 : decode cX3_walk 91 = .ok (.ifCond .lt 7, 3) := by decide +kernel
theorem dX3_walk_94 : decode cX3_walk 94 = .ok (.iconst 1, 1) := by decide +kernel
theorem dX3_walk_95 : decode cX3_walk 95 = .ok (.goto 4, 3) := by decide +kernel
theorem dX3_walk_98 : decode cX3_walk 98 = .ok (.iconst 0, 1) := by decide +kernel
theorem dX3_walk_99 : decode cX3_walk 99 = .ok (.istore 8, 2) := by decide +kernel
theorem dX3_walk_101 : decode cX3_walk 101 = .ok (.iload 8, 2) := by decide +kernel
theorem dX3_walk_103 : decode cX3_walk 103 = .ok (.ifCond .ne 19, 3) := by decide +kernel
theorem dX3_walk_106 : decode cX3_walk 106 = .ok (.iload 5, 2) := by decide +kernel
theorem dX3_walk_108 : decode cX3_walk 108 = .ok (.iload 7, 2) := by decide +kernel
theorem dX3_walk_110 : decode cX3_walk 110 = .ok (.if_icmp .ne 12, 3) := by decide +kernel
theorem dX3_walk_113 : decode cX3_walk 113 = .ok (.iload 5, 2) := by decide +kernel
theorem dX3_walk_115 : decode cX3_walk 115 = .ok (.ifCond .lt 7, 3) := by decide +kernel
theorem dX3_walk_118 : decode cX3_walk 118 = .ok (.iconst 1, 1) := by decide +kernel
theorem dX3_walk_119 : decode cX3_walk 119 = .ok (.goto 4, 3) := by decide +kernel
theorem dX3_walk_122 : decode cX3_walk 122 = .ok (.iconst 0, 1) := by decide +kernel
theorem dX3_walk_123 : decode cX3_walk 123 = .ok (.istore 9, 2) := by decide +kernel
theorem dX3_walk_125 : decode cX3_walk 125 = .ok (.iload 8, 2) := by decide +kernel
theorem dX3_walk_127 : decode cX3_walk 127 = .ok (.ifCond .ne 8, 3) := by decide +kernel
theorem dX3_walk_130 : decode cX3_walk 130 = .ok (.iload 9, 2) := by decide +kernel
theorem dX3_walk_132 : decode cX3_walk 132 = .ok (.ifCond .eq 9, 3) := by decide +kernel
theorem dX3_walk_135 : decode cX3_walk 135 = .ok (.iload_n 1, 1) := by decide +kernel
theorem dX3_walk_136 : decode cX3_walk 136 = .ok (.iconst 1, 1) := by decide +kernel
theorem dX3_walk_137 : decode cX3_walk 137 = .ok (.isub, 1) := by decide +kernel
theorem dX3_walk_138 : decode cX3_walk 138 = .ok (.goto 4, 3) := by decide +kernel
theorem dX3_walk_141 : decode cX3_walk 141 = .ok (.iload_n 1, 1) := by decide +kernel
theorem dX3_walk_142 : decode cX3_walk 142 = .ok (.istore_n 1, 1) := by decide +kernel
theorem dX3_walk_143 : decode cX3_walk 143 = .ok (.iload 8, 2) := by decide +kernel
theorem dX3_walk_145 : decode cX3_walk 145 = .ok (.ifCond .ne 8, 3) := by decide +kernel
theorem dX3_walk_148 : decode cX3_walk 148 = .ok (.iload 9, 2) := by decide +kernel
theorem dX3_walk_150 : decode cX3_walk 150 = .ok (.ifCond .ne 9, 3) := by decide +kernel
theorem dX3_walk_153 : decode cX3_walk 153 = .ok (.iload_n 2, 1) := by decide +kernel
theorem dX3_walk_154 : decode cX3_walk 154 = .ok (.iconst 1, 1) := by decide +kernel
theorem dX3_walk_155 : decode cX3_walk 155 = .ok (.isub, 1) := by decide +kernel
theorem dX3_walk_156 : decode cX3_walk 156 = .ok (.goto 4, 3) := by decide +kernel
theorem dX3_walk_159 : decode cX3_walk 159 = .ok (.iload_n 2, 1) := by decide +kernel
theorem dX3_walk_160 : decode cX3_walk 160 = .ok (.istore_n 2, 1) := by decide +kernel
theorem dX3_walk_161 : decode cX3_walk 161 = .ok (.aload_n 0, 1) := by decide +kernel
theorem dX3_walk_162 : decode cX3_walk 162 = .ok (.getfield 32, 3) := by decide +kernel
theorem dX3_walk_165 : decode cX3_walk 165 = .ok (.iload_n 3, 1) := by decide +kernel
theorem dX3_walk_166 : decode cX3_walk 166 = .ok (.bipush 16, 2) := by decide +kernel
theorem dX3_walk_168 : decode cX3_walk 168 = .ok (.iload_n 1, 1) := by decide +kernel
theorem dX3_walk_169 : decode cX3_walk 169 = .ok (.imul, 1) := by decide +kernel
theorem dX3_walk_170 : decode cX3_walk 170 = .ok (.iload_n 2, 1) := by decide +kernel
theorem dX3_walk_171 : decode cX3_walk 171 = .ok (.iadd, 1) := by decide +kernel
theorem dX3_walk_172 : decode cX3_walk 172 = .ok (.iastore, 1) := by decide +kernel
theorem dX3_walk_173 : decode cX3_walk 173 = .ok (.iinc 3 1, 3) := by decide +kernel
theorem dX3_walk_176 : decode cX3_walk 176 = .ok (.goto (-146), 3) := by decide +kernel
theorem dX3_walk_179 : decode cX3_walk 179 = .ok (.iload_n 3, 1) := by decide +kernel
theorem dX3_walk_180 : decode cX3_walk 180 = .ok (.ireturn, 1) := by decide +kernel
theorem dX3_pair_0 : decode cX3_pair 0 = .ok (.aload_n 0, 1) := by decide +kernel
theorem dX3_pair_1 : decode cX3_pair 1 = .ok (.iload_n 1, 1) := by decide +kernel
theorem dX3_pair_2 : decode cX3_pair 2 = .ok (.invokevirtual 57, 3) := by decide +kernel
theorem dX3_pair_5 : decode cX3_pair 5 = .ok (.ifCond .ne 5, 3) := by decide +kernel
theorem dX3_pair_8 : decode cX3_pair 8 = .ok (.iconst 0, 1) := by decide +kernel
theorem dX3_pair_9 : decode cX3_pair 9 = .ok (.ireturn, 1) := by decide +kernel
theorem dX3_pair_10 : decode cX3_pair 10 = .ok (.aload_n 0, 1) := by decide +kernel
theorem dX3_pair_11 : decode cX3_pair 11 = .ok (.iload_n 1, 1) := by decide +kernel
theorem dX3_pair_12 : decode cX3_pair 12 = .ok (.invokevirtual 75, 3) := by decide +kernel
theorem dX3_pair_15 : decode cX3_pair 15 = .ok (.aload_n 0, 1) := by decide +kernel
theorem dX3_pair_16 : decode cX3_pair 16 = .ok (.invokevirtual 79, 3) := by decide +kernel
theorem dX3_pair_19 : decode cX3_pair 19 = .ok (.aload_n 0, 1) := by decide +kernel
theorem dX3_pair_20 : decode cX3_pair 20 = .ok (.invokevirtual 90, 3) := by decide +kernel
theorem dX3_pair_23 : decode cX3_pair 23 = .ok (.istore_n 3, 1) := by decide +kernel
theorem dX3_pair_24 : decode cX3_pair 24 = .ok (.aload_n 0, 1) := by decide +kernel
theorem dX3_pair_25 : decode cX3_pair 25 = .ok (.iload_n 2, 1) := by decide +kernel
theorem dX3_pair_26 : decode cX3_pair 26 = .ok (.iconst 0, 1) := by decide +kernel
theorem dX3_pair_27 : decode cX3_pair 27 = .ok (.iload_n 3, 1) := by decide +kernel
theorem dX3_pair_28 : decode cX3_pair 28 = .ok (.iconst 1, 1) := by decide +kernel
theorem dX3_pair_29 : decode cX3_pair 29 = .ok (.isub, 1) := by decide +kernel
theorem dX3_pair_30 : decode cX3_pair 30 = .ok (.invokestatic 47, 3) := by decide +kernel
theorem dX3_pair_33 : decode cX3_pair 33 = .ok (.ifCond .eq 7, 3) := by decide +kernel
theorem dX3_pair_36 : decode cX3_pair 36 = .ok (.iconst 0, 1) := by decide +kernel
theorem dX3_pair_37 : decode cX3_pair 37 = .ok (.goto 4, 3) := by decide +kernel
theorem dX3_pair_40 : decode cX3_pair 40 = .ok (.iconst 1, 1) := by decide +kernel
theorem dX3_pair_41 : decode cX3_pair 41 = .ok (.putfield 44, 3) := by decide +kernel
theorem dX3_pair_44 : decode cX3_pair 44 = .ok (.aload_n 0, 1) := by decide +kernel
theorem dX3_pair_45 : decode cX3_pair 45 = .ok (.getfield 44, 3) := by decide +kernel
theorem dX3_pair_48 : decode cX3_pair 48 = .ok (.ifCond .le 7, 3) := by decide +kernel
theorem dX3_pair_51 : decode cX3_pair 51 = .ok (.iconst 0, 1) := by decide +kernel
theorem dX3_pair_52 : decode cX3_pair 52 = .ok (.goto 13, 3) := by decide +kernel
theorem dX3_pair_55 : decode cX3_pair 55 = .ok (.aload_n 0, 1) := by decide +kernel
theorem dX3_pair_56 : decode cX3_pair 56 = .ok (.getfield 32, 3) := by decide +kernel
theorem dX3_pair_59 : decode cX3_pair 59 = .ok (.iload_n 3, 1) := by decide +kernel
theorem dX3_pair_60 : decode cX3_pair 60 = .ok (.iconst 1, 1) := by decide +kernel
theorem dX3_pair_61 : decode cX3_pair 61 = .ok (.isub, 1) := by decide +kernel
theorem dX3_pair_62 : decode cX3_pair 62 = .ok (.iload_n 2, 1) := by decide +kernel
theorem dX3_pair_63 : decode cX3_pair 63 = .ok (.isub, 1) := by decide +kernel
theorem dX3_pair_64 : decode cX3_pair 64 = .ok (.iaload, 1) := by decide +kernel
theorem dX3_pair_65 : decode cX3_pair 65 = .ok (.ireturn, 1) := by decide +kernel
theorem dX3_search_0 : decode cX3_search 0 = .ok (.aload_n 0, 1) := by decide +kernel
theorem dX3_search_1 : decode cX3_search 1 = .ok (.iload_n 1, 1) := by decide +kernel
theorem dX3_search_2 : decode cX3_search 2 = .ok (.iconst 1, 1) := by decide +kernel
theorem dX3_search_3 : decode cX3_search 3 = .ok (.bipush 12, 2) := by decide +kernel
theorem dX3_search_5 : decode cX3_search 5 = .ok (.invokestatic 47, 3) := by decide +kernel
theorem dX3_search_8 : decode cX3_search 8 = .ok (.ifCond .ne 7, 3) := by decide +kernel
theorem dX3_search_11 : decode cX3_search 11 = .ok (.iconst 1, 1) := by decide +kernel
theorem dX3_search_12 : decode cX3_search 12 = .ok (.goto 15, 3) := by decide +kernel
theorem dX3_search_15 : decode cX3_search 15 = .ok (.aload_n 0, 1) := by decide +kernel
theorem dX3_search_16 : decode cX3_search 16 = .ok (.getfield 51, 3) := by decide +kernel
theorem dX3_search_19 : decode cX3_search 19 = .ok (.ifCond .ne 7, 3) := by decide +kernel
theorem dX3_search_22 : decode cX3_search 22 = .ok (.iconst 2, 1) := by decide +kernel
theorem dX3_search_23 : decode cX3_search 23 = .ok (.goto 4, 3) := by decide +kernel
theorem dX3_search_26 : decode cX3_search 26 = .ok (.iconst 0, 1) := by decide +kernel
theorem dX3_search_27 : decode cX3_search 27 = .ok (.putfield 44, 3) := by decide +kernel
theorem dX3_search_30 : decode cX3_search 30 = .ok (.aload_n 0, 1) := by decide +kernel
theorem dX3_search_31 : decode cX3_search 31 = .ok (.getfield 44, 3) := by decide +kernel
theorem dX3_search_34 : decode cX3_search 34 = .ok (.ifCond .le 5, 3) := by decide +kernel
theorem dX3_search_37 : decode cX3_search 37 = .ok (.iconst 0, 1) := by decide +kernel
theorem dX3_search_38 : decode cX3_search 38 = .ok (.ireturn, 1) := by decide +kernel
theorem dX3_search_39 : decode cX3_search 39 = .ok (.aload_n 0, 1) := by decide +kernel
theorem dX3_search_40 : decode cX3_search 40 = .ok (.iload_n 1, 1) := by decide +kernel
theorem dX3_search_41 : decode cX3_search 41 = .ok (.invokevirtual 103, 3) := by decide +kernel
theorem dX3_search_44 : decode cX3_search 44 = .ok (.iconst 0, 1) := by decide +kernel
theorem dX3_search_45 : decode cX3_search 45 = .ok (.istore_n 2, 1) := by decide +kernel
theorem dX3_search_46 : decode cX3_search 46 = .ok (.iload_n 2, 1) := by decide +kernel
theorem dX3_search_47 : decode cX3_search 47 = .ok (.aload_n 0, 1) := by decide +kernel
theorem dX3_search_48 : decode cX3_search 48 = .ok (.getfield 51, 3) := by decide +kernel
theorem dX3_search_51 : decode cX3_search 51 = .ok (.if_icmp .ge 19, 3) := by decide +kernel
theorem dX3_search_54 : decode cX3_search 54 = .ok (.aload_n 0, 1) := by decide +kernel
theorem dX3_search_55 : decode cX3_search 55 = .ok (.iload_n 2, 1) := by decide +kernel
theorem dX3_search_56 : decode cX3_search 56 = .ok (.invokevirtual 75, 3) := by decide +kernel
theorem dX3_search_59 : decode cX3_search 59 = .ok (.aload_n 0, 1) := by decide +kernel
theorem dX3_search_60 : decode cX3_search 60 = .ok (.iload_n 2, 1) := by decide +kernel
theorem dX3_search_61 : decode cX3_search 61 = .ok (.invokevirtual 106, 3) := by decide +kernel
theorem dX3_search_64 : decode cX3_search 64 = .ok (.iinc 2 1, 3) := by decide +kernel
theorem dX3_search_67 : decode cX3_search 67 = .ok (.goto (-21), 3) := by decide +kernel
theorem dX3_search_70 : decode cX3_search 70 = .ok (.aload_n 0, 1) := by decide +kernel
theorem dX3_search_71 : decode cX3_search 71 = .ok (.getfield 54, 3) := by decide +kernel
theorem dX3_search_74 : decode cX3_search 74 = .ok (.ireturn, 1) := by decide +kernel
theorem dX3_start_0 : decode cX3_start 0 = .ok (.aload_n 0, 1) := by decide +kernel
theorem dX3_start_1 : decode cX3_start 1 = .ok (.iload_n 1, 1) := by decide +kernel
theorem dX3_start_2 : decode cX3_start 2 = .ok (.putfield 94, 3) := by decide +kernel
theorem dX3_start_5 : decode cX3_start 5 = .ok (.aload_n 0, 1) := by decide +kernel
theorem dX3_start_6 : decode cX3_start 6 = .ok (.iconst 0, 1) := by decide +kernel
theorem dX3_start_7 : decode cX3_start 7 = .ok (.putfield 54, 3) := by decide +kernel
theorem dX3_start_10 : decode cX3_start 10 = .ok (.iconst 0, 1) := by decide +kernel
theorem dX3_start_11 : decode cX3_start 11 = .ok (.istore_n 2, 1) := by decide +kernel
theorem dX3_start_12 : decode cX3_start 12 = .ok (.iload_n 2, 1) := by decide +kernel
theorem dX3_start_13 : decode cX3_start 13 = .ok (.iconst 5, 1) := by decide +kernel
theorem dX3_start_14 : decode cX3_start 14 = .ok (.if_icmp .ge 16, 3) := by decide +kernel
theorem dX3_start_17 : decode cX3_start 17 = .ok (.aload_n 0, 1) := by decide +kernel
theorem dX3_start_18 : decode cX3_start 18 = .ok (.getfield 41, 3) := by decide +kernel
theorem dX3_start_21 : decode cX3_start 21 = .ok (.iload_n 2, 1) := by decide +kernel
theorem dX3_start_22 : decode cX3_start 22 = .ok (.iconst 0, 1) := by decide +kernel
theorem dX3_start_23 : decode cX3_start 23 = .ok (.iastore, 1) := by decide +kernel
theorem dX3_start_24 : decode cX3_start 24 = .ok (.iinc 2 1, 3) := by decide +kernel
theorem dX3_start_27 : decode cX3_start 27 = .ok (.goto (-15), 3) := by decide +kernel
theorem dX3_start_30 : decode cX3_start 30 = .ok (.return_, 1) := by decide +kernel
theorem dX3_turn_0 : decode cX3_turn 0 = .ok (.aload_n 0, 1) := by decide +kernel
theorem dX3_turn_1 : decode cX3_turn 1 = .ok (.getfield 54, 3) := by decide +kernel
theorem dX3_turn_4 : decode cX3_turn 4 = .ok (.aload_n 0, 1) := by decide +kernel
theorem dX3_turn_5 : decode cX3_turn 5 = .ok (.getfield 94, 3) := by decide +kernel
theorem dX3_turn_8 : decode cX3_turn 8 = .ok (.if_icmp .ne 7, 3) := by decide +kernel
theorem dX3_turn_11 : decode cX3_turn 11 = .ok (.iconst 1, 1) := by decide +kernel
theorem dX3_turn_12 : decode cX3_turn 12 = .ok (.goto 4, 3) := by decide +kernel
theorem dX3_turn_15 : decode cX3_turn 15 = .ok (.iconst 0, 1) := by decide +kernel
theorem dX3_turn_16 : decode cX3_turn 16 = .ok (.istore_n 2, 1) := by decide +kernel
theorem dX3_turn_17 : decode cX3_turn 17 = .ok (.iload_n 2, 1) := by decide +kernel
theorem dX3_turn_18 : decode cX3_turn 18 = .ok (.ifCond .eq 17, 3) := by decide +kernel
theorem dX3_turn_21 : decode cX3_turn 21 = .ok (.aload_n 0, 1) := by decide +kernel
theorem dX3_turn_22 : decode cX3_turn 22 = .ok (.getfield 38, 3) := by decide +kernel
theorem dX3_turn_25 : decode cX3_turn 25 = .ok (.aload_n 0, 1) := by decide +kernel
theorem dX3_turn_26 : decode cX3_turn 26 = .ok (.getfield 94, 3) := by decide +kernel
theorem dX3_turn_29 : decode cX3_turn 29 = .ok (.iconst 1, 1) := by decide +kernel
theorem dX3_turn_30 : decode cX3_turn 30 = .ok (.isub, 1) := by decide +kernel
theorem dX3_turn_31 : decode cX3_turn 31 = .ok (.iaload, 1) := by decide +kernel
theorem dX3_turn_32 : decode cX3_turn 32 = .ok (.goto 4, 3) := by decide +kernel
theorem dX3_turn_35 : decode cX3_turn 35 = .ok (.iconst 0, 1) := by decide +kernel
theorem dX3_turn_36 : decode cX3_turn 36 = .ok (.istore_n 3, 1) := by decide +kernel
theorem dX3_turn_37 : decode cX3_turn 37 = .ok (.iconst 0, 1) := by decide +kernel
theorem dX3_turn_38 : decode cX3_turn 38 = .ok (.istore 4, 2) := by decide +kernel
theorem dX3_turn_40 : decode cX3_turn 40 = .ok (.iload 4, 2) := by decide +kernel
theorem dX3_turn_42 : decode cX3_turn 42 = .ok (.iconst 3, 1) := by decide +kernel
theorem dX3_turn_43 : decode cX3_turn 43 = .ok (.if_icmp .ge 30, 3) := by decide +kernel
theorem dX3_turn_46 : decode cX3_turn 46 = .ok (.iload_n 2, 1) := by decide +kernel
theorem dX3_turn_47 : decode cX3_turn 47 = .ok (.ifCond .eq 26, 3) := by decide +kernel
theorem dX3_turn_50 : decode cX3_turn 50 = .ok (.aload_n 0, 1) := by decide +kernel
theorem dX3_turn_51 : decode cX3_turn 51 = .ok (.iload 4, 2) := by decide +kernel
theorem dX3_turn_53 : decode cX3_turn 53 = .ok (.invokevirtual 86, 3) := by decide +kernel
theorem dX3_turn_56 : decode cX3_turn 56 = .ok (.iload_n 3, 1) := by decide +kernel
theorem dX3_turn_57 : decode cX3_turn 57 = .ok (.if_icmp .lt 10, 3) := by decide +kernel
theorem dX3_turn_60 : decode cX3_turn 60 = .ok (.aload_n 0, 1) := by decide +kernel
theorem dX3_turn_61 : decode cX3_turn 61 = .ok (.iload 4, 2) := by decide +kernel
theorem dX3_turn_63 : decode cX3_turn 63 = .ok (.invokevirtual 97, 3) := by decide +kernel
theorem dX3_turn_66 : decode cX3_turn 66 = .ok (.return_, 1) := by decide +kernel
theorem dX3_turn_67 : decode cX3_turn 67 = .ok (.iinc 4 1, 3) := by decide +kernel
theorem dX3_turn_70 : decode cX3_turn 70 = .ok (.goto (-30), 3) := by decide +kernel
theorem dX3_turn_73 : decode cX3_turn 73 = .ok (.aload_n 0, 1) := by decide +kernel
theorem dX3_turn_74 : decode cX3_turn 74 = .ok (.iconst 3, 1) := by decide +kernel
theorem dX3_turn_75 : decode cX3_turn 75 = .ok (.invokevirtual 97, 3) := by decide +kernel
theorem dX3_turn_78 : decode cX3_turn 78 = .ok (.aload_n 0, 1) := by decide +kernel
theorem dX3_turn_79 : decode cX3_turn 79 = .ok (.invokevirtual 79, 3) := by decide +kernel
theorem dX3_turn_82 : decode cX3_turn 82 = .ok (.iload_n 2, 1) := by decide +kernel
theorem dX3_turn_83 : decode cX3_turn 83 = .ok (.ifCond .eq 17, 3) := by decide +kernel
theorem dX3_turn_86 : decode cX3_turn 86 = .ok (.aload_n 0, 1) := by decide +kernel
theorem dX3_turn_87 : decode cX3_turn 87 = .ok (.iload_n 3, 1) := by decide +kernel
theorem dX3_turn_88 : decode cX3_turn 88 = .ok (.invokevirtual 100, 3) := by decide +kernel
theorem dX3_turn_91 : decode cX3_turn 91 = .ok (.ifCond .eq 9, 3) := by decide +kernel
theorem dX3_turn_94 : decode cX3_turn 94 = .ok (.aload_n 0, 1) := by decide +kernel
theorem dX3_turn_95 : decode cX3_turn 95 = .ok (.iconst 4, 1) := by decide +kernel
theorem dX3_turn_96 : decode cX3_turn 96 = .ok (.invokevirtual 97, 3) := by decide +kernel
theorem dX3_turn_99 : decode cX3_turn 99 = .ok (.return_, 1) := by decide +kernel
theorem dX3_turn_100 : decode cX3_turn 100 = .ok (.aload_n 0, 1) := by decide +kernel
theorem dX3_turn_101 : decode cX3_turn 101 = .ok (.aload_n 0, 1) := by decide +kernel
theorem dX3_turn_102 : decode cX3_turn 102 = .ok (.getfield 7, 3) := by decide +kernel
theorem dX3_turn_105 : decode cX3_turn 105 = .ok (.iconst 1, 1) := by decide +kernel
theorem dX3_turn_106 : decode cX3_turn 106 = .ok (.isub, 1) := by decide +kernel
theorem dX3_turn_107 : decode cX3_turn 107 = .ok (.aload_n 0, 1) := by decide +kernel
theorem dX3_turn_108 : decode cX3_turn 108 = .ok (.getfield 7, 3) := by decide +kernel
theorem dX3_turn_111 : decode cX3_turn 111 = .ok (.iconst 1, 1) := by decide +kernel
theorem dX3_turn_112 : decode cX3_turn 112 = .ok (.isub, 1) := by decide +kernel
theorem dX3_turn_113 : decode cX3_turn 113 = .ok (.invokevirtual 68, 3) := by decide +kernel
theorem dX3_turn_116 : decode cX3_turn 116 = .ok (.istore 4, 2) := by decide +kernel
theorem dX3_turn_118 : decode cX3_turn 118 = .ok (.iload_n 2, 1) := by decide +kernel
theorem dX3_turn_119 : decode cX3_turn 119 = .ok (.ifCond .eq 10, 3) := by decide +kernel
theorem dX3_turn_122 : decode cX3_turn 122 = .ok (.iload 4, 2) := by decide +kernel
theorem dX3_turn_124 : decode cX3_turn 124 = .ok (.iload_n 3, 1) := by decide +kernel
theorem dX3_turn_125 : decode cX3_turn 125 = .ok (.if_icmp .lt 4, 3) := by decide +kernel
theorem dX3_turn_128 : decode cX3_turn 128 = .ok (.return_, 1) := by decide +kernel
theorem dX3_turn_129 : decode cX3_turn 129 = .ok (.aload_n 0, 1) := by decide +kernel
theorem dX3_turn_130 : decode cX3_turn 130 = .ok (.getfield 54, 3) := by decide +kernel
theorem dX3_turn_133 : decode cX3_turn 133 = .ok (.istore 5, 2) := by decide +kernel
theorem dX3_turn_135 : decode cX3_turn 135 = .ok (.iload 5, 2) := by decide +kernel
theorem dX3_turn_137 : decode cX3_turn 137 = .ok (.ifCond .le 55, 3) := by decide +kernel
theorem dX3_turn_140 : decode cX3_turn 140 = .ok (.aload_n 0, 1) := by decide +kernel
theorem dX3_turn_141 : decode cX3_turn 141 = .ok (.getfield 38, 3) := by decide +kernel
theorem dX3_turn_144 : decode cX3_turn 144 = .ok (.iload 5, 2) := by decide +kernel
theorem dX3_turn_146 : decode cX3_turn 146 = .ok (.iconst 1, 1) := by decide +kernel
theorem dX3_turn_147 : decode cX3_turn 147 = .ok (.isub, 1) := by decide +kernel
theorem dX3_turn_148 : decode cX3_turn 148 = .ok (.iaload, 1) := by decide +kernel
theorem dX3_turn_149 : decode cX3_turn 149 = .ok (.iload 4, 2) := by decide +kernel
theorem dX3_turn_151 : decode cX3_turn 151 = .ok (.if_icmp .le 41, 3) := by decide +kernel
theorem dX3_turn_154 : decode cX3_turn 154 = .ok (.aload_n 0, 1) := by decide +kernel
theorem dX3_turn_155 : decode cX3_turn 155 = .ok (.getfield 38, 3) := by decide +kernel
theorem dX3_turn_158 : decode cX3_turn 158 = .ok (.iload 5, 2) := by decide +kernel
theorem dX3_turn_160 : decode cX3_turn 160 = .ok (.aload_n 0, 1) := by decide +kernel
theorem dX3_turn_161 : decode cX3_turn 161 = .ok (.getfield 38, 3) := by decide +kernel
theorem dX3_turn_164 : decode cX3_turn 164 = .ok (.iload 5, 2) := by decide +kernel
theorem dX3_turn_166 : decode cX3_turn 166 = .ok (.iconst 1, 1) := by decide +kernel
theorem dX3_turn_167 : decode cX3_turn 167 = .ok (.isub, 1) := by decide +kernel
theorem dX3_turn_168 : decode cX3_turn 168 = .ok (.iaload, 1) := by decide +kernel
theorem dX3_turn_169 : decode cX3_turn 169 = .ok (.iastore, 1) := by decide +kernel
theorem dX3_turn_170 : decode cX3_turn 170 = .ok (.aload_n 0, 1) := by decide +kernel
theorem dX3_turn_171 : decode cX3_turn 171 = .ok (.getfield 35, 3) := by decide +kernel
theorem dX3_turn_174 : decode cX3_turn 174 = .ok (.iload 5, 2) := by decide +kernel
theorem dX3_turn_176 : decode cX3_turn 176 = .ok (.aload_n 0, 1) := by decide +kernel
theorem dX3_turn_177 : decode cX3_turn 177 = .ok (.getfield 35, 3) := by decide +kernel
theorem dX3_turn_180 : decode cX3_turn 180 = .ok (.iload 5, 2) := by decide +kernel
theorem dX3_turn_182 : decode cX3_turn 182 = .ok (.iconst 1, 1) := by decide +kernel
theorem dX3_turn_183 : decode cX3_turn 183 = .ok (.isub, 1) := by decide +kernel
theorem dX3_turn_184 : decode cX3_turn 184 = .ok (.iaload, 1) := by decide +kernel
theorem dX3_turn_185 : decode cX3_turn 185 = .ok (.iastore, 1) := by decide +kernel
theorem dX3_turn_186 : decode cX3_turn 186 = .ok (.iinc 5 (-1), 3) := by decide +kernel
theorem dX3_turn_189 : decode cX3_turn 189 = .ok (.goto (-54), 3) := by decide +kernel
theorem dX3_turn_192 : decode cX3_turn 192 = .ok (.aload_n 0, 1) := by decide +kernel
theorem dX3_turn_193 : decode cX3_turn 193 = .ok (.getfield 38, 3) := by decide +kernel
theorem dX3_turn_196 : decode cX3_turn 196 = .ok (.iload 5, 2) := by decide +kernel
theorem dX3_turn_198 : decode cX3_turn 198 = .ok (.iload 4, 2) := by decide +kernel
theorem dX3_turn_200 : decode cX3_turn 200 = .ok (.iastore, 1) := by decide +kernel
theorem dX3_turn_201 : decode cX3_turn 201 = .ok (.aload_n 0, 1) := by decide +kernel
theorem dX3_turn_202 : decode cX3_turn 202 = .ok (.getfield 35, 3) := by decide +kernel
theorem dX3_turn_205 : decode cX3_turn 205 = .ok (.iload 5, 2) := by decide +kernel
theorem dX3_turn_207 : decode cX3_turn 207 = .ok (.iload_n 1, 1) := by decide +kernel
theorem dX3_turn_208 : decode cX3_turn 208 = .ok (.iastore, 1) := by decide +kernel
theorem dX3_turn_209 : decode cX3_turn 209 = .ok (.aload_n 0, 1) := by decide +kernel
theorem dX3_turn_210 : decode cX3_turn 210 = .ok (.aload_n 0, 1) := by decide +kernel
theorem dX3_turn_211 : decode cX3_turn 211 = .ok (.getfield 54, 3) := by decide +kernel
theorem dX3_turn_214 : decode cX3_turn 214 = .ok (.aload_n 0, 1) := by decide +kernel
theorem dX3_turn_215 : decode cX3_turn 215 = .ok (.getfield 94, 3) := by decide +kernel
theorem dX3_turn_218 : decode cX3_turn 218 = .ok (.if_icmp .ge 12, 3) := by decide +kernel
theorem dX3_turn_221 : decode cX3_turn 221 = .ok (.aload_n 0, 1) := by decide +kernel
theorem dX3_turn_222 : decode cX3_turn 222 = .ok (.getfield 54, 3) := by decide +kernel
theorem dX3_turn_225 : decode cX3_turn 225 = .ok (.iconst 1, 1) := by decide +kernel
theorem dX3_turn_226 : decode cX3_turn 226 = .ok (.iadd, 1) := by decide +kernel
theorem dX3_turn_227 : decode cX3_turn 227 = .ok (.goto 7, 3) := by decide +kernel
theorem dX3_turn_230 : decode cX3_turn 230 = .ok (.aload_n 0, 1) := by decide +kernel
theorem dX3_turn_231 : decode cX3_turn 231 = .ok (.getfield 94, 3) := by decide +kernel
theorem dX3_turn_234 : decode cX3_turn 234 = .ok (.putfield 54, 3) := by decide +kernel
theorem dX3_turn_237 : decode cX3_turn 237 = .ok (.return_, 1) := by decide +kernel
theorem dX3_tally_0 : decode cX3_tally 0 = .ok (.aload_n 0, 1) := by decide +kernel
theorem dX3_tally_1 : decode cX3_tally 1 = .ok (.getfield 41, 3) := by decide +kernel
theorem dX3_tally_4 : decode cX3_tally 4 = .ok (.iload_n 1, 1) := by decide +kernel
theorem dX3_tally_5 : decode cX3_tally 5 = .ok (.aload_n 0, 1) := by decide +kernel
theorem dX3_tally_6 : decode cX3_tally 6 = .ok (.getfield 41, 3) := by decide +kernel
theorem dX3_tally_9 : decode cX3_tally 9 = .ok (.iload_n 1, 1) := by decide +kernel
theorem dX3_tally_10 : decode cX3_tally 10 = .ok (.iaload, 1) := by decide +kernel
theorem dX3_tally_11 : decode cX3_tally 11 = .ok (.iconst 1, 1) := by decide +kernel
theorem dX3_tally_12 : decode cX3_tally 12 = .ok (.iadd, 1) := by decide +kernel
theorem dX3_tally_13 : decode cX3_tally 13 = .ok (.iastore, 1) := by decide +kernel
theorem dX3_tally_14 : decode cX3_tally 14 = .ok (.return_, 1) := by decide +kernel
theorem dX3_givesUp_0 : decode cX3_givesUp 0 = .ok (.iconst 0, 1) := by decide +kernel
theorem dX3_givesUp_1 : decode cX3_givesUp 1 = .ok (.istore_n 2, 1) := by decide +kernel
theorem dX3_givesUp_2 : decode cX3_givesUp 2 = .ok (.iload_n 2, 1) := by decide +kernel
theorem dX3_givesUp_3 : decode cX3_givesUp 3 = .ok (.aload_n 0, 1) := by decide +kernel
theorem dX3_givesUp_4 : decode cX3_givesUp 4 = .ok (.getfield 7, 3) := by decide +kernel
theorem dX3_givesUp_7 : decode cX3_givesUp 7 = .ok (.if_icmp .ge 71, 3) := by decide +kernel
theorem dX3_givesUp_10 : decode cX3_givesUp 10 = .ok (.iconst 1, 1) := by decide +kernel
theorem dX3_givesUp_11 : decode cX3_givesUp 11 = .ok (.istore_n 3, 1) := by decide +kernel
theorem dX3_givesUp_12 : decode cX3_givesUp 12 = .ok (.iconst 0, 1) := by decide +kernel
theorem dX3_givesUp_13 : decode cX3_givesUp 13 = .ok (.istore 4, 2) := by decide +kernel
theorem dX3_givesUp_15 : decode cX3_givesUp 15 = .ok (.iload 4, 2) := by decide +kernel
theorem dX3_givesUp_17 : decode cX3_givesUp 17 = .ok (.aload_n 0, 1) := by decide +kernel
theorem dX3_givesUp_18 : decode cX3_givesUp 18 = .ok (.getfield 7, 3) := by decide +kernel
theorem dX3_givesUp_21 : decode cX3_givesUp 21 = .ok (.if_icmp .ge 45, 3) := by decide +kernel
theorem dX3_givesUp_24 : decode cX3_givesUp 24 = .ok (.iload_n 3, 1) := by decide +kernel
theorem dX3_givesUp_25 : decode cX3_givesUp 25 = .ok (.ifCond .eq 33, 3) := by decide +kernel
theorem dX3_givesUp_28 : decode cX3_givesUp 28 = .ok (.aload_n 0, 1) := by decide +kernel
theorem dX3_givesUp_29 : decode cX3_givesUp 29 = .ok (.iload_n 2, 1) := by decide +kernel
theorem dX3_givesUp_30 : decode cX3_givesUp 30 = .ok (.iload 4, 2) := by decide +kernel
theorem dX3_givesUp_32 : decode cX3_givesUp 32 = .ok (.invokevirtual 64, 3) := by decide +kernel
theorem dX3_givesUp_35 : decode cX3_givesUp 35 = .ok (.ifCond .eq 19, 3) := by decide +kernel
theorem dX3_givesUp_38 : decode cX3_givesUp 38 = .ok (.aload_n 0, 1) := by decide +kernel
theorem dX3_givesUp_39 : decode cX3_givesUp 39 = .ok (.getfield 29, 3) := by decide +kernel
theorem dX3_givesUp_42 : decode cX3_givesUp 42 = .ok (.bipush 16, 2) := by decide +kernel
theorem dX3_givesUp_44 : decode cX3_givesUp 44 = .ok (.iload_n 2, 1) := by decide +kernel
theorem dX3_givesUp_45 : decode cX3_givesUp 45 = .ok (.imul, 1) := by decide +kernel
theorem dX3_givesUp_46 : decode cX3_givesUp 46 = .ok (.iload 4, 2) := by decide +kernel
theorem dX3_givesUp_48 : decode cX3_givesUp 48 = .ok (.iadd, 1) := by decide +kernel
theorem dX3_givesUp_49 : decode cX3_givesUp 49 = .ok (.iaload, 1) := by decide +kernel
theorem dX3_givesUp_50 : decode cX3_givesUp 50 = .ok (.iload_n 1, 1) := by decide +kernel
theorem dX3_givesUp_51 : decode cX3_givesUp 51 = .ok (.if_icmp .lt 7, 3) := by decide +kernel
theorem dX3_givesUp_54 : decode cX3_givesUp 54 = .ok (.iconst 1, 1) := by decide +kernel
theorem dX3_givesUp_55 : decode cX3_givesUp 55 = .ok (.goto 4, 3) := by decide +kernel
theorem dX3_givesUp_58 : decode cX3_givesUp 58 = .ok (.iconst 0, 1) := by decide +kernel
theorem dX3_givesUp_59 : decode cX3_givesUp 59 = .ok (.istore_n 3, 1) := by decide +kernel
theorem dX3_givesUp_60 : decode cX3_givesUp 60 = .ok (.iinc 4 1, 3) := by decide +kernel
theorem dX3_givesUp_63 : decode cX3_givesUp 63 = .ok (.goto (-48), 3) := by decide +kernel
theorem dX3_givesUp_66 : decode cX3_givesUp 66 = .ok (.iload_n 3, 1) := by decide +kernel
theorem dX3_givesUp_67 : decode cX3_givesUp 67 = .ok (.ifCond .eq 5, 3) := by decide +kernel
theorem dX3_givesUp_70 : decode cX3_givesUp 70 = .ok (.iconst 1, 1) := by decide +kernel
theorem dX3_givesUp_71 : decode cX3_givesUp 71 = .ok (.ireturn, 1) := by decide +kernel
theorem dX3_givesUp_72 : decode cX3_givesUp 72 = .ok (.iinc 2 1, 3) := by decide +kernel
theorem dX3_givesUp_75 : decode cX3_givesUp 75 = .ok (.goto (-73), 3) := by decide +kernel
theorem dX3_givesUp_78 : decode cX3_givesUp 78 = .ok (.iconst 0, 1) := by decide +kernel
theorem dX3_givesUp_79 : decode cX3_givesUp 79 = .ok (.ireturn, 1) := by decide +kernel
theorem dX3_scan_0 : decode cX3_scan 0 = .ok (.aload_n 0, 1) := by decide +kernel
theorem dX3_scan_1 : decode cX3_scan 1 = .ok (.iload_n 1, 1) := by decide +kernel
theorem dX3_scan_2 : decode cX3_scan 2 = .ok (.iconst 1, 1) := by decide +kernel
theorem dX3_scan_3 : decode cX3_scan 3 = .ok (.bipush 12, 2) := by decide +kernel
theorem dX3_scan_5 : decode cX3_scan 5 = .ok (.invokestatic 47, 3) := by decide +kernel
theorem dX3_scan_8 : decode cX3_scan 8 = .ok (.ifCond .ne 7, 3) := by decide +kernel
theorem dX3_scan_11 : decode cX3_scan 11 = .ok (.iconst 1, 1) := by decide +kernel
theorem dX3_scan_12 : decode cX3_scan 12 = .ok (.goto 19, 3) := by decide +kernel
theorem dX3_scan_15 : decode cX3_scan 15 = .ok (.aload_n 0, 1) := by decide +kernel
theorem dX3_scan_16 : decode cX3_scan 16 = .ok (.getfield 109, 3) := by decide +kernel
theorem dX3_scan_19 : decode cX3_scan 19 = .ok (.aload_n 0, 1) := by decide +kernel
theorem dX3_scan_20 : decode cX3_scan 20 = .ok (.getfield 7, 3) := by decide +kernel
theorem dX3_scan_23 : decode cX3_scan 23 = .ok (.if_icmp .ge 7, 3) := by decide +kernel
theorem dX3_scan_26 : decode cX3_scan 26 = .ok (.iconst 2, 1) := by decide +kernel
theorem dX3_scan_27 : decode cX3_scan 27 = .ok (.goto 4, 3) := by decide +kernel
theorem dX3_scan_30 : decode cX3_scan 30 = .ok (.iconst 0, 1) := by decide +kernel
theorem dX3_scan_31 : decode cX3_scan 31 = .ok (.putfield 44, 3) := by decide +kernel
theorem dX3_scan_34 : decode cX3_scan 34 = .ok (.aload_n 0, 1) := by decide +kernel
theorem dX3_scan_35 : decode cX3_scan 35 = .ok (.getfield 44, 3) := by decide +kernel
theorem dX3_scan_38 : decode cX3_scan 38 = .ok (.ifCond .le 5, 3) := by decide +kernel
theorem dX3_scan_41 : decode cX3_scan 41 = .ok (.iconst 0, 1) := by decide +kernel
theorem dX3_scan_42 : decode cX3_scan 42 = .ok (.ireturn, 1) := by decide +kernel
theorem dX3_scan_43 : decode cX3_scan 43 = .ok (.aload_n 0, 1) := by decide +kernel
theorem dX3_scan_44 : decode cX3_scan 44 = .ok (.iload_n 1, 1) := by decide +kernel
theorem dX3_scan_45 : decode cX3_scan 45 = .ok (.invokevirtual 103, 3) := by decide +kernel
theorem dX3_scan_48 : decode cX3_scan 48 = .ok (.iconst 0, 1) := by decide +kernel
theorem dX3_scan_49 : decode cX3_scan 49 = .ok (.istore_n 2, 1) := by decide +kernel
theorem dX3_scan_50 : decode cX3_scan 50 = .ok (.iload_n 2, 1) := by decide +kernel
theorem dX3_scan_51 : decode cX3_scan 51 = .ok (.aload_n 0, 1) := by decide +kernel
theorem dX3_scan_52 : decode cX3_scan 52 = .ok (.getfield 7, 3) := by decide +kernel
theorem dX3_scan_55 : decode cX3_scan 55 = .ok (.iadd, 1) := by decide +kernel
theorem dX3_scan_56 : decode cX3_scan 56 = .ok (.aload_n 0, 1) := by decide +kernel
theorem dX3_scan_57 : decode cX3_scan 57 = .ok (.getfield 109, 3) := by decide +kernel
theorem dX3_scan_60 : decode cX3_scan 60 = .ok (.if_icmp .gt 19, 3) := by decide +kernel
theorem dX3_scan_63 : decode cX3_scan 63 = .ok (.aload_n 0, 1) := by decide +kernel
theorem dX3_scan_64 : decode cX3_scan 64 = .ok (.iload_n 2, 1) := by decide +kernel
theorem dX3_scan_65 : decode cX3_scan 65 = .ok (.invokevirtual 112, 3) := by decide +kernel
theorem dX3_scan_68 : decode cX3_scan 68 = .ok (.aload_n 0, 1) := by decide +kernel
theorem dX3_scan_69 : decode cX3_scan 69 = .ok (.iload_n 2, 1) := by decide +kernel
theorem dX3_scan_70 : decode cX3_scan 70 = .ok (.invokevirtual 106, 3) := by decide +kernel
theorem dX3_scan_73 : decode cX3_scan 73 = .ok (.iinc 2 1, 3) := by decide +kernel
theorem dX3_scan_76 : decode cX3_scan 76 = .ok (.goto (-26), 3) := by decide +kernel
theorem dX3_scan_79 : decode cX3_scan 79 = .ok (.aload_n 0, 1) := by decide +kernel
theorem dX3_scan_80 : decode cX3_scan 80 = .ok (.getfield 54, 3) := by decide +kernel
theorem dX3_scan_83 : decode cX3_scan 83 = .ok (.ireturn, 1) := by decide +kernel
theorem dX3_takeWindow_0 : decode cX3_takeWindow 0 = .ok (.iconst 0, 1) := by decide +kernel
theorem dX3_takeWindow_1 : decode cX3_takeWindow 1 = .ok (.istore_n 2, 1) := by decide +kernel
theorem dX3_takeWindow_2 : decode cX3_takeWindow 2 = .ok (.iload_n 2, 1) := by decide +kernel
theorem dX3_takeWindow_3 : decode cX3_takeWindow 3 = .ok (.aload_n 0, 1) := by decide +kernel
theorem dX3_takeWindow_4 : decode cX3_takeWindow 4 = .ok (.getfield 7, 3) := by decide +kernel
theorem dX3_takeWindow_7 : decode cX3_takeWindow 7 = .ok (.if_icmp .ge 23, 3) := by decide +kernel
theorem dX3_takeWindow_10 : decode cX3_takeWindow 10 = .ok (.aload_n 0, 1) := by decide +kernel
theorem dX3_takeWindow_11 : decode cX3_takeWindow 11 = .ok (.getfield 26, 3) := by decide +kernel
theorem dX3_takeWindow_14 : decode cX3_takeWindow 14 = .ok (.iload_n 2, 1) := by decide +kernel
theorem dX3_takeWindow_15 : decode cX3_takeWindow 15 = .ok (.aload_n 0, 1) := by decide +kernel
theorem dX3_takeWindow_16 : decode cX3_takeWindow 16 = .ok (.getfield 23, 3) := by decide +kernel
theorem dX3_takeWindow_19 : decode cX3_takeWindow 19 = .ok (.iload_n 1, 1) := by decide +kernel
theorem dX3_takeWindow_20 : decode cX3_takeWindow 20 = .ok (.iload_n 2, 1) := by decide +kernel
theorem dX3_takeWindow_21 : decode cX3_takeWindow 21 = .ok (.iadd, 1) := by decide +kernel
theorem dX3_takeWindow_22 : decode cX3_takeWindow 22 = .ok (.iaload, 1) := by decide +kernel
theorem dX3_takeWindow_23 : decode cX3_takeWindow 23 = .ok (.iastore, 1) := by decide +kernel
theorem dX3_takeWindow_24 : decode cX3_takeWindow 24 = .ok (.iinc 2 1, 3) := by decide +kernel
theorem dX3_takeWindow_27 : decode cX3_takeWindow 27 = .ok (.goto (-25), 3) := by decide +kernel
theorem dX3_takeWindow_30 : decode cX3_takeWindow 30 = .ok (.return_, 1) := by decide +kernel
theorem dX3_found_0 : decode cX3_found 0 = .ok (.aload_n 0, 1) := by decide +kernel
theorem dX3_found_1 : decode cX3_found 1 = .ok (.iload_n 1, 1) := by decide +kernel
theorem dX3_found_2 : decode cX3_found 2 = .ok (.iconst 0, 1) := by decide +kernel
theorem dX3_found_3 : decode cX3_found 3 = .ok (.aload_n 0, 1) := by decide +kernel
theorem dX3_found_4 : decode cX3_found 4 = .ok (.getfield 54, 3) := by decide +kernel
theorem dX3_found_7 : decode cX3_found 7 = .ok (.iconst 1, 1) := by decide +kernel
theorem dX3_found_8 : decode cX3_found 8 = .ok (.isub, 1) := by decide +kernel
theorem dX3_found_9 : decode cX3_found 9 = .ok (.invokestatic 47, 3) := by decide +kernel
theorem dX3_found_12 : decode cX3_found 12 = .ok (.ifCond .eq 7, 3) := by decide +kernel
theorem dX3_found_15 : decode cX3_found 15 = .ok (.iconst 0, 1) := by decide +kernel
theorem dX3_found_16 : decode cX3_found 16 = .ok (.goto 4, 3) := by decide +kernel
theorem dX3_found_19 : decode cX3_found 19 = .ok (.iconst 1, 1) := by decide +kernel
theorem dX3_found_20 : decode cX3_found 20 = .ok (.putfield 44, 3) := by decide +kernel
theorem dX3_found_23 : decode cX3_found 23 = .ok (.aload_n 0, 1) := by decide +kernel
theorem dX3_found_24 : decode cX3_found 24 = .ok (.getfield 44, 3) := by decide +kernel
theorem dX3_found_27 : decode cX3_found 27 = .ok (.ifCond .le 7, 3) := by decide +kernel
theorem dX3_found_30 : decode cX3_found 30 = .ok (.iconst 0, 1) := by decide +kernel
theorem dX3_found_31 : decode cX3_found 31 = .ok (.goto 22, 3) := by decide +kernel
theorem dX3_found_34 : decode cX3_found 34 = .ok (.iload_n 2, 1) := by decide +kernel
theorem dX3_found_35 : decode cX3_found 35 = .ok (.ifCond .eq 12, 3) := by decide +kernel
theorem dX3_found_38 : decode cX3_found 38 = .ok (.aload_n 0, 1) := by decide +kernel
theorem dX3_found_39 : decode cX3_found 39 = .ok (.getfield 38, 3) := by decide +kernel
theorem dX3_found_42 : decode cX3_found 42 = .ok (.iload_n 1, 1) := by decide +kernel
theorem dX3_found_43 : decode cX3_found 43 = .ok (.iaload, 1) := by decide +kernel
theorem dX3_found_44 : decode cX3_found 44 = .ok (.goto 9, 3) := by decide +kernel
theorem dX3_found_47 : decode cX3_found 47 = .ok (.aload_n 0, 1) := by decide +kernel
theorem dX3_found_48 : decode cX3_found 48 = .ok (.getfield 35, 3) := by decide +kernel
theorem dX3_found_51 : decode cX3_found 51 = .ok (.iload_n 1, 1) := by decide +kernel
theorem dX3_found_52 : decode cX3_found 52 = .ok (.iaload, 1) := by decide +kernel
theorem dX3_found_53 : decode cX3_found 53 = .ok (.ireturn, 1) := by decide +kernel
theorem dX3_guess_0 : decode cX3_guess 0 = .ok (.aload_n 0, 1) := by decide +kernel
theorem dX3_guess_1 : decode cX3_guess 1 = .ok (.iload_n 1, 1) := by decide +kernel
theorem dX3_guess_2 : decode cX3_guess 2 = .ok (.invokevirtual 115, 3) := by decide +kernel
theorem dX3_guess_5 : decode cX3_guess 5 = .ok (.istore_n 2, 1) := by decide +kernel
theorem dX3_guess_6 : decode cX3_guess 6 = .ok (.iconst 0, 1) := by decide +kernel
theorem dX3_guess_7 : decode cX3_guess 7 = .ok (.istore_n 3, 1) := by decide +kernel
theorem dX3_guess_8 : decode cX3_guess 8 = .ok (.iconst 0, 1) := by decide +kernel
theorem dX3_guess_9 : decode cX3_guess 9 = .ok (.istore 4, 2) := by decide +kernel
theorem dX3_guess_11 : decode cX3_guess 11 = .ok (.iconst 0, 1) := by decide +kernel
theorem dX3_guess_12 : decode cX3_guess 12 = .ok (.istore 5, 2) := by decide +kernel
theorem dX3_guess_14 : decode cX3_guess 14 = .ok (.iload 5, 2) := by decide +kernel
theorem dX3_guess_16 : decode cX3_guess 16 = .ok (.iload_n 2, 1) := by decide +kernel
theorem dX3_guess_17 : decode cX3_guess 17 = .ok (.if_icmp .ge 112, 3) := by decide +kernel
theorem dX3_guess_20 : decode cX3_guess 20 = .ok (.aload_n 0, 1) := by decide +kernel
theorem dX3_guess_21 : decode cX3_guess 21 = .ok (.getfield 44, 3) := by decide +kernel
theorem dX3_guess_24 : decode cX3_guess 24 = .ok (.ifCond .ne 105, 3) := by decide +kernel
theorem dX3_guess_27 : decode cX3_guess 27 = .ok (.iconst 0, 1) := by decide +kernel
theorem dX3_guess_28 : decode cX3_guess 28 = .ok (.istore 6, 2) := by decide +kernel
theorem dX3_guess_30 : decode cX3_guess 30 = .ok (.iconst 0, 1) := by decide +kernel
theorem dX3_guess_31 : decode cX3_guess 31 = .ok (.istore 7, 2) := by decide +kernel
theorem dX3_guess_33 : decode cX3_guess 33 = .ok (.iload 7, 2) := by decide +kernel
theorem dX3_guess_35 : decode cX3_guess 35 = .ok (.iload_n 2, 1) := by decide +kernel
theorem dX3_guess_36 : decode cX3_guess 36 = .ok (.if_icmp .ge 47, 3) := by decide +kernel
theorem dX3_guess_39 : decode cX3_guess 39 = .ok (.aload_n 0, 1) := by decide +kernel
theorem dX3_guess_40 : decode cX3_guess 40 = .ok (.getfield 20, 3) := by decide +kernel
theorem dX3_guess_43 : decode cX3_guess 43 = .ok (.aload_n 0, 1) := by decide +kernel
theorem dX3_guess_44 : decode cX3_guess 44 = .ok (.getfield 35, 3) := by decide +kernel
theorem dX3_guess_47 : decode cX3_guess 47 = .ok (.iload 7, 2) := by decide +kernel
theorem dX3_guess_49 : decode cX3_guess 49 = .ok (.iaload, 1) := by decide +kernel
theorem dX3_guess_50 : decode cX3_guess 50 = .ok (.iaload, 1) := by decide +kernel
theorem dX3_guess_51 : decode cX3_guess 51 = .ok (.aload_n 0, 1) := by decide +kernel
theorem dX3_guess_52 : decode cX3_guess 52 = .ok (.getfield 20, 3) := by decide +kernel
theorem dX3_guess_55 : decode cX3_guess 55 = .ok (.aload_n 0, 1) := by decide +kernel
theorem dX3_guess_56 : decode cX3_guess 56 = .ok (.getfield 35, 3) := by decide +kernel
theorem dX3_guess_59 : decode cX3_guess 59 = .ok (.iload 5, 2) := by decide +kernel
theorem dX3_guess_61 : decode cX3_guess 61 = .ok (.iaload, 1) := by decide +kernel
theorem dX3_guess_62 : decode cX3_guess 62 = .ok (.iaload, 1) := by decide +kernel
theorem dX3_guess_63 : decode cX3_guess 63 = .ok (.if_icmp .ne 10, 3) := by decide +kernel
theorem dX3_guess_66 : decode cX3_guess 66 = .ok (.iload 6, 2) := by decide +kernel
theorem dX3_guess_68 : decode cX3_guess 68 = .ok (.iconst 1, 1) := by decide +kernel
theorem dX3_guess_69 : decode cX3_guess 69 = .ok (.iadd, 1) := by decide +kernel
theorem dX3_guess_70 : decode cX3_guess 70 = .ok (.goto 5, 3) := by decide +kernel
theorem dX3_guess_73 : decode cX3_guess 73 = .ok (.iload 6, 2) := by decide +kernel
theorem dX3_guess_75 : decode cX3_guess 75 = .ok (.istore 6, 2) := by decide +kernel
theorem dX3_guess_77 : decode cX3_guess 77 = .ok (.iinc 7 1, 3) := by decide +kernel
theorem dX3_guess_80 : decode cX3_guess 80 = .ok (.goto (-47), 3) := by decide +kernel
theorem dX3_guess_83 : decode cX3_guess 83 = .ok (.iload 6, 2) := by decide +kernel
theorem dX3_guess_85 : decode cX3_guess 85 = .ok (.iload 4, 2) := by decide +kernel
theorem dX3_guess_87 : decode cX3_guess 87 = .ok (.if_icmp .le 18, 3) := by decide +kernel
theorem dX3_guess_90 : decode cX3_guess 90 = .ok (.aload_n 0, 1) := by decide +kernel
theorem dX3_guess_91 : decode cX3_guess 91 = .ok (.getfield 20, 3) := by decide +kernel
theorem dX3_guess_94 : decode cX3_guess 94 = .ok (.aload_n 0, 1) := by decide +kernel
theorem dX3_guess_95 : decode cX3_guess 95 = .ok (.getfield 35, 3) := by decide +kernel
theorem dX3_guess_98 : decode cX3_guess 98 = .ok (.iload 5, 2) := by decide +kernel
theorem dX3_guess_100 : decode cX3_guess 100 = .ok (.iaload, 1) := by decide +kernel
theorem dX3_guess_101 : decode cX3_guess 101 = .ok (.iaload, 1) := by decide +kernel
theorem dX3_guess_102 : decode cX3_guess 102 = .ok (.goto 4, 3) := by decide +kernel
theorem dX3_guess_105 : decode cX3_guess 105 = .ok (.iload_n 3, 1) := by decide +kernel
theorem dX3_guess_106 : decode cX3_guess 106 = .ok (.istore_n 3, 1) := by decide +kernel
theorem dX3_guess_107 : decode cX3_guess 107 = .ok (.iload 6, 2) := by decide +kernel
theorem dX3_guess_109 : decode cX3_guess 109 = .ok (.iload 4, 2) := by decide +kernel
theorem dX3_guess_111 : decode cX3_guess 111 = .ok (.if_icmp .le 8, 3) := by decide +kernel
theorem dX3_guess_114 : decode cX3_guess 114 = .ok (.iload 6, 2) := by decide +kernel
theorem dX3_guess_116 : decode cX3_guess 116 = .ok (.goto 5, 3) := by decide +kernel
theorem dX3_guess_119 : decode cX3_guess 119 = .ok (.iload 4, 2) := by decide +kernel
theorem dX3_guess_121 : decode cX3_guess 121 = .ok (.istore 4, 2) := by decide +kernel
theorem dX3_guess_123 : decode cX3_guess 123 = .ok (.iinc 5 1, 3) := by decide +kernel
theorem dX3_guess_126 : decode cX3_guess 126 = .ok (.goto (-112), 3) := by decide +kernel
theorem dX3_guess_129 : decode cX3_guess 129 = .ok (.iload_n 3, 1) := by decide +kernel
theorem dX3_guess_130 : decode cX3_guess 130 = .ok (.ireturn, 1) := by decide +kernel
theorem dX3_count_0 : decode cX3_count 0 = .ok (.aload_n 0, 1) := by decide +kernel
theorem dX3_count_1 : decode cX3_count 1 = .ok (.iload_n 1, 1) := by decide +kernel
theorem dX3_count_2 : decode cX3_count 2 = .ok (.iconst 0, 1) := by decide +kernel
theorem dX3_count_3 : decode cX3_count 3 = .ok (.iconst 4, 1) := by decide +kernel
theorem dX3_count_4 : decode cX3_count 4 = .ok (.invokestatic 47, 3) := by decide +kernel
theorem dX3_count_7 : decode cX3_count 7 = .ok (.ifCond .eq 7, 3) := by decide +kernel
theorem dX3_count_10 : decode cX3_count 10 = .ok (.iconst 0, 1) := by decide +kernel
theorem dX3_count_11 : decode cX3_count 11 = .ok (.goto 4, 3) := by decide +kernel
theorem dX3_count_14 : decode cX3_count 14 = .ok (.iconst 1, 1) := by decide +kernel
theorem dX3_count_15 : decode cX3_count 15 = .ok (.putfield 44, 3) := by decide +kernel
theorem dX3_count_18 : decode cX3_count 18 = .ok (.aload_n 0, 1) := by decide +kernel
theorem dX3_count_19 : decode cX3_count 19 = .ok (.getfield 44, 3) := by decide +kernel
theorem dX3_count_22 : decode cX3_count 22 = .ok (.ifCond .le 7, 3) := by decide +kernel
theorem dX3_count_25 : decode cX3_count 25 = .ok (.iconst 0, 1) := by decide +kernel
theorem dX3_count_26 : decode cX3_count 26 = .ok (.goto 9, 3) := by decide +kernel
theorem dX3_count_29 : decode cX3_count 29 = .ok (.aload_n 0, 1) := by decide +kernel
theorem dX3_count_30 : decode cX3_count 30 = .ok (.getfield 41, 3) := by decide +kernel
theorem dX3_count_33 : decode cX3_count 33 = .ok (.iload_n 1, 1) := by decide +kernel
theorem dX3_count_34 : decode cX3_count 34 = .ok (.iaload, 1) := by decide +kernel
theorem dX3_count_35 : decode cX3_count 35 = .ok (.ireturn, 1) := by decide +kernel
theorem dX3_push_0 : decode cX3_push 0 = .ok (.aload_n 0, 1) := by decide +kernel
theorem dX3_push_1 : decode cX3_push 1 = .ok (.iload_n 1, 1) := by decide +kernel
theorem dX3_push_2 : decode cX3_push 2 = .ok (.sipush (-1000), 3) := by decide +kernel
theorem dX3_push_5 : decode cX3_push 5 = .ok (.sipush 1000, 3) := by decide +kernel
theorem dX3_push_8 : decode cX3_push 8 = .ok (.invokestatic 47, 3) := by decide +kernel
theorem dX3_push_11 : decode cX3_push 11 = .ok (.ifCond .ne 7, 3) := by decide +kernel
theorem dX3_push_14 : decode cX3_push 14 = .ok (.iconst 1, 1) := by decide +kernel
theorem dX3_push_15 : decode cX3_push 15 = .ok (.goto 17, 3) := by decide +kernel
theorem dX3_push_18 : decode cX3_push 18 = .ok (.aload_n 0, 1) := by decide +kernel
theorem dX3_push_19 : decode cX3_push 19 = .ok (.getfield 109, 3) := by decide +kernel
theorem dX3_push_22 : decode cX3_push 22 = .ok (.bipush 64, 2) := by decide +kernel
theorem dX3_push_24 : decode cX3_push 24 = .ok (.if_icmp .ne 7, 3) := by decide +kernel
theorem dX3_push_27 : decode cX3_push 27 = .ok (.iconst 2, 1) := by decide +kernel
theorem dX3_push_28 : decode cX3_push 28 = .ok (.goto 4, 3) := by decide +kernel
theorem dX3_push_31 : decode cX3_push 31 = .ok (.iconst 0, 1) := by decide +kernel
theorem dX3_push_32 : decode cX3_push 32 = .ok (.putfield 44, 3) := by decide +kernel
theorem dX3_push_35 : decode cX3_push 35 = .ok (.aload_n 0, 1) := by decide +kernel
theorem dX3_push_36 : decode cX3_push 36 = .ok (.getfield 44, 3) := by decide +kernel
theorem dX3_push_39 : decode cX3_push 39 = .ok (.ifCond .le 5, 3) := by decide +kernel
theorem dX3_push_42 : decode cX3_push 42 = .ok (.iconst 0, 1) := by decide +kernel
theorem dX3_push_43 : decode cX3_push 43 = .ok (.ireturn, 1) := by decide +kernel
theorem dX3_push_44 : decode cX3_push 44 = .ok (.aload_n 0, 1) := by decide +kernel
theorem dX3_push_45 : decode cX3_push 45 = .ok (.getfield 23, 3) := by decide +kernel
theorem dX3_push_48 : decode cX3_push 48 = .ok (.aload_n 0, 1) := by decide +kernel
theorem dX3_push_49 : decode cX3_push 49 = .ok (.getfield 109, 3) := by decide +kernel
theorem dX3_push_52 : decode cX3_push 52 = .ok (.iload_n 1, 1) := by decide +kernel
theorem dX3_push_53 : decode cX3_push 53 = .ok (.iastore, 1) := by decide +kernel
theorem dX3_push_54 : decode cX3_push 54 = .ok (.aload_n 0, 1) := by decide +kernel
theorem dX3_push_55 : decode cX3_push 55 = .ok (.dup, 1) := by decide +kernel
theorem dX3_push_56 : decode cX3_push 56 = .ok (.getfield 109, 3) := by decide +kernel
theorem dX3_push_59 : decode cX3_push 59 = .ok (.iconst 1, 1) := by decide +kernel
theorem dX3_push_60 : decode cX3_push 60 = .ok (.iadd, 1) := by decide +kernel
theorem dX3_push_61 : decode cX3_push 61 = .ok (.putfield 109, 3) := by decide +kernel
theorem dX3_push_64 : decode cX3_push 64 = .ok (.aload_n 0, 1) := by decide +kernel
theorem dX3_push_65 : decode cX3_push 65 = .ok (.getfield 109, 3) := by decide +kernel
theorem dX3_push_68 : decode cX3_push 68 = .ok (.ireturn, 1) := by decide +kernel
theorem dX3_shift_0 : decode cX3_shift 0 = .ok (.aload_n 0, 1) := by decide +kernel
theorem dX3_shift_1 : decode cX3_shift 1 = .ok (.iload_n 1, 1) := by decide +kernel
theorem dX3_shift_2 : decode cX3_shift 2 = .ok (.iconst 0, 1) := by decide +kernel
theorem dX3_shift_3 : decode cX3_shift 3 = .ok (.aload_n 0, 1) := by decide +kernel
theorem dX3_shift_4 : decode cX3_shift 4 = .ok (.getfield 109, 3) := by decide +kernel
theorem dX3_shift_7 : decode cX3_shift 7 = .ok (.invokestatic 47, 3) := by decide +kernel
theorem dX3_shift_10 : decode cX3_shift 10 = .ok (.ifCond .eq 7, 3) := by decide +kernel
theorem dX3_shift_13 : decode cX3_shift 13 = .ok (.iconst 0, 1) := by decide +kernel
theorem dX3_shift_14 : decode cX3_shift 14 = .ok (.goto 4, 3) := by decide +kernel
theorem dX3_shift_17 : decode cX3_shift 17 = .ok (.iconst 1, 1) := by decide +kernel
theorem dX3_shift_18 : decode cX3_shift 18 = .ok (.putfield 44, 3) := by decide +kernel
theorem dX3_shift_21 : decode cX3_shift 21 = .ok (.aload_n 0, 1) := by decide +kernel
theorem dX3_shift_22 : decode cX3_shift 22 = .ok (.getfield 44, 3) := by decide +kernel
theorem dX3_shift_25 : decode cX3_shift 25 = .ok (.ifCond .ne 43, 3) := by decide +kernel
theorem dX3_shift_28 : decode cX3_shift 28 = .ok (.aload_n 0, 1) := by decide +kernel
theorem dX3_shift_29 : decode cX3_shift 29 = .ok (.aload_n 0, 1) := by decide +kernel
theorem dX3_shift_30 : decode cX3_shift 30 = .ok (.getfield 109, 3) := by decide +kernel
theorem dX3_shift_33 : decode cX3_shift 33 = .ok (.iload_n 1, 1) := by decide +kernel
theorem dX3_shift_34 : decode cX3_shift 34 = .ok (.isub, 1) := by decide +kernel
theorem dX3_shift_35 : decode cX3_shift 35 = .ok (.putfield 109, 3) := by decide +kernel
theorem dX3_shift_38 : decode cX3_shift 38 = .ok (.iconst 0, 1) := by decide +kernel
theorem dX3_shift_39 : decode cX3_shift 39 = .ok (.istore_n 2, 1) := by decide +kernel
theorem dX3_shift_40 : decode cX3_shift 40 = .ok (.iload_n 2, 1) := by decide +kernel
theorem dX3_shift_41 : decode cX3_shift 41 = .ok (.aload_n 0, 1) := by decide +kernel
theorem dX3_shift_42 : decode cX3_shift 42 = .ok (.getfield 109, 3) := by decide +kernel
theorem dX3_shift_45 : decode cX3_shift 45 = .ok (.if_icmp .ge 23, 3) := by decide +kernel
theorem dX3_shift_48 : decode cX3_shift 48 = .ok (.aload_n 0, 1) := by decide +kernel
theorem dX3_shift_49 : decode cX3_shift 49 = .ok (.getfield 23, 3) := by decide +kernel
theorem dX3_shift_52 : decode cX3_shift 52 = .ok (.iload_n 2, 1) := by decide +kernel
theorem dX3_shift_53 : decode cX3_shift 53 = .ok (.aload_n 0, 1) := by decide +kernel
theorem dX3_shift_54 : decode cX3_shift 54 = .ok (.getfield 23, 3) := by decide +kernel
theorem dX3_shift_57 : decode cX3_shift 57 = .ok (.iload_n 2, 1) := by decide +kernel
theorem dX3_shift_58 : decode cX3_shift 58 = .ok (.iload_n 1, 1) := by decide +kernel
theorem dX3_shift_59 : decode cX3_shift 59 = .ok (.iadd, 1) := by decide +kernel
theorem dX3_shift_60 : decode cX3_shift 60 = .ok (.iaload, 1) := by decide +kernel
theorem dX3_shift_61 : decode cX3_shift 61 = .ok (.iastore, 1) := by decide +kernel
theorem dX3_shift_62 : decode cX3_shift 62 = .ok (.iinc 2 1, 3) := by decide +kernel
theorem dX3_shift_65 : decode cX3_shift 65 = .ok (.goto (-25), 3) := by decide +kernel
theorem dX3_shift_68 : decode cX3_shift 68 = .ok (.return_, 1) := by decide +kernel
end
section
set_option maxRecDepth 100000 in
set_option maxHeartbeats 4000000 in
/-- square: v * v -/
theorem c_square (l : Launch) (dC : Nat → ClassId) (dI : Nat → Nat → Nat) (cI : ClassId) (v : Int)  : Met l yX0_square wsX0_square ({ frames := 0, cells := 0, slots := 0, locals := 0 }) (rdP dC dI [(cI, .int)] [] [.int (iI v)]) (rdQ (fun z => z = v * v)) 0 0 (fun _ => False) := by
  refine Met.ofW (cc := cX0_square) (maxL := 1) (ret := (some .int)) (by decide) rfl ?_
  intro p e s m args below meth c s₁ B hml hv
  obtain ⟨rfl, hP, hK⟩ := hv
  have hx := B.exec
  have hb := B.bytes
  have hr := B.returns
  have hts : ∀ w ∈ wsX0_square, w.before _ s = true := atoms_spec (ws := wsX0_square) B.pre
  have hown : s.vm.findClass RX0 = some m.cls := findClass_of_methodNamed B.named
  have hlocks := B.notSynchronized
  have hl := lv_entry ([.int (iI v)]) (n := 1) (Nat.le_of_ble_eq_true rfl)
  rw [lg_entry_eq]
  generalize (lg_sl ([.int (iI v)]) ++ List.replicate (1 - (lg_sl ([.int (iI v)])).length) Slot.unset).toArray = ls at hl ⊢
  have hl : lv_has ls 1 [(0, .int (iI v))] := hl
  generalize hargs : ([.int (iI v)] : List Value).toArray = args at hts ⊢
  refine z_intro (fun R Q hR hQ => ?_)
  have hRf : R.frames = 0 := by rw [hR]; rfl
  have hRl : R.locals = 0 := by rw [hR]; rfl
  have hRc : R.cells = 0 := by rw [hR]; rfl
  have hRs : R.slots = 0 := by rw [hR]; rfl
  clear hR hargs B
  refine lv_iload_n hx hb dX0_square_0 rfl (lv_at hl 0 rfl) ?_
  refine lv_iload_n hx hb dX0_square_1 rfl (lv_at hl 0 rfl) ?_
  refine z_imul hx hb dX0_square_2 ?_
  exact zr_ret (z := v * v) hx hb hr hlocks hQ (rfl) dX0_square_3
set_option maxRecDepth 100000 in
set_option maxHeartbeats 4000000 in
theorem c_gap (l : Launch) (dC : Nat → ClassId) (dI : Nat → Nat → Nat) (cI : ClassId) (v lo hi : Int) (h1 : -1000 ≤ v ∧ v ≤ 1000) (h2 : -1000 ≤ lo ∧ lo ≤ 1000) (h3 : -1000 ≤ hi ∧ hi ≤ 1000) : Met l yX0_gap wsX0_gap ({ frames := 0, cells := 0, slots := 0, locals := 0 }) (rdP dC dI [(cI, .int)] [] [.int (iI v), .int (iI lo), .int (iI hi)]) (rdQ (fun z => z = gapz v lo hi)) 0 0 (fun _ => False) := by
  refine Met.ofW (cc := cX0_gap) (maxL := 3) (ret := (some .int)) (by decide) rfl ?_
  intro p e s m args below meth c s₁ B hml hv
  obtain ⟨rfl, hP, hK⟩ := hv
  have hx := B.exec
  have hb := B.bytes
  have hr := B.returns
  have hts : ∀ w ∈ wsX0_gap, w.before _ s = true := atoms_spec (ws := wsX0_gap) B.pre
  have hown : s.vm.findClass RX0 = some m.cls := findClass_of_methodNamed B.named
  have hlocks := B.notSynchronized
  have hl := lv_entry ([.int (iI v), .int (iI lo), .int (iI hi)]) (n := 3) (Nat.le_of_ble_eq_true rfl)
  rw [lg_entry_eq]
  generalize (lg_sl ([.int (iI v), .int (iI lo), .int (iI hi)]) ++ List.replicate (3 - (lg_sl ([.int (iI v), .int (iI lo), .int (iI hi)])).length) Slot.unset).toArray = ls at hl ⊢
  have hl : lv_has ls 3 [(0, .int (iI v)), (1, .int (iI lo)), (2, .int (iI hi))] := hl
  generalize hargs : ([.int (iI v), .int (iI lo), .int (iI hi)] : List Value).toArray = args at hts ⊢
  refine z_intro (fun R Q hR hQ => ?_)
  have hRf : R.frames = 0 := by rw [hR]; rfl
  have hRl : R.locals = 0 := by rw [hR]; rfl
  have hRc : R.cells = 0 := by rw [hR]; rfl
  have hRs : R.slots = 0 := by rw [hR]; rfl
  clear hR hargs B
  refine lv_iload_n hx hb dX0_gap_0 rfl (lv_at hl 0 rfl) ?_
  refine lv_iload_n hx hb dX0_gap_1 rfl (lv_at hl 1 rfl) ?_
  refine z_icmp_ge (tgt := 9) hx hb dX0_gap_2 (by decide) (by omega) (fun h2 => ?_) (fun h2 => ?_)
  · refine lv_iload_n hx hb dX0_gap_9 rfl (lv_at hl 0 rfl) ?_
    refine lv_iload_n hx hb dX0_gap_10 rfl (lv_at hl 2 rfl) ?_
    refine z_icmp_le (tgt := 20) hx hb dX0_gap_11 (by decide) (by omega) (fun h11 => ?_) (fun h11 => ?_)
    · refine lv_iconst (v := iI (0 : Int)) hx hb dX0_gap_20 (by decide) ?_
      exact zr_ret (z := (0 : Int)) hx hb hr hlocks hQ (by unfold gapz; split <;> first | omega | (split <;> omega)) dX0_gap_21
    · refine lv_iload_n hx hb dX0_gap_14 rfl (lv_at hl 0 rfl) ?_
      refine lv_iload_n hx hb dX0_gap_15 rfl (lv_at hl 2 rfl) ?_
      refine z_isub hx hb dX0_gap_16 ?_
      refine lv_goto (tgt := 21) hx hb dX0_gap_17 (by decide) ?_
      exact zr_ret (z := v - hi) hx hb hr hlocks hQ (by unfold gapz; split <;> first | omega | (split <;> omega)) dX0_gap_21
  · refine lv_iload_n hx hb dX0_gap_5 rfl (lv_at hl 1 rfl) ?_
    refine lv_iload_n hx hb dX0_gap_6 rfl (lv_at hl 0 rfl) ?_
    refine z_isub hx hb dX0_gap_7 ?_
    exact zr_ret (z := lo - v) hx hb hr hlocks hQ (by unfold gapz; split <;> first | omega | (split <;> omega)) dX0_gap_8
set_option maxRecDepth 100000 in
set_option maxHeartbeats 4000000 in
theorem c_first (l : Launch) (dC : Nat → ClassId) (dI : Nat → Nat → Nat) (cI : ClassId) (h0 aq ar ac ap : Nat) (ps : Int) (n w : Nat) (i : Nat) (hn : 2 ≤ n ∧ n ≤ 16) (hw : w ≤ 15) (hi : i ≤ 15) : Met l yX0_firstInBand wsX0_firstInBand ({ frames := 0, cells := 0, slots := 0, locals := 0 }) (rdP dC dI [(cI, .int)] [(h0, .inr (0, [.ref aq, .ref ar, .ref ac, .ref ap, .int (iI ps), .int (iI (n : Int)), .int (iI (w : Int))]))] [.ref h0, .int (iI (i : Int))]) (rdQ (fun z => z = ((i - w : Nat) : Int))) 0 0 (fun _ => False) := by
  refine Met.ofW (cc := cX0_firstInBand) (maxL := 2) (ret := (some .int)) (by decide) rfl ?_
  intro p e s m args below meth c s₁ B hml hv
  obtain ⟨rfl, hP, hK⟩ := hv
  have hx := B.exec
  have hb := B.bytes
  have hr := B.returns
  have hts : ∀ w ∈ wsX0_firstInBand, w.before _ s = true := atoms_spec (ws := wsX0_firstInBand) B.pre
  have hown : s.vm.findClass RX0 = some m.cls := findClass_of_methodNamed B.named
  have hlocks := B.notSynchronized
  have hl := lv_entry ([.ref h0, .int (iI (i : Int))]) (n := 2) (Nat.le_of_ble_eq_true rfl)
  rw [lg_entry_eq]
  generalize (lg_sl ([.ref h0, .int (iI (i : Int))]) ++ List.replicate (2 - (lg_sl ([.ref h0, .int (iI (i : Int))])).length) Slot.unset).toArray = ls at hl ⊢
  have hl : lv_has ls 2 [(0, .ref h0), (1, .int (iI (i : Int)))] := hl
  generalize hargs : ([.ref h0, .int (iI (i : Int))] : List Value).toArray = args at hts ⊢
  refine z_intro (fun R Q hR hQ => ?_)
  have hRf : R.frames = 0 := by rw [hR]; rfl
  have hRl : R.locals = 0 := by rw [hR]; rfl
  have hRc : R.cells = 0 := by rw [hR]; rfl
  have hRs : R.slots = 0 := by rw [hR]; rfl
  have in_X0 : ∀ w ∈ u_ws RX0 TX0 7, w ∈ wsX0_firstInBand := fun w h => List.mem_cons_of_mem _ (inW_X0 w h)
  have fl_31 := wa_hts hts wd_61
  clear hR hargs B
  refine lv_iload_n hx hb dX0_firstInBand_0 rfl (lv_at hl 1 rfl) ?_
  refine lv_aload_n hx hb dX0_firstInBand_1 rfl (lv_at hl 0 rfl) ?_
  refine va_get (D := (dC, dI)) (ci := 0) (v := .int (iI (w : Int))) (C := RX0) (T := TX0) (N := 7) hx hb hts in_X0 hown hK hP 0 rfl rfl 6 (by decide) fl_31 (fun _ h9 => h9) rfl dX0_firstInBand_2 ?_
  refine z_icmp_le (tgt := 17) hx hb dX0_firstInBand_5 (by decide) (by omega) (fun h5 => ?_) (fun h5 => ?_)
  · refine lv_iconst (v := iI (0 : Int)) hx hb dX0_firstInBand_17 (by decide) ?_
    exact zr_ret (z := (0 : Int)) hx hb hr hlocks hQ (by omega) dX0_firstInBand_18
  · refine lv_iload_n hx hb dX0_firstInBand_8 rfl (lv_at hl 1 rfl) ?_
    refine lv_aload_n hx hb dX0_firstInBand_9 rfl (lv_at hl 0 rfl) ?_
    refine va_get (D := (dC, dI)) (ci := 0) (v := .int (iI (w : Int))) (C := RX0) (T := TX0) (N := 7) hx hb hts in_X0 hown hK hP 0 rfl rfl 6 (by decide) fl_31 (fun _ h9 => h9) rfl dX0_firstInBand_10 ?_
    refine z_isub hx hb dX0_firstInBand_13 ?_
    refine lv_goto (tgt := 18) hx hb dX0_firstInBand_14 (by decide) ?_
    exact zr_ret (z := (i : Int) - (w : Int)) hx hb hr hlocks hQ (by omega) dX0_firstInBand_18
set_option maxRecDepth 100000 in
set_option maxHeartbeats 4000000 in
theorem c_last (l : Launch) (dC : Nat → ClassId) (dI : Nat → Nat → Nat) (cI : ClassId) (h0 aq ar ac ap : Nat) (ps : Int) (n w : Nat) (i : Nat) (hn : 2 ≤ n ∧ n ≤ 16) (hw : w ≤ 15) (hi : i ≤ 15) : Met l yX0_lastInBand wsX0_lastInBand ({ frames := 0, cells := 0, slots := 0, locals := 0 }) (rdP dC dI [(cI, .int)] [(h0, .inr (0, [.ref aq, .ref ar, .ref ac, .ref ap, .int (iI ps), .int (iI (n : Int)), .int (iI (w : Int))]))] [.ref h0, .int (iI (i : Int))]) (rdQ (fun z => z = ((min (i + w) (n - 1) : Nat) : Int))) 0 0 (fun _ => False) := by
  refine Met.ofW (cc := cX0_lastInBand) (maxL := 2) (ret := (some .int)) (by decide) rfl ?_
  intro p e s m args below meth c s₁ B hml hv
  obtain ⟨rfl, hP, hK⟩ := hv
  have hx := B.exec
  have hb := B.bytes
  have hr := B.returns
  have hts : ∀ w ∈ wsX0_lastInBand, w.before _ s = true := atoms_spec (ws := wsX0_lastInBand) B.pre
  have hown : s.vm.findClass RX0 = some m.cls := findClass_of_methodNamed B.named
  have hlocks := B.notSynchronized
  have hl := lv_entry ([.ref h0, .int (iI (i : Int))]) (n := 2) (Nat.le_of_ble_eq_true rfl)
  rw [lg_entry_eq]
  generalize (lg_sl ([.ref h0, .int (iI (i : Int))]) ++ List.replicate (2 - (lg_sl ([.ref h0, .int (iI (i : Int))])).length) Slot.unset).toArray = ls at hl ⊢
  have hl : lv_has ls 2 [(0, .ref h0), (1, .int (iI (i : Int)))] := hl
  generalize hargs : ([.ref h0, .int (iI (i : Int))] : List Value).toArray = args at hts ⊢
  refine z_intro (fun R Q hR hQ => ?_)
  have hRf : R.frames = 0 := by rw [hR]; rfl
  have hRl : R.locals = 0 := by rw [hR]; rfl
  have hRc : R.cells = 0 := by rw [hR]; rfl
  have hRs : R.slots = 0 := by rw [hR]; rfl
  have in_X0 : ∀ w ∈ u_ws RX0 TX0 7, w ∈ wsX0_lastInBand := fun w h => List.mem_cons_of_mem _ (inW_X0 w h)
  have fl_28 := wa_hts hts wd_60
  have fl_31 := wa_hts hts wd_61
  clear hR hargs B
  refine lv_iload_n hx hb dX0_lastInBand_0 rfl (lv_at hl 1 rfl) ?_
  refine lv_aload_n hx hb dX0_lastInBand_1 rfl (lv_at hl 0 rfl) ?_
  refine va_get (D := (dC, dI)) (ci := 0) (v := .int (iI (w : Int))) (C := RX0) (T := TX0) (N := 7) hx hb hts in_X0 hown hK hP 0 rfl rfl 6 (by decide) fl_31 (fun _ h9 => h9) rfl dX0_lastInBand_2 ?_
  refine z_iadd hx hb dX0_lastInBand_5 ?_
  refine lv_aload_n hx hb dX0_lastInBand_6 rfl (lv_at hl 0 rfl) ?_
  refine va_get (D := (dC, dI)) (ci := 0) (v := .int (iI (n : Int))) (C := RX0) (T := TX0) (N := 7) hx hb hts in_X0 hown hK hP 0 rfl rfl 5 (by decide) fl_28 (fun _ h9 => h9) rfl dX0_lastInBand_7 ?_
  refine z_icmp_ge (tgt := 22) hx hb dX0_lastInBand_10 (by decide) (by omega) (fun h10 => ?_) (fun h10 => ?_)
  · refine lv_aload_n hx hb dX0_lastInBand_22 rfl (lv_at hl 0 rfl) ?_
    refine va_get (D := (dC, dI)) (ci := 0) (v := .int (iI (n : Int))) (C := RX0) (T := TX0) (N := 7) hx hb hts in_X0 hown hK hP 0 rfl rfl 5 (by decide) fl_28 (fun _ h9 => h9) rfl dX0_lastInBand_23 ?_
    refine lv_iconst (v := iI (1 : Int)) hx hb dX0_lastInBand_26 (by decide) ?_
    refine z_isub hx hb dX0_lastInBand_27 ?_
    exact zr_ret (z := (n : Int) - (1 : Int)) hx hb hr hlocks hQ (by omega) dX0_lastInBand_28
  · refine lv_iload_n hx hb dX0_lastInBand_13 rfl (lv_at hl 1 rfl) ?_
    refine lv_aload_n hx hb dX0_lastInBand_14 rfl (lv_at hl 0 rfl) ?_
    refine va_get (D := (dC, dI)) (ci := 0) (v := .int (iI (w : Int))) (C := RX0) (T := TX0) (N := 7) hx hb hts in_X0 hown hK hP 0 rfl rfl 6 (by decide) fl_31 (fun _ h9 => h9) rfl dX0_lastInBand_15 ?_
    refine z_iadd hx hb dX0_lastInBand_18 ?_
    refine lv_goto (tgt := 28) hx hb dX0_lastInBand_19 (by decide) ?_
    exact zr_ret (z := (i : Int) + (w : Int)) hx hb hr hlocks hQ (by omega) dX0_lastInBand_28
set_option maxRecDepth 100000 in
set_option maxHeartbeats 4000000 in
theorem c_costAt (l : Launch) (dC : Nat → ClassId) (dI : Nat → Nat → Nat) (cI : ClassId) (h0 aq ar ac ap : Nat) (ps : Int) (n w : Nat) (G : Nat → Int) (i j : Int) (hn : 2 ≤ n ∧ n ≤ 16) (hw : w ≤ 15) (hi : -1 ≤ i ∧ i ≤ 15) (hj : -1 ≤ j ∧ j ≤ 15) : Met l yX0_costAt wsX0_costAt ({ frames := 0, cells := 0, slots := 0, locals := 0 }) (rdP dC dI [(cI, .int)] [(h0, .inr (0, [.ref aq, .ref ar, .ref ac, .ref ap, .int (iI ps), .int (iI (n : Int)), .int (iI (w : Int))])), (ac, .inl (cI, 256, .inl (iA G)))] [.ref h0, .int (iI i), .int (iI j)]) (rdQ (fun z => z = gAt w G i j)) 0 0 (fun _ => False) := by
  refine Met.ofW (cc := cX0_costAt) (maxL := 4) (ret := (some .int)) (by decide) rfl ?_
  intro p e s m args below meth c s₁ B hml hv
  obtain ⟨rfl, hP, hK⟩ := hv
  have hx := B.exec
  have hb := B.bytes
  have hr := B.returns
  have hts : ∀ w ∈ wsX0_costAt, w.before _ s = true := atoms_spec (ws := wsX0_costAt) B.pre
  have hown : s.vm.findClass RX0 = some m.cls := findClass_of_methodNamed B.named
  have hlocks := B.notSynchronized
  have hl := lv_entry ([.ref h0, .int (iI i), .int (iI j)]) (n := 4) (Nat.le_of_ble_eq_true rfl)
  rw [lg_entry_eq]
  generalize (lg_sl ([.ref h0, .int (iI i), .int (iI j)]) ++ List.replicate (4 - (lg_sl ([.ref h0, .int (iI i), .int (iI j)])).length) Slot.unset).toArray = ls at hl ⊢
  have hl : lv_has ls 4 [(0, .ref h0), (1, .int (iI i)), (2, .int (iI j))] := hl
  generalize hargs : ([.ref h0, .int (iI i), .int (iI j)] : List Value).toArray = args at hts ⊢
  refine z_intro (fun R Q hR hQ => ?_)
  have hRf : R.frames = 0 := by rw [hR]; rfl
  have hRl : R.locals = 0 := by rw [hR]; rfl
  have hRc : R.cells = 0 := by rw [hR]; rfl
  have hRs : R.slots = 0 := by rw [hR]; rfl
  have in_X0 : ∀ w ∈ u_ws RX0 TX0 7, w ∈ wsX0_costAt := fun w h => List.mem_cons_of_mem _ (inW_X0 w h)
  have fl_18 := wa_hts hts wd_57
  have fl_31 := wa_hts hts wd_61
  have kc_73 := wa_hts hts wd_321
  clear hR hargs B
  refine lv_iload_n hx hb dX0_costAt_0 rfl (lv_at hl 1 rfl) ?_
  refine z_if_lt (tgt := 32) hx hb dX0_costAt_1 (by decide) (by omega) (fun h1 => ?_) (fun h1 => ?_)
  · refine lv_iconst (v := iI (0 : Int)) hx hb dX0_costAt_32 (by decide) ?_
    refine lv_istore_n (lv' := [(3, .int (iI (0 : Int))), (0, .ref h0), (1, .int (iI i)), (2, .int (iI j))]) hx hb dX0_costAt_33 rfl hl (by decide) rfl (fun ls hl => ?_)
    refine lv_iload_n hx hb dX0_costAt_34 rfl (lv_at hl 0 rfl) ?_
    refine z_if_eq (tgt := 52) hx hb dX0_costAt_35 (by decide) (by decide) (fun _ => ?_) (fun h9 => absurd h9 (by decide))
    refine z_ldc hx hb (1000000000 : Int) hown kc_73 (by decide) dX0_costAt_52 ?_
    exact zr_ret (z := (1000000000 : Int)) hx hb hr hlocks hQ (by unfold gAt; rw [if_neg (by omega)]) dX0_costAt_54
  · refine lv_iload_n hx hb dX0_costAt_4 rfl (lv_at hl 2 rfl) ?_
    refine z_if_lt (tgt := 32) hx hb dX0_costAt_5 (by decide) (by omega) (fun h5 => ?_) (fun h5 => ?_)
    · refine lv_iconst (v := iI (0 : Int)) hx hb dX0_costAt_32 (by decide) ?_
      refine lv_istore_n (lv' := [(3, .int (iI (0 : Int))), (0, .ref h0), (1, .int (iI i)), (2, .int (iI j))]) hx hb dX0_costAt_33 rfl hl (by decide) rfl (fun ls hl => ?_)
      refine lv_iload_n hx hb dX0_costAt_34 rfl (lv_at hl 0 rfl) ?_
      refine z_if_eq (tgt := 52) hx hb dX0_costAt_35 (by decide) (by decide) (fun _ => ?_) (fun h9 => absurd h9 (by decide))
      refine z_ldc hx hb (1000000000 : Int) hown kc_73 (by decide) dX0_costAt_52 ?_
      exact zr_ret (z := (1000000000 : Int)) hx hb hr hlocks hQ (by unfold gAt; rw [if_neg (by omega)]) dX0_costAt_54
    · refine lv_iload_n hx hb dX0_costAt_8 rfl (lv_at hl 1 rfl) ?_
      refine lv_iload_n hx hb dX0_costAt_9 rfl (lv_at hl 2 rfl) ?_
      refine z_isub hx hb dX0_costAt_10 ?_
      refine lv_aload_n hx hb dX0_costAt_11 rfl (lv_at hl 0 rfl) ?_
      refine va_get (D := (dC, dI)) (ci := 0) (v := .int (iI (w : Int))) (C := RX0) (T := TX0) (N := 7) hx hb hts in_X0 hown hK hP 0 rfl rfl 6 (by decide) fl_31 (fun _ h9 => h9) rfl dX0_costAt_12 ?_
      refine z_icmp_gt (tgt := 32) hx hb dX0_costAt_15 (by decide) (by omega) (fun h15 => ?_) (fun h15 => ?_)
      · refine lv_iconst (v := iI (0 : Int)) hx hb dX0_costAt_32 (by decide) ?_
        refine lv_istore_n (lv' := [(3, .int (iI (0 : Int))), (0, .ref h0), (1, .int (iI i)), (2, .int (iI j))]) hx hb dX0_costAt_33 rfl hl (by decide) rfl (fun ls hl => ?_)
        refine lv_iload_n hx hb dX0_costAt_34 rfl (lv_at hl 0 rfl) ?_
        refine z_if_eq (tgt := 52) hx hb dX0_costAt_35 (by decide) (by decide) (fun _ => ?_) (fun h9 => absurd h9 (by decide))
        refine z_ldc hx hb (1000000000 : Int) hown kc_73 (by decide) dX0_costAt_52 ?_
        exact zr_ret (z := (1000000000 : Int)) hx hb hr hlocks hQ (by unfold gAt; rw [if_neg (by omega)]) dX0_costAt_54
      · refine lv_iload_n hx hb dX0_costAt_18 rfl (lv_at hl 2 rfl) ?_
        refine lv_iload_n hx hb dX0_costAt_19 rfl (lv_at hl 1 rfl) ?_
        refine z_isub hx hb dX0_costAt_20 ?_
        refine lv_aload_n hx hb dX0_costAt_21 rfl (lv_at hl 0 rfl) ?_
        refine va_get (D := (dC, dI)) (ci := 0) (v := .int (iI (w : Int))) (C := RX0) (T := TX0) (N := 7) hx hb hts in_X0 hown hK hP 0 rfl rfl 6 (by decide) fl_31 (fun _ h9 => h9) rfl dX0_costAt_22 ?_
        refine z_icmp_gt (tgt := 32) hx hb dX0_costAt_25 (by decide) (by omega) (fun h25 => ?_) (fun h25 => ?_)
        · refine lv_iconst (v := iI (0 : Int)) hx hb dX0_costAt_32 (by decide) ?_
          refine lv_istore_n (lv' := [(3, .int (iI (0 : Int))), (0, .ref h0), (1, .int (iI i)), (2, .int (iI j))]) hx hb dX0_costAt_33 rfl hl (by decide) rfl (fun ls hl => ?_)
          refine lv_iload_n hx hb dX0_costAt_34 rfl (lv_at hl 0 rfl) ?_
          refine z_if_eq (tgt := 52) hx hb dX0_costAt_35 (by decide) (by decide) (fun _ => ?_) (fun h9 => absurd h9 (by decide))
          refine z_ldc hx hb (1000000000 : Int) hown kc_73 (by decide) dX0_costAt_52 ?_
          exact zr_ret (z := (1000000000 : Int)) hx hb hr hlocks hQ (by unfold gAt; rw [if_neg (by omega)]) dX0_costAt_54
        · refine lv_iconst (v := iI (1 : Int)) hx hb dX0_costAt_28 (by decide) ?_
          refine lv_goto (tgt := 33) hx hb dX0_costAt_29 (by decide) ?_
          refine lv_istore_n (lv' := [(3, .int (iI (1 : Int))), (0, .ref h0), (1, .int (iI i)), (2, .int (iI j))]) hx hb dX0_costAt_33 rfl hl (by decide) rfl (fun ls hl => ?_)
          refine lv_iload_n hx hb dX0_costAt_34 rfl (lv_at hl 0 rfl) ?_
          refine z_if_eq (tgt := 52) hx hb dX0_costAt_35 (by decide) (by decide) (fun h9 => absurd h9 (by decide)) (fun _ => ?_)
          refine lv_aload_n hx hb dX0_costAt_38 rfl (lv_at hl 1 rfl) ?_
          refine va_get (D := (dC, dI)) (ci := 0) (v := .ref ac) (C := RX0) (T := TX0) (N := 7) hx hb hts in_X0 hown hK hP 0 rfl rfl 2 (by decide) fl_18 (fun _ h9 => h9) rfl dX0_costAt_39 ?_
          refine lv_bipush (v := iI (16 : Int)) hx hb dX0_costAt_42 (by decide) ?_
          refine lv_iload_n hx hb dX0_costAt_44 rfl (lv_at hl 2 rfl) ?_
          refine z_imul hx hb dX0_costAt_45 ?_
          refine lv_iload_n hx hb dX0_costAt_46 rfl (lv_at hl 3 rfl) ?_
          refine z_iadd hx hb dX0_costAt_47 ?_
          refine z_iald hx hb hK hP 1 0 rfl rfl ((16 * i + j).toNat) (by omega) dX0_costAt_48 ?_
          refine lv_goto (tgt := 54) hx hb dX0_costAt_49 (by decide) ?_
          exact zr_ret (z := G ((16 * i + j).toNat)) hx hb hr hlocks hQ (by unfold gAt; rw [if_pos (by omega)]) dX0_costAt_54
set_option maxRecDepth 100000 in
set_option maxHeartbeats 4000000 in
theorem c_leastBefore (l : Launch) (dC : Nat → ClassId) (dI : Nat → Nat → Nat) (cI : ClassId) (h0 aq ar ac ap : Nat) (ps : Int) (n w : Nat) (G : Nat → Int) (i j : Nat) (hn : 2 ≤ n ∧ n ≤ 16) (hw : w ≤ 15) (hG : rgA G) (hi : i ≤ 15) (hj : j ≤ 15) : Met l yX0_leastBefore wsX0_leastBefore ({ frames := 1, cells := 0, slots := 0, locals := 23 }) (rdP dC dI [(cI, .int)] [(h0, .inr (0, [.ref aq, .ref ar, .ref ac, .ref ap, .int (iI ps), .int (iI (n : Int)), .int (iI (w : Int))])), (ac, .inl (cI, 256, .inl (iA G)))] [.ref h0, .int (iI (i : Int)), .int (iI (j : Int))]) (rdQ (fun z => z = gBef w G i j)) 0 0 (fun _ => False) := by
  refine Met.ofW (cc := cX0_leastBefore) (maxL := 3) (ret := (some .int)) (by decide) rfl ?_
  intro p e s m args below meth c s₁ B hml hv
  obtain ⟨rfl, hP, hK⟩ := hv
  have hx := B.exec
  have hb := B.bytes
  have hr := B.returns
  have hts : ∀ w ∈ wsX0_leastBefore, w.before _ s = true := atoms_spec (ws := wsX0_leastBefore) B.pre
  have hown : s.vm.findClass RX0 = some m.cls := findClass_of_methodNamed B.named
  have hlocks := B.notSynchronized
  have hl := lv_entry ([.ref h0, .int (iI (i : Int)), .int (iI (j : Int))]) (n := 3) (Nat.le_of_ble_eq_true rfl)
  rw [lg_entry_eq]
  generalize (lg_sl ([.ref h0, .int (iI (i : Int)), .int (iI (j : Int))]) ++ List.replicate (3 - (lg_sl ([.ref h0, .int (iI (i : Int)), .int (iI (j : Int))])).length) Slot.unset).toArray = ls at hl ⊢
  have hl : lv_has ls 3 [(0, .ref h0), (1, .int (iI (i : Int))), (2, .int (iI (j : Int)))] := hl
  generalize hargs : ([.ref h0, .int (iI (i : Int)), .int (iI (j : Int))] : List Value).toArray = args at hts ⊢
  refine z_intro (fun R Q hR hQ => ?_)
  have hRf : R.frames = 1 := by rw [hR]; rfl
  have hRl : R.locals = 23 := by rw [hR]; rfl
  have hRc : R.cells = 0 := by rw [hR]; rfl
  have hRs : R.slots = 0 := by rw [hR]; rfl
  have ml_54 : (Cond.methodLink RX0 54 Lib.Math.min.name).before args s = true := wa_hts hts wd_338
  have st_min : (Cond.static Lib.Math.min.name).before args s = true := wa_hts hts wd_339
  have cd_min : (Cond.code Lib.Math.min.name Lib.Math.min.code 2 (some .int)).before args s = true := wa_hts hts wd_340
  have hMath := wa_hts hts wd_40
  clear hR hargs B
  refine lv_iload_n hx hb dX0_leastBefore_0 rfl (lv_at hl 1 rfl) ?_
  refine z_if_ne (tgt := 10) hx hb dX0_leastBefore_1 (by decide) (by omega) (fun h1 => ?_) (fun h1 => ?_)
  · refine lv_aload_n hx hb dX0_leastBefore_10 rfl (lv_at hl 0 rfl) ?_
    refine lv_iload_n hx hb dX0_leastBefore_11 rfl (lv_at hl 1 rfl) ?_
    refine lv_iconst (v := iI (1 : Int)) hx hb dX0_leastBefore_12 (by decide) ?_
    refine z_isub hx hb dX0_leastBefore_13 ?_
    refine lv_iload_n hx hb dX0_leastBefore_14 rfl (lv_at hl 2 rfl) ?_
    refine lv_iconst (v := iI (1 : Int)) hx hb dX0_leastBefore_15 (by decide) ?_
    refine z_isub hx hb dX0_leastBefore_16 ?_
    refine zr_i (va_runV (As := [.int (iI ((i : Int) - (1 : Int))), .int (iI ((j : Int) - (1 : Int)))]) (rest := []) ⟨hx, hb, hml, hown, hts⟩ (c_costAt l dC dI cI h0 aq ar ac ap ps n w G ((i : Int) - (1 : Int)) ((j : Int) - (1 : Int)) hn hw (by omega) (by omega)) (cwV 2 hts (ga_V wd_334 wd_336 wd_7 wd_29 wd_337) rfl rfl rfl (by decide +kernel) ⟨(show 0 + 1 ≤ R.frames by omega), (show 8 + (4 + 11) + 0 ≤ R.locals by omega)⟩) (rd_preV (q0 := 0) (ci := 0) hP hK [0, 1] rfl rfl rfl) rfl rfl hl.1 rfl (lv_room (Nat.le_of_ble_eq_true rfl)) dX0_leastBefore_17 ⟨by omega, by omega⟩) (fun z17 hz17 => ?_)
    refine lv_aload_n hx hb dX0_leastBefore_20 rfl (lv_at hl 0 rfl) ?_
    refine lv_iload_n hx hb dX0_leastBefore_21 rfl (lv_at hl 1 rfl) ?_
    refine lv_iconst (v := iI (1 : Int)) hx hb dX0_leastBefore_22 (by decide) ?_
    refine z_isub hx hb dX0_leastBefore_23 ?_
    refine lv_iload_n hx hb dX0_leastBefore_24 rfl (lv_at hl 2 rfl) ?_
    refine zr_i (va_runV (As := [.int (iI ((i : Int) - (1 : Int))), .int (iI (j : Int))]) (rest := [.int (iI z17)]) ⟨hx, hb, hml, hown, hts⟩ (c_costAt l dC dI cI h0 aq ar ac ap ps n w G ((i : Int) - (1 : Int)) (j : Int) hn hw (by omega) (by omega)) (cwV 2 hts (ga_V wd_334 wd_336 wd_7 wd_29 wd_337) rfl rfl rfl (by decide +kernel) ⟨(show 0 + 1 ≤ R.frames by omega), (show 8 + (4 + 11) + 0 ≤ R.locals by omega)⟩) (rd_preV (q0 := 0) (ci := 0) hP hK [0, 1] rfl rfl rfl) rfl rfl hl.1 rfl (lv_room (Nat.le_of_ble_eq_true rfl)) dX0_leastBefore_25 ⟨by omega, by omega⟩) (fun z25 hz25 => ?_)
    refine lv_aload_n hx hb dX0_leastBefore_28 rfl (lv_at hl 0 rfl) ?_
    refine lv_iload_n hx hb dX0_leastBefore_29 rfl (lv_at hl 1 rfl) ?_
    refine lv_iload_n hx hb dX0_leastBefore_30 rfl (lv_at hl 2 rfl) ?_
    refine lv_iconst (v := iI (1 : Int)) hx hb dX0_leastBefore_31 (by decide) ?_
    refine z_isub hx hb dX0_leastBefore_32 ?_
    refine zr_i (va_runV (As := [.int (iI (i : Int)), .int (iI ((j : Int) - (1 : Int)))]) (rest := [.int (iI z25), .int (iI z17)]) ⟨hx, hb, hml, hown, hts⟩ (c_costAt l dC dI cI h0 aq ar ac ap ps n w G (i : Int) ((j : Int) - (1 : Int)) hn hw (by omega) (by omega)) (cwV 2 hts (ga_V wd_334 wd_336 wd_7 wd_29 wd_337) rfl rfl rfl (by decide +kernel) ⟨(show 0 + 1 ≤ R.frames by omega), (show 8 + (4 + 11) + 0 ≤ R.locals by omega)⟩) (rd_preV (q0 := 0) (ci := 0) hP hK [0, 1] rfl rfl rfl) rfl rfl hl.1 rfl (lv_room (Nat.le_of_ble_eq_true rfl)) dX0_leastBefore_33 ⟨by omega, by omega⟩) (fun z33 hz33 => ?_)
    have r17 : -2147483648 ≤ z17 ∧ z17 ≤ 2147483647 := by rw [hz17]; exact gAt_rg hG _ _
    have r25 : -2147483648 ≤ z25 ∧ z25 ≤ 2147483647 := by rw [hz25]; exact gAt_rg hG _ _
    have r33 : -2147483648 ≤ z33 ∧ z33 ≤ 2147483647 := by rw [hz33]; exact gAt_rg hG _ _
    refine z_min hx hb (hml.trans hl.1.symm) hown ml_54 st_min hMath cd_min (by omega) (by show 1 + 13 ≤ R.locals; omega) (by omega) (by omega) (by omega) dX0_leastBefore_36 ?_
    refine z_min hx hb (hml.trans hl.1.symm) hown ml_54 st_min hMath cd_min (by omega) (by show 0 + 13 ≤ R.locals; omega) (by omega) (by omega) (by omega) dX0_leastBefore_39 ?_
    exact zr_ret (z := min z17 (min z25 z33)) hx hb hr hlocks hQ (by unfold gBef; rw [if_neg (by omega), hz17, hz25, hz33]) dX0_leastBefore_42
  · refine lv_iload_n hx hb dX0_leastBefore_4 rfl (lv_at hl 2 rfl) ?_
    refine z_if_ne (tgt := 10) hx hb dX0_leastBefore_5 (by decide) (by omega) (fun h5 => ?_) (fun h5 => ?_)
    · refine lv_aload_n hx hb dX0_leastBefore_10 rfl (lv_at hl 0 rfl) ?_
      refine lv_iload_n hx hb dX0_leastBefore_11 rfl (lv_at hl 1 rfl) ?_
      refine lv_iconst (v := iI (1 : Int)) hx hb dX0_leastBefore_12 (by decide) ?_
      refine z_isub hx hb dX0_leastBefore_13 ?_
      refine lv_iload_n hx hb dX0_leastBefore_14 rfl (lv_at hl 2 rfl) ?_
      refine lv_iconst (v := iI (1 : Int)) hx hb dX0_leastBefore_15 (by decide) ?_
      refine z_isub hx hb dX0_leastBefore_16 ?_
      refine zr_i (va_runV (As := [.int (iI ((i : Int) - (1 : Int))), .int (iI ((j : Int) - (1 : Int)))]) (rest := []) ⟨hx, hb, hml, hown, hts⟩ (c_costAt l dC dI cI h0 aq ar ac ap ps n w G ((i : Int) - (1 : Int)) ((j : Int) - (1 : Int)) hn hw (by omega) (by omega)) (cwV 2 hts (ga_V wd_334 wd_336 wd_7 wd_29 wd_337) rfl rfl rfl (by decide +kernel) ⟨(show 0 + 1 ≤ R.frames by omega), (show 8 + (4 + 11) + 0 ≤ R.locals by omega)⟩) (rd_preV (q0 := 0) (ci := 0) hP hK [0, 1] rfl rfl rfl) rfl rfl hl.1 rfl (lv_room (Nat.le_of_ble_eq_true rfl)) dX0_leastBefore_17 ⟨by omega, by omega⟩) (fun z17 hz17 => ?_)
      refine lv_aload_n hx hb dX0_leastBefore_20 rfl (lv_at hl 0 rfl) ?_
      refine lv_iload_n hx hb dX0_leastBefore_21 rfl (lv_at hl 1 rfl) ?_
      refine lv_iconst (v := iI (1 : Int)) hx hb dX0_leastBefore_22 (by decide) ?_
      refine z_isub hx hb dX0_leastBefore_23 ?_
      refine lv_iload_n hx hb dX0_leastBefore_24 rfl (lv_at hl 2 rfl) ?_
      refine zr_i (va_runV (As := [.int (iI ((i : Int) - (1 : Int))), .int (iI (j : Int))]) (rest := [.int (iI z17)]) ⟨hx, hb, hml, hown, hts⟩ (c_costAt l dC dI cI h0 aq ar ac ap ps n w G ((i : Int) - (1 : Int)) (j : Int) hn hw (by omega) (by omega)) (cwV 2 hts (ga_V wd_334 wd_336 wd_7 wd_29 wd_337) rfl rfl rfl (by decide +kernel) ⟨(show 0 + 1 ≤ R.frames by omega), (show 8 + (4 + 11) + 0 ≤ R.locals by omega)⟩) (rd_preV (q0 := 0) (ci := 0) hP hK [0, 1] rfl rfl rfl) rfl rfl hl.1 rfl (lv_room (Nat.le_of_ble_eq_true rfl)) dX0_leastBefore_25 ⟨by omega, by omega⟩) (fun z25 hz25 => ?_)
      refine lv_aload_n hx hb dX0_leastBefore_28 rfl (lv_at hl 0 rfl) ?_
      refine lv_iload_n hx hb dX0_leastBefore_29 rfl (lv_at hl 1 rfl) ?_
      refine lv_iload_n hx hb dX0_leastBefore_30 rfl (lv_at hl 2 rfl) ?_
      refine lv_iconst (v := iI (1 : Int)) hx hb dX0_leastBefore_31 (by decide) ?_
      refine z_isub hx hb dX0_leastBefore_32 ?_
      refine zr_i (va_runV (As := [.int (iI (i : Int)), .int (iI ((j : Int) - (1 : Int)))]) (rest := [.int (iI z25), .int (iI z17)]) ⟨hx, hb, hml, hown, hts⟩ (c_costAt l dC dI cI h0 aq ar ac ap ps n w G (i : Int) ((j : Int) - (1 : Int)) hn hw (by omega) (by omega)) (cwV 2 hts (ga_V wd_334 wd_336 wd_7 wd_29 wd_337) rfl rfl rfl (by decide +kernel) ⟨(show 0 + 1 ≤ R.frames by omega), (show 8 + (4 + 11) + 0 ≤ R.locals by omega)⟩) (rd_preV (q0 := 0) (ci := 0) hP hK [0, 1] rfl rfl rfl) rfl rfl hl.1 rfl (lv_room (Nat.le_of_ble_eq_true rfl)) dX0_leastBefore_33 ⟨by omega, by omega⟩) (fun z33 hz33 => ?_)
      have r17 : -2147483648 ≤ z17 ∧ z17 ≤ 2147483647 := by rw [hz17]; exact gAt_rg hG _ _
      have r25 : -2147483648 ≤ z25 ∧ z25 ≤ 2147483647 := by rw [hz25]; exact gAt_rg hG _ _
      have r33 : -2147483648 ≤ z33 ∧ z33 ≤ 2147483647 := by rw [hz33]; exact gAt_rg hG _ _
      refine z_min hx hb (hml.trans hl.1.symm) hown ml_54 st_min hMath cd_min (by omega) (by show 1 + 13 ≤ R.locals; omega) (by omega) (by omega) (by omega) dX0_leastBefore_36 ?_
      refine z_min hx hb (hml.trans hl.1.symm) hown ml_54 st_min hMath cd_min (by omega) (by show 0 + 13 ≤ R.locals; omega) (by omega) (by omega) (by omega) dX0_leastBefore_39 ?_
      exact zr_ret (z := min z17 (min z25 z33)) hx hb hr hlocks hQ (by unfold gBef; rw [if_neg (by omega), hz17, hz25, hz33]) dX0_leastBefore_42
    · refine lv_iconst (v := iI (0 : Int)) hx hb dX0_leastBefore_8 (by decide) ?_
      exact zr_ret (z := (0 : Int)) hx hb hr hlocks hQ (by unfold gBef; rw [if_pos (by omega)]) dX0_leastBefore_9
set_option maxRecDepth 100000 in
set_option maxHeartbeats 4000000 in
theorem c_pairOfPath (l : Launch) (dC : Nat → ClassId) (dI : Nat → Nat → Nat) (cI : ClassId) (h0 aq ar ac ap : Nat) (ps : Int) (n w : Nat) (P : Nat → Int) (k : Int) (hk : 0 ≤ ps + k ∧ ps + k ≤ 30) : Met l yX0_pairOfPath wsX0_pairOfPath ({ frames := 0, cells := 0, slots := 0, locals := 0 }) (rdP dC dI [(cI, .int)] [(h0, .inr (0, [.ref aq, .ref ar, .ref ac, .ref ap, .int (iI ps), .int (iI (n : Int)), .int (iI (w : Int))])), (ap, .inl (cI, 31, .inl (iA P)))] [.ref h0, .int (iI k)]) (rdQ (fun z => z = P (ps + k).toNat)) 0 0 (fun _ => False) := by
  refine Met.ofW (cc := cX0_pairOfPath) (maxL := 2) (ret := (some .int)) (by decide) rfl ?_
  intro p e s m args below meth c s₁ B hml hv
  obtain ⟨rfl, hP, hK⟩ := hv
  have hx := B.exec
  have hb := B.bytes
  have hr := B.returns
  have hts : ∀ w ∈ wsX0_pairOfPath, w.before _ s = true := atoms_spec (ws := wsX0_pairOfPath) B.pre
  have hown : s.vm.findClass RX0 = some m.cls := findClass_of_methodNamed B.named
  have hlocks := B.notSynchronized
  have hl := lv_entry ([.ref h0, .int (iI k)]) (n := 2) (Nat.le_of_ble_eq_true rfl)
  rw [lg_entry_eq]
  generalize (lg_sl ([.ref h0, .int (iI k)]) ++ List.replicate (2 - (lg_sl ([.ref h0, .int (iI k)])).length) Slot.unset).toArray = ls at hl ⊢
  have hl : lv_has ls 2 [(0, .ref h0), (1, .int (iI k))] := hl
  generalize hargs : ([.ref h0, .int (iI k)] : List Value).toArray = args at hts ⊢
  refine z_intro (fun R Q hR hQ => ?_)
  have hRf : R.frames = 0 := by rw [hR]; rfl
  have hRl : R.locals = 0 := by rw [hR]; rfl
  have hRc : R.cells = 0 := by rw [hR]; rfl
  have hRs : R.slots = 0 := by rw [hR]; rfl
  have in_X0 : ∀ w ∈ u_ws RX0 TX0 7, w ∈ wsX0_pairOfPath := fun w h => List.mem_cons_of_mem _ (inW_X0 w h)
  have fl_21 := wa_hts hts wd_58
  have fl_24 := wa_hts hts wd_59
  clear hR hargs B
  refine lv_aload_n hx hb dX0_pairOfPath_0 rfl (lv_at hl 0 rfl) ?_
  refine va_get (D := (dC, dI)) (ci := 0) (v := .ref ap) (C := RX0) (T := TX0) (N := 7) hx hb hts in_X0 hown hK hP 0 rfl rfl 3 (by decide) fl_21 (fun _ h9 => h9) rfl dX0_pairOfPath_1 ?_
  refine lv_aload_n hx hb dX0_pairOfPath_4 rfl (lv_at hl 0 rfl) ?_
  refine va_get (D := (dC, dI)) (ci := 0) (v := .int (iI ps)) (C := RX0) (T := TX0) (N := 7) hx hb hts in_X0 hown hK hP 0 rfl rfl 4 (by decide) fl_24 (fun _ h9 => h9) rfl dX0_pairOfPath_5 ?_
  refine lv_iload_n hx hb dX0_pairOfPath_8 rfl (lv_at hl 1 rfl) ?_
  refine z_iadd hx hb dX0_pairOfPath_9 ?_
  refine z_iald hx hb hK hP 1 0 rfl rfl ((ps + k).toNat) (by omega) dX0_pairOfPath_10 ?_
  exact zr_ret (z := P ((ps + k).toNat)) hx hb hr hlocks hQ (rfl) dX0_pairOfPath_11
end
section
def loI (w i p9 : Nat) (h : Nat → Int) (lw : Int) : Prop := (lw ≤ h i ∧ (∀ t, i - w ≤ t → t < p9 → lw ≤ h t) ∧ (lw = h i ∨ ∃ t, i - w ≤ t ∧ t < p9 ∧ lw = h t)) ∧ -1000 ≤ lw ∧ lw ≤ 1000
def hiI (w i p9 : Nat) (h : Nat → Int) (hg : Int) : Prop := (h i ≤ hg ∧ (∀ t, i - w ≤ t → t < p9 → h t ≤ hg) ∧ (hg = h i ∨ ∃ t, i - w ≤ t ∧ t < p9 ∧ hg = h t)) ∧ -1000 ≤ hg ∧ hg ≤ 1000
theorem loI_0 {w i : Nat} {h : Nat → Int} (hv : -1000 ≤ h i ∧ h i ≤ 1000) : loI w i (i - w) h (h i) := by
  unfold loI
  exact ⟨⟨Int.le_refl _, fun t h1 h2 => absurd h1 (by omega), Or.inl rfl⟩, hv.1, hv.2⟩
theorem hiI_0 {w i : Nat} {h : Nat → Int} (hv : -1000 ≤ h i ∧ h i ≤ 1000) : hiI w i (i - w) h (h i) := by
  unfold hiI
  exact ⟨⟨Int.le_refl _, fun t h1 h2 => absurd h1 (by omega), Or.inl rfl⟩, hv.1, hv.2⟩
theorem hull_lo {w i p9 : Nat} {h : Nat → Int} {lw : Int} (iLo : loI w i p9 h lw) (hv : -1000 ≤ h p9 ∧ h p9 ≤ 1000) (hp : i - w ≤ p9) : loI w i (p9 + 1) h (min lw (h p9)) := by
  unfold loI at iLo ⊢
  obtain ⟨⟨a1, a2, a3⟩, a4, a5⟩ := iLo
  refine ⟨⟨by clear a3; omega, fun t h1 h2 => ?_, ?_⟩, by clear a3; omega, by clear a3; omega⟩
  · clear a3
    by_cases e : t = p9
    · subst e; omega
    · have := a2 t h1 (by omega); omega
  · by_cases g : h p9 ≤ lw
    · exact Or.inr ⟨p9, hp, by clear a3; omega, by clear a3; omega⟩
    · rcases a3 with e | ⟨t, t1, t2, t3⟩
      · exact Or.inl (by omega)
      · exact Or.inr ⟨t, t1, by omega, by omega⟩
theorem hull_hi {w i p9 : Nat} {h : Nat → Int} {hg : Int} (iHi : hiI w i p9 h hg) (hv : -1000 ≤ h p9 ∧ h p9 ≤ 1000) (hp : i - w ≤ p9) : hiI w i (p9 + 1) h (max hg (h p9)) := by
  unfold hiI at iHi ⊢
  obtain ⟨⟨a1, a2, a3⟩, a4, a5⟩ := iHi
  refine ⟨⟨by clear a3; omega, fun t h1 h2 => ?_, ?_⟩, by clear a3; omega, by clear a3; omega⟩
  · clear a3
    by_cases e : t = p9
    · subst e; omega
    · have := a2 t h1 (by omega); omega
  · by_cases g : hg ≤ h p9
    · exact Or.inr ⟨p9, hp, by clear a3; omega, by clear a3; omega⟩
    · rcases a3 with e | ⟨t, t1, t2, t3⟩
      · exact Or.inl (by omega)
      · exact Or.inr ⟨t, t1, by omega, by omega⟩
theorem loI_end {n w i p9 : Nat} {h : Nat → Int} {lw : Int} (hvh : vals n h) (hi : i < n) (iLo : loI w i p9 h lw) (hp : p9 = min (i + w) (n - 1) + 1) : lw = hlo w h i n := by
  unfold loI at iLo
  obtain ⟨⟨a1, a2, a3⟩, a4, a5⟩ := iLo
  refine hlo_is hvh hi (fun t h1 h2 => a2 t (by clear a3; omega) (by clear a3; omega)) ?_
  rcases a3 with e9 | ⟨t, t1, t2, t3⟩
  · exact ⟨i, hi, by omega, e9⟩
  · exact ⟨t, by omega, by omega, t3⟩
theorem hiI_end {n w i p9 : Nat} {h : Nat → Int} {hg : Int} (hvh : vals n h) (hi : i < n) (iHi : hiI w i p9 h hg) (hp : p9 = min (i + w) (n - 1) + 1) : hg = hhi w h i n := by
  unfold hiI at iHi
  obtain ⟨⟨a1, a2, a3⟩, a4, a5⟩ := iHi
  refine hhi_is hvh hi (fun t h1 h2 => a2 t (by clear a3; omega) (by clear a3; omega)) ?_
  rcases a3 with e9 | ⟨t, t1, t2, t3⟩
  · exact ⟨i, hi, by omega, e9⟩
  · exact ⟨t, by omega, by omega, t3⟩
set_option maxRecDepth 100000 in
set_option maxHeartbeats 4000000 in
theorem c_hullBound (l : Launch) (dC : Nat → ClassId) (dI : Nat → Nat → Nat) (cI : ClassId) (h0 aq ar ac ap : Nat) (ps : Int) (n w : Nat) (a1 a2 : Nat) (h x : Nat → Int) (hn : 2 ≤ n ∧ n ≤ 16) (hw : w ≤ 15) (hvh : vals n h) (hvx : vals n x) : Met l yX0_hullBound wsX0_hullBound ({ frames := 1, cells := 0, slots := 0, locals := 22 }) (rdP dC dI [(cI, .int)] [(h0, .inr (0, [.ref aq, .ref ar, .ref ac, .ref ap, .int (iI ps), .int (iI (n : Int)), .int (iI (w : Int))])), (a1, .inl (cI, 16, .inl (iA h))), (a2, .inl (cI, 16, .inl (iA x)))] [.ref h0, .ref a1, .ref a2]) (rdQ (fun z => z = hbd n w h x n)) 0 0 (fun _ => False) := by
  refine Met.ofW (cc := cX0_hullBound) (maxL := 9) (ret := (some .int)) (by decide) rfl ?_
  intro p e s m args below meth c s₁ B hml hv
  obtain ⟨rfl, hP, hK⟩ := hv
  have hx := B.exec
  have hb := B.bytes
  have hr := B.returns
  have hts : ∀ w ∈ wsX0_hullBound, w.before _ s = true := atoms_spec (ws := wsX0_hullBound) B.pre
  have hown : s.vm.findClass RX0 = some m.cls := findClass_of_methodNamed B.named
  have hlocks := B.notSynchronized
  have hl := lv_entry ([.ref h0, .ref a1, .ref a2]) (n := 9) (Nat.le_of_ble_eq_true rfl)
  rw [lg_entry_eq]
  generalize (lg_sl ([.ref h0, .ref a1, .ref a2]) ++ List.replicate (9 - (lg_sl ([.ref h0, .ref a1, .ref a2])).length) Slot.unset).toArray = ls at hl ⊢
  have hl : lv_has ls 9 [(0, .ref h0), (1, .ref a1), (2, .ref a2)] := hl
  generalize hargs : ([.ref h0, .ref a1, .ref a2] : List Value).toArray = args at hts ⊢
  refine z_intro (fun R Q hR hQ => ?_)
  have hRf : R.frames = 1 := by rw [hR]; rfl
  have hRl : R.locals = 22 := by rw [hR]; rfl
  have hRc : R.cells = 0 := by rw [hR]; rfl
  have hRs : R.slots = 0 := by rw [hR]; rfl
  have in_X0 : ∀ w ∈ u_ws RX0 TX0 7, w ∈ wsX0_hullBound := fun w h => List.mem_cons_of_mem _ (inW_X0 w h)
  have fl_28 := wa_hts hts wd_60
  have ml_54 : (Cond.methodLink RX0 54 Lib.Math.min.name).before args s = true := wa_hts hts wd_338
  have ml_60 : (Cond.methodLink RX0 60 Lib.Math.max.name).before args s = true := wa_hts hts wd_360
  have st_max : (Cond.static Lib.Math.max.name).before args s = true := wa_hts hts wd_361
  have cd_max : (Cond.code Lib.Math.max.name Lib.Math.max.code 2 (some .int)).before args s = true := wa_hts hts wd_362
  have st_min : (Cond.static Lib.Math.min.name).before args s = true := wa_hts hts wd_339
  have cd_min : (Cond.code Lib.Math.min.name Lib.Math.min.code 2 (some .int)).before args s = true := wa_hts hts wd_340
  have hMath := wa_hts hts wd_40
  clear hR hargs B
  refine lv_iconst (v := iI (0 : Int)) hx hb dX0_hullBound_0 (by decide) ?_
  refine lv_istore_n (lv' := [(3, .int (iI (0 : Int))), (0, .ref h0), (1, .ref a1), (2, .ref a2)]) hx hb dX0_hullBound_1 rfl hl (by decide) rfl (fun ls hl => ?_)
  refine lv_iconst (v := iI (0 : Int)) hx hb dX0_hullBound_2 (by decide) ?_
  refine lv_istore (lv' := [(4, .int (iI (0 : Int))), (3, .int (iI (0 : Int))), (0, .ref h0), (1, .ref a1), (2, .ref a2)]) hx hb dX0_hullBound_3 hl (by decide) rfl (fun ls hl => ?_)
  have outer : ∀ (k9 : Nat) (i : Nat) (ls : Array Slot), (i ≤ n) → n - i = k9 → lv_has ls 9 [(0, .ref h0), (1, .ref a1), (2, .ref a2), (3, .int (iI (hbd n w h x i))), (4, .int (iI (i : Int)))] → W p l e R s m args below meth c s.heap [] 0 0 Q (F0 m 5 ls []) := by
    intro k9
    induction k9 using Nat.strongRecOn with
    | ind k9 ih_outer =>
      intro i ls hi hk9 hl
      have hsum := hbd_rg (w := w) hvh hvx i hi
      refine lv_iload hx hb dX0_hullBound_5 (lv_at hl 4 rfl) ?_
      refine lv_aload_n hx hb dX0_hullBound_7 rfl (lv_at hl 0 rfl) ?_
      refine va_get (D := (dC, dI)) (ci := 0) (v := .int (iI (n : Int))) (C := RX0) (T := TX0) (N := 7) hx hb hts in_X0 hown hK hP 0 rfl rfl 5 (by decide) fl_28 (fun _ h9 => h9) rfl dX0_hullBound_8 ?_
      refine z_icmp_ge (tgt := 100) hx hb dX0_hullBound_11 (by decide) (by omega) (fun h11 => ?_) (fun h11 => ?_)
      · refine lv_iload_n hx hb dX0_hullBound_100 rfl (lv_at hl 3 rfl) ?_
        exact zr_ret (z := hbd n w h x i) hx hb hr hlocks hQ (congrArg (hbd n w h x) (by omega)) dX0_hullBound_101
      · refine lv_aload_n hx hb dX0_hullBound_14 rfl (lv_at hl 1 rfl) ?_
        refine lv_iload hx hb dX0_hullBound_15 (lv_at hl 4 rfl) ?_
        refine z_iald hx hb hK hP 1 0 rfl rfl i (by omega) dX0_hullBound_17 ?_
        refine lv_istore (lv' := [(5, .int (iI (h i))), (0, .ref h0), (1, .ref a1), (2, .ref a2), (3, .int (iI (hbd n w h x i))), (4, .int (iI (i : Int)))]) hx hb dX0_hullBound_18 hl (by decide) rfl (fun ls hl => ?_)
        refine lv_aload_n hx hb dX0_hullBound_20 rfl (lv_at hl 2 rfl) ?_
        refine lv_iload hx hb dX0_hullBound_21 (lv_at hl 5 rfl) ?_
        refine z_iald hx hb hK hP 1 0 rfl rfl i (by omega) dX0_hullBound_23 ?_
        refine lv_istore (lv' := [(6, .int (iI (h i))), (5, .int (iI (h i))), (0, .ref h0), (1, .ref a1), (2, .ref a2), (3, .int (iI (hbd n w h x i))), (4, .int (iI (i : Int)))]) hx hb dX0_hullBound_24 hl (by decide) rfl (fun ls hl => ?_)
        refine lv_aload_n hx hb dX0_hullBound_26 rfl (lv_at hl 2 rfl) ?_
        refine lv_iload hx hb dX0_hullBound_27 (lv_at hl 6 rfl) ?_
        refine zr_i (va_runV (As := [.int (iI (i : Int))]) (rest := []) ⟨hx, hb, hml, hown, hts⟩ (c_last l dC dI cI h0 aq ar ac ap ps n w i hn hw (by omega)) (cwV 1 hts (ga_V wd_322 wd_324 wd_4 wd_29 wd_325) rfl rfl rfl (by decide +kernel) ⟨(show 0 + 1 ≤ R.frames by omega), (show 8 + (2 + 11) + 0 ≤ R.locals by omega)⟩) (rd_preV (q0 := 0) (ci := 0) hP hK [0] rfl rfl rfl) rfl rfl hl.1 rfl (lv_room (Nat.le_of_ble_eq_true rfl)) dX0_hullBound_29 ⟨by omega, by omega⟩) (fun zl hzl => ?_)
        refine lv_istore (lv' := [(7, .int (iI zl)), (6, .int (iI (h i))), (5, .int (iI (h i))), (0, .ref h0), (1, .ref a1), (2, .ref a2), (3, .int (iI (hbd n w h x i))), (4, .int (iI (i : Int)))]) hx hb dX0_hullBound_32 hl (by decide) rfl (fun ls hl => ?_)
        refine lv_aload_n hx hb dX0_hullBound_34 rfl (lv_at hl 3 rfl) ?_
        refine lv_iload hx hb dX0_hullBound_35 (lv_at hl 7 rfl) ?_
        refine zr_i (va_runV (As := [.int (iI (i : Int))]) (rest := []) ⟨hx, hb, hml, hown, hts⟩ (c_first l dC dI cI h0 aq ar ac ap ps n w i hn hw (by omega)) (cwV 1 hts (ga_V wd_326 wd_328 wd_5 wd_29 wd_329) rfl rfl rfl (by decide +kernel) ⟨(show 0 + 1 ≤ R.frames by omega), (show 8 + (2 + 11) + 0 ≤ R.locals by omega)⟩) (rd_preV (q0 := 0) (ci := 0) hP hK [0] rfl rfl rfl) rfl rfl hl.1 rfl (lv_room (Nat.le_of_ble_eq_true rfl)) dX0_hullBound_37 ⟨by omega, by omega⟩) (fun zf hzf => ?_)
        have ezf : zf = ((i - w : Nat) : Int) := hzf
        subst ezf
        refine lv_istore (lv' := [(8, .int (iI ((i - w : Nat) : Int))), (7, .int (iI zl)), (6, .int (iI (h i))), (5, .int (iI (h i))), (0, .ref h0), (1, .ref a1), (2, .ref a2), (3, .int (iI (hbd n w h x i))), (4, .int (iI (i : Int)))]) hx hb dX0_hullBound_40 hl (by decide) rfl (fun ls hl => ?_)
        have inner : ∀ (k9 : Nat) (p9 : Nat) (lw hg : Int) (ls : Array Slot), (i - w ≤ p9 ∧ p9 ≤ min (i + w) (n - 1) + 1) → (loI w i p9 h lw) → (hiI w i p9 h hg) → min (i + w) (n - 1) + 1 - p9 = k9 → lv_has ls 9 [(0, .ref h0), (1, .ref a1), (2, .ref a2), (3, .int (iI (hbd n w h x i))), (4, .int (iI (i : Int))), (5, .int (iI lw)), (6, .int (iI hg)), (7, .int (iI zl)), (8, .int (iI (p9 : Int)))] → W p l e R s m args below meth c s.heap [] 0 0 Q (F0 m 42 ls []) := by
          intro k9
          induction k9 using Nat.strongRecOn with
          | ind k9 ih_inner =>
            intro p9 lw hg ls hp9 iLo iHi hk9 hl
            have hzl2 : zl = ((min (i + w) (n - 1) : Nat) : Int) := hzl
            have hvi := hvh i (by omega)
            have rlo := iLo.2
            have rhi := iHi.2
            refine lv_iload hx hb dX0_hullBound_42 (lv_at hl 8 rfl) ?_
            refine lv_iload hx hb dX0_hullBound_44 (lv_at hl 7 rfl) ?_
            refine z_icmp_gt (tgt := 77) hx hb dX0_hullBound_46 (by decide) (by omega) (fun h46 => ?_) (fun h46 => ?_)
            · have elo : lw = hlo w h i n := loI_end hvh (by omega) iLo (by omega)
              have ehi : hg = hhi w h i n := hiI_end hvh (by omega) iHi (by omega)
              refine lv_iload_n hx hb dX0_hullBound_77 rfl (lv_at hl 3 rfl) ?_
              refine lv_aload_n hx hb dX0_hullBound_78 rfl (lv_at hl 2 rfl) ?_
              refine lv_iload hx hb dX0_hullBound_79 (lv_at hl 4 rfl) ?_
              refine z_iald hx hb hK hP 2 0 rfl rfl i (by omega) dX0_hullBound_81 ?_
              refine lv_iload hx hb dX0_hullBound_82 (lv_at hl 5 rfl) ?_
              refine lv_iload hx hb dX0_hullBound_84 (lv_at hl 6 rfl) ?_
              refine zr_i (va_runS (As := [.int (iI (x i)), .int (iI lw), .int (iI hg)]) (rest := [.int (iI (hbd n w h x i))]) ⟨hx, hb, hml, hown, hts⟩ (c_gap l dC dI cI (x i) lw hg (hvx i (by omega)) rlo rhi) (cwS 3 hts (ga_S wd_363 wd_364 wd_29 wd_365) rfl rfl rfl (by decide +kernel) ⟨(show 0 + 1 ≤ R.frames by omega), (show 8 + (3 + 11) + 0 ≤ R.locals by omega)⟩) (rd_preS hP hK [] rfl) rfl rfl hl.1 rfl (lv_room (Nat.le_of_ble_eq_true rfl)) dX0_hullBound_86 ⟨by omega, by omega⟩) (fun zg hzg => ?_)
              refine zr_i (va_runS (As := [.int (iI zg)]) (rest := [.int (iI (hbd n w h x i))]) ⟨hx, hb, hml, hown, hts⟩ (c_square l dC dI cI zg) (cwS 1 hts (ga_S wd_341 wd_342 wd_29 wd_343) rfl rfl rfl (by decide +kernel) ⟨(show 0 + 1 ≤ R.frames by omega), (show 8 + (1 + 11) + 0 ≤ R.locals by omega)⟩) (rd_preS hP hK [] rfl) rfl rfl hl.1 rfl (lv_room (Nat.le_of_ble_eq_true rfl)) dX0_hullBound_89 ⟨by omega, by omega⟩) (fun zs hzs => ?_)
              refine z_iadd hx hb dX0_hullBound_92 ?_
              refine z_top (b := hbd n w h x (i + 1)) (by rw [hbd, hzs, hzg, elo, ehi]) ?_
              refine lv_istore_n (lv' := [(3, .int (iI (hbd n w h x (i + 1)))), (0, .ref h0), (1, .ref a1), (2, .ref a2), (4, .int (iI (i : Int))), (5, .int (iI lw)), (6, .int (iI hg)), (7, .int (iI zl)), (8, .int (iI (p9 : Int)))]) hx hb dX0_hullBound_93 rfl hl (by decide) rfl (fun ls hl => ?_)
              refine z_iinc (k := 4) (b := ((i + 1 : Nat) : Int)) (lv' := [(4, .int (iI ((i + 1 : Nat) : Int))), (3, .int (iI (hbd n w h x (i + 1)))), (0, .ref h0), (1, .ref a1), (2, .ref a2), (5, .int (iI lw)), (6, .int (iI hg)), (7, .int (iI zl)), (8, .int (iI (p9 : Int)))]) hx hb dX0_hullBound_94 hl rfl (by omega) (by decide) rfl (fun ls hl => ?_)
              refine lv_goto (tgt := 5) hx hb dX0_hullBound_97 (by decide) ?_
              exact ih_outer _ (by omega) (i + 1) ls (by omega) rfl (lv_sub hl [2, 3, 4, 1, 0] rfl)
            · have hvp := hvh p9 (by omega)
              refine lv_iload hx hb dX0_hullBound_49 (lv_at hl 5 rfl) ?_
              refine lv_aload_n hx hb dX0_hullBound_51 rfl (lv_at hl 1 rfl) ?_
              refine lv_iload hx hb dX0_hullBound_52 (lv_at hl 8 rfl) ?_
              refine z_iald hx hb hK hP 1 0 rfl rfl p9 (by omega) dX0_hullBound_54 ?_
              refine z_min hx hb (hml.trans hl.1.symm) hown ml_54 st_min hMath cd_min (by omega) (by show 0 + 13 ≤ R.locals; omega) (by omega) (by omega) (by omega) dX0_hullBound_55 ?_
              refine lv_istore (lv' := [(5, .int (iI (min lw (h p9)))), (0, .ref h0), (1, .ref a1), (2, .ref a2), (3, .int (iI (hbd n w h x i))), (4, .int (iI (i : Int))), (6, .int (iI hg)), (7, .int (iI zl)), (8, .int (iI (p9 : Int)))]) hx hb dX0_hullBound_58 hl (by decide) rfl (fun ls hl => ?_)
              refine lv_iload hx hb dX0_hullBound_60 (lv_at hl 6 rfl) ?_
              refine lv_aload_n hx hb dX0_hullBound_62 rfl (lv_at hl 2 rfl) ?_
              refine lv_iload hx hb dX0_hullBound_63 (lv_at hl 8 rfl) ?_
              refine z_iald hx hb hK hP 1 0 rfl rfl p9 (by omega) dX0_hullBound_65 ?_
              refine z_max hx hb (hml.trans hl.1.symm) hown ml_60 st_max hMath cd_max (by omega) (by show 0 + 13 ≤ R.locals; omega) (by omega) (by omega) (by omega) dX0_hullBound_66 ?_
              refine lv_istore (lv' := [(6, .int (iI (max hg (h p9)))), (5, .int (iI (min lw (h p9)))), (0, .ref h0), (1, .ref a1), (2, .ref a2), (3, .int (iI (hbd n w h x i))), (4, .int (iI (i : Int))), (7, .int (iI zl)), (8, .int (iI (p9 : Int)))]) hx hb dX0_hullBound_69 hl (by decide) rfl (fun ls hl => ?_)
              refine z_iinc (k := 8) (b := ((p9 + 1 : Nat) : Int)) (lv' := [(8, .int (iI ((p9 + 1 : Nat) : Int))), (6, .int (iI (max hg (h p9)))), (5, .int (iI (min lw (h p9)))), (0, .ref h0), (1, .ref a1), (2, .ref a2), (3, .int (iI (hbd n w h x i))), (4, .int (iI (i : Int))), (7, .int (iI zl))]) hx hb dX0_hullBound_71 hl rfl (by omega) (by decide) rfl (fun ls hl => ?_)
              refine lv_goto (tgt := 42) hx hb dX0_hullBound_74 (by decide) ?_
              exact ih_inner _ (by omega) (p9 + 1) (min lw (h p9)) (max hg (h p9)) ls (by omega) (hull_lo iLo (hvh p9 (by omega)) (by omega)) (hull_hi iHi (hvh p9 (by omega)) (by omega)) rfl (lv_sub hl [3, 4, 5, 6, 7, 2, 1, 8, 0] rfl)
        exact inner _ (i - w) (h i) (h i) ls (by omega) (loI_0 (hvh i (by omega))) (hiI_0 (hvh i (by omega))) rfl (lv_sub hl [4, 5, 6, 7, 8, 3, 2, 1, 0] rfl)
  exact outer _ 0 ls (by omega) rfl (lv_sub hl [2, 3, 4, 1, 0] rfl)
set_option maxRecDepth 100000 in
set_option maxHeartbeats 4000000 in
theorem c_lowerBound (l : Launch) (dC : Nat → ClassId) (dI : Nat → Nat → Nat) (cI : ClassId) (h0 aq ar ac ap : Nat) (ps : Int) (n w : Nat) (q r : Nat → Int) (which : Int) (hn : 2 ≤ n ∧ n ≤ 16) (hw : w ≤ 15) (hvq : vals n q) (hvr : vals n r) (hwh : 0 ≤ which ∧ which ≤ 2) : Met l yX0_lowerBound wsX0_lowerBound ({ frames := 2, cells := 0, slots := 0, locals := 50 }) (rdP dC dI [(cI, .int)] [(h0, .inr (0, [.ref aq, .ref ar, .ref ac, .ref ap, .int (iI ps), .int (iI (n : Int)), .int (iI (w : Int))])), (aq, .inl (cI, 16, .inl (iA q))), (ar, .inl (cI, 16, .inl (iA r)))] [.ref h0, .int (iI which)]) (rdQ (fun z => z = lbd n w q r which)) 0 0 (fun _ => False) := by
  refine Met.ofW (cc := cX0_lowerBound) (maxL := 2) (ret := (some .int)) (by decide) rfl ?_
  intro p e s m args below meth c s₁ B hml hv
  obtain ⟨rfl, hP, hK⟩ := hv
  have hx := B.exec
  have hb := B.bytes
  have hr := B.returns
  have hts : ∀ w ∈ wsX0_lowerBound, w.before _ s = true := atoms_spec (ws := wsX0_lowerBound) B.pre
  have hown : s.vm.findClass RX0 = some m.cls := findClass_of_methodNamed B.named
  have hlocks := B.notSynchronized
  have hl := lv_entry ([.ref h0, .int (iI which)]) (n := 2) (Nat.le_of_ble_eq_true rfl)
  rw [lg_entry_eq]
  generalize (lg_sl ([.ref h0, .int (iI which)]) ++ List.replicate (2 - (lg_sl ([.ref h0, .int (iI which)])).length) Slot.unset).toArray = ls at hl ⊢
  have hl : lv_has ls 2 [(0, .ref h0), (1, .int (iI which))] := hl
  generalize hargs : ([.ref h0, .int (iI which)] : List Value).toArray = args at hts ⊢
  refine z_intro (fun R Q hR hQ => ?_)
  have hRf : R.frames = 2 := by rw [hR]; rfl
  have hRl : R.locals = 50 := by rw [hR]; rfl
  have hRc : R.cells = 0 := by rw [hR]; rfl
  have hRs : R.slots = 0 := by rw [hR]; rfl
  have in_X0 : ∀ w ∈ u_ws RX0 TX0 7, w ∈ wsX0_lowerBound := fun w h => List.mem_cons_of_mem _ (inW_X0 w h)
  have fl_9 := wa_hts hts wd_55
  have fl_15 := wa_hts hts wd_56
  have fl_28 := wa_hts hts wd_60
  clear hR hargs B
  refine lv_iload_n hx hb dX0_lowerBound_0 rfl (lv_at hl 1 rfl) ?_
  refine z_if_ne (tgt := 48) hx hb dX0_lowerBound_1 (by decide) (by omega) (fun h1 => ?_) (fun h1 => ?_)
  · refine lv_iload_n hx hb dX0_lowerBound_48 rfl (lv_at hl 1 rfl) ?_
    refine lv_iconst (v := iI (1 : Int)) hx hb dX0_lowerBound_49 (by decide) ?_
    refine z_icmp_ne (tgt := 68) hx hb dX0_lowerBound_50 (by decide) (by omega) (fun h50 => ?_) (fun h50 => ?_)
    · refine lv_aload_n hx hb dX0_lowerBound_68 rfl (lv_at hl 0 rfl) ?_
      refine lv_aload_n hx hb dX0_lowerBound_69 rfl (lv_at hl 0 rfl) ?_
      refine va_get (D := (dC, dI)) (ci := 0) (v := .ref ar) (C := RX0) (T := TX0) (N := 7) hx hb hts in_X0 hown hK hP 0 rfl rfl 1 (by decide) fl_15 (fun _ h9 => h9) rfl dX0_lowerBound_70 ?_
      refine lv_aload_n hx hb dX0_lowerBound_73 rfl (lv_at hl 0 rfl) ?_
      refine va_get (D := (dC, dI)) (ci := 0) (v := .ref aq) (C := RX0) (T := TX0) (N := 7) hx hb hts in_X0 hown hK hP 0 rfl rfl 0 (by decide) fl_9 (fun _ h9 => h9) rfl dX0_lowerBound_74 ?_
      refine zr_i (va_runV (As := [.ref ar, .ref aq]) (rest := []) ⟨hx, hb, hml, hown, hts⟩ (c_hullBound l dC dI cI h0 aq ar ac ap ps n w ar aq r q hn hw hvr hvq) (cwV 2 hts (ga_V wd_356 wd_358 wd_8 wd_29 wd_359) rfl rfl rfl (by decide +kernel) ⟨(show 1 + 1 ≤ R.frames by omega), (show 8 + (9 + 11) + 22 ≤ R.locals by omega)⟩) (rd_preV (q0 := 0) (ci := 0) hP hK [0, 2, 1] rfl rfl rfl) rfl rfl hl.1 rfl (lv_room (Nat.le_of_ble_eq_true rfl)) dX0_lowerBound_77 ⟨by omega, by omega⟩) (fun z77 hz77 => ?_)
      exact zr_ret (z := z77) hx hb hr hlocks hQ (by unfold lbd; rw [if_neg h1, if_neg h50, hz77]) dX0_lowerBound_80
    · refine lv_aload_n hx hb dX0_lowerBound_53 rfl (lv_at hl 0 rfl) ?_
      refine lv_aload_n hx hb dX0_lowerBound_54 rfl (lv_at hl 0 rfl) ?_
      refine va_get (D := (dC, dI)) (ci := 0) (v := .ref aq) (C := RX0) (T := TX0) (N := 7) hx hb hts in_X0 hown hK hP 0 rfl rfl 0 (by decide) fl_9 (fun _ h9 => h9) rfl dX0_lowerBound_55 ?_
      refine lv_aload_n hx hb dX0_lowerBound_58 rfl (lv_at hl 0 rfl) ?_
      refine va_get (D := (dC, dI)) (ci := 0) (v := .ref ar) (C := RX0) (T := TX0) (N := 7) hx hb hts in_X0 hown hK hP 0 rfl rfl 1 (by decide) fl_15 (fun _ h9 => h9) rfl dX0_lowerBound_59 ?_
      refine zr_i (va_runV (As := [.ref aq, .ref ar]) (rest := []) ⟨hx, hb, hml, hown, hts⟩ (c_hullBound l dC dI cI h0 aq ar ac ap ps n w aq ar q r hn hw hvq hvr) (cwV 2 hts (ga_V wd_356 wd_358 wd_8 wd_29 wd_359) rfl rfl rfl (by decide +kernel) ⟨(show 1 + 1 ≤ R.frames by omega), (show 8 + (9 + 11) + 22 ≤ R.locals by omega)⟩) (rd_preV (q0 := 0) (ci := 0) hP hK [0, 1, 2] rfl rfl rfl) rfl rfl hl.1 rfl (lv_room (Nat.le_of_ble_eq_true rfl)) dX0_lowerBound_62 ⟨by omega, by omega⟩) (fun z62 hz62 => ?_)
      refine lv_goto (tgt := 80) hx hb dX0_lowerBound_65 (by decide) ?_
      exact zr_ret (z := z62) hx hb hr hlocks hQ (by unfold lbd; rw [if_neg h1, if_pos h50, hz62]) dX0_lowerBound_80
  · refine lv_aload_n hx hb dX0_lowerBound_4 rfl (lv_at hl 0 rfl) ?_
    refine va_get (D := (dC, dI)) (ci := 0) (v := .ref aq) (C := RX0) (T := TX0) (N := 7) hx hb hts in_X0 hown hK hP 0 rfl rfl 0 (by decide) fl_9 (fun _ h9 => h9) rfl dX0_lowerBound_5 ?_
    refine lv_iconst (v := iI (0 : Int)) hx hb dX0_lowerBound_8 (by decide) ?_
    refine z_iald hx hb hK hP 1 0 rfl rfl 0 (by omega) dX0_lowerBound_9 ?_
    refine lv_aload_n hx hb dX0_lowerBound_10 rfl (lv_at hl 0 rfl) ?_
    refine va_get (D := (dC, dI)) (ci := 0) (v := .ref ar) (C := RX0) (T := TX0) (N := 7) hx hb hts in_X0 hown hK hP 0 rfl rfl 1 (by decide) fl_15 (fun _ h9 => h9) rfl dX0_lowerBound_11 ?_
    refine lv_iconst (v := iI (0 : Int)) hx hb dX0_lowerBound_14 (by decide) ?_
    refine z_iald hx hb hK hP 2 0 rfl rfl 0 (by omega) dX0_lowerBound_15 ?_
    refine z_isub hx hb dX0_lowerBound_16 ?_
    refine zr_i (va_runS (As := [.int (iI ((q 0) - (r 0)))]) (rest := []) ⟨hx, hb, hml, hown, hts⟩ (c_square l dC dI cI ((q 0) - (r 0))) (cwS 1 hts (ga_S wd_341 wd_342 wd_29 wd_343) rfl rfl rfl (by decide +kernel) ⟨(show 0 + 1 ≤ R.frames by omega), (show 8 + (1 + 11) + 0 ≤ R.locals by omega)⟩) (rd_preS hP hK [] rfl) rfl rfl hl.1 rfl (lv_room (Nat.le_of_ble_eq_true rfl)) dX0_lowerBound_17 ⟨by omega, by omega⟩) (fun z17 hz17 => ?_)
    refine lv_aload_n hx hb dX0_lowerBound_20 rfl (lv_at hl 0 rfl) ?_
    refine va_get (D := (dC, dI)) (ci := 0) (v := .ref aq) (C := RX0) (T := TX0) (N := 7) hx hb hts in_X0 hown hK hP 0 rfl rfl 0 (by decide) fl_9 (fun _ h9 => h9) rfl dX0_lowerBound_21 ?_
    refine lv_aload_n hx hb dX0_lowerBound_24 rfl (lv_at hl 0 rfl) ?_
    refine va_get (D := (dC, dI)) (ci := 0) (v := .int (iI (n : Int))) (C := RX0) (T := TX0) (N := 7) hx hb hts in_X0 hown hK hP 0 rfl rfl 5 (by decide) fl_28 (fun _ h9 => h9) rfl dX0_lowerBound_25 ?_
    refine lv_iconst (v := iI (1 : Int)) hx hb dX0_lowerBound_28 (by decide) ?_
    refine z_isub hx hb dX0_lowerBound_29 ?_
    refine z_top (b := ((n - 1 : Nat) : Int)) (by omega) ?_
    refine z_iald hx hb hK hP 1 0 rfl rfl (n - 1) (by omega) dX0_lowerBound_30 ?_
    refine lv_aload_n hx hb dX0_lowerBound_31 rfl (lv_at hl 0 rfl) ?_
    refine va_get (D := (dC, dI)) (ci := 0) (v := .ref ar) (C := RX0) (T := TX0) (N := 7) hx hb hts in_X0 hown hK hP 0 rfl rfl 1 (by decide) fl_15 (fun _ h9 => h9) rfl dX0_lowerBound_32 ?_
    refine lv_aload_n hx hb dX0_lowerBound_35 rfl (lv_at hl 0 rfl) ?_
    refine va_get (D := (dC, dI)) (ci := 0) (v := .int (iI (n : Int))) (C := RX0) (T := TX0) (N := 7) hx hb hts in_X0 hown hK hP 0 rfl rfl 5 (by decide) fl_28 (fun _ h9 => h9) rfl dX0_lowerBound_36 ?_
    refine lv_iconst (v := iI (1 : Int)) hx hb dX0_lowerBound_39 (by decide) ?_
    refine z_isub hx hb dX0_lowerBound_40 ?_
    refine z_top (b := ((n - 1 : Nat) : Int)) (by omega) ?_
    refine z_iald hx hb hK hP 2 0 rfl rfl (n - 1) (by omega) dX0_lowerBound_41 ?_
    refine z_isub hx hb dX0_lowerBound_42 ?_
    refine zr_i (va_runS (As := [.int (iI ((q (n - 1)) - (r (n - 1))))]) (rest := [.int (iI z17)]) ⟨hx, hb, hml, hown, hts⟩ (c_square l dC dI cI ((q (n - 1)) - (r (n - 1)))) (cwS 1 hts (ga_S wd_341 wd_342 wd_29 wd_343) rfl rfl rfl (by decide +kernel) ⟨(show 0 + 1 ≤ R.frames by omega), (show 8 + (1 + 11) + 0 ≤ R.locals by omega)⟩) (rd_preS hP hK [] rfl) rfl rfl hl.1 rfl (lv_room (Nat.le_of_ble_eq_true rfl)) dX0_lowerBound_43 ⟨by omega, by omega⟩) (fun z43 hz43 => ?_)
    refine z_iadd hx hb dX0_lowerBound_46 ?_
    exact zr_ret (z := z17 + z43) hx hb hr hlocks hQ (by unfold lbd; rw [if_pos h1, hz17, hz43]; rfl) dX0_lowerBound_47
end
section
set_option maxRecDepth 100000 in
set_option maxHeartbeats 4000000 in
theorem c_placeQuestion (l : Launch) (dC : Nat → ClassId) (dI : Nat → Nat → Nat) (cI : ClassId) (h0 aq ar ac ap ax : Nat) (ps : Int) (n1 w1 n w : Nat) (q x : Nat → Int) (sz : Nat) (hn : 2 ≤ n ∧ n ≤ 16) (hw : w ≤ 15) : Met l yX0_placeQuestion wsX0_placeQuestion ({ frames := 1, cells := 0, slots := 0, locals := 40 }) (wrP dC dI [(cI, .int)] [(h0, .inr (0, [.ref aq, .ref ar, .ref ac, .ref ap, .int (iI ps), .int (iI (n1 : Int)), .int (iI (w1 : Int))])), (aq, .inl (cI, 16, .inl (iA q))), (ax, .inl (cI, 16, .inl (iA x)))] sz [.ref h0, .ref ax, .int (iI (n : Int)), .int (iI (w : Int))]) (wrQv dC dI [(cI, .int)] [(h0, .inr (0, [.ref aq, .ref ar, .ref ac, .ref ap, .int (iI ps), .int (iI (n1 : Int)), .int (iI (w1 : Int))])), (aq, .inl (cI, 16, .inl (iA q))), (ax, .inl (cI, 16, .inl (iA x)))] sz (S := Unit) (fun _ => True) (fun _ => [(h0, .inr (0, [.ref aq, .ref ar, .ref ac, .ref ap, .int (iI ps), .int (iI (n : Int)), .int (iI (w : Int))])), (aq, .inl (cI, 16, .inl (iA (zC x q 0 0 n)))), (ax, .inl (cI, 16, .inl (iA x)))])) 0 0 (va_A [(h0, .inr (0, [.ref aq, .ref ar, .ref ac, .ref ap, .int (iI ps), .int (iI (n1 : Int)), .int (iI (w1 : Int))])), (aq, .inl (cI, 16, .inl (iA q))), (ax, .inl (cI, 16, .inl (iA x)))] sz) := by
  refine Met.ofW (cc := cX0_placeQuestion) (maxL := 4) (ret := none) (by decide) rfl ?_
  intro p e s m args below meth c s₁ B hml hv
  obtain ⟨rfl, hsz, hP, hK, hD0⟩ := hv
  have hx := B.exec
  have hb := B.bytes
  have hr := B.returns
  have hts : ∀ w ∈ wsX0_placeQuestion, w.before _ s = true := atoms_spec (ws := wsX0_placeQuestion) B.pre
  have hown : s.vm.findClass RX0 = some m.cls := findClass_of_methodNamed B.named
  have hlocks := B.notSynchronized
  subst hsz
  have hD := hD0.self (sz := s.heap.size)
  have hA : ∀ q9 : Nat, s.heap.size ≤ q9 → va_A [(h0, .inr (0, [.ref aq, .ref ar, .ref ac, .ref ap, .int (iI ps), .int (iI (n1 : Int)), .int (iI (w1 : Int))])), (aq, .inl (cI, 16, .inl (iA q))), (ax, .inl (cI, 16, .inl (iA x)))] s.heap.size q9 := fun q9 h => Or.inr h
  have hS : va_S (va_A [(h0, .inr (0, [.ref aq, .ref ar, .ref ac, .ref ap, .int (iI ps), .int (iI (n1 : Int)), .int (iI (w1 : Int))])), (aq, .inl (cI, 16, .inl (iA q))), (ax, .inl (cI, 16, .inl (iA x)))] s.heap.size) s.heap s.heap [] := va_S.rf
  generalize hAe : va_A [(h0, .inr (0, [.ref aq, .ref ar, .ref ac, .ref ap, .int (iI ps), .int (iI (n1 : Int)), .int (iI (w1 : Int))])), (aq, .inl (cI, 16, .inl (iA q))), (ax, .inl (cI, 16, .inl (iA x)))] s.heap.size = A at hD hA hS
  have hP : va_P (dC, dI) vwCl [(h0, .inr (0, [.ref aq, .ref ar, .ref ac, .ref ap, .int (iI ps), .int (iI (n1 : Int)), .int (iI (w1 : Int))])), (aq, .inl (cI, 16, .inl (iA q))), (ax, .inl (cI, 16, .inl (iA x)))] s.heap := hP
  have hl := lv_entry ([.ref h0, .ref ax, .int (iI (n : Int)), .int (iI (w : Int))]) (n := 4) (Nat.le_of_ble_eq_true rfl)
  rw [lg_entry_eq]
  generalize (lg_sl ([.ref h0, .ref ax, .int (iI (n : Int)), .int (iI (w : Int))]) ++ List.replicate (4 - (lg_sl ([.ref h0, .ref ax, .int (iI (n : Int)), .int (iI (w : Int))])).length) Slot.unset).toArray = ls at hl ⊢
  have hl : lv_has ls 4 [(0, .ref h0), (1, .ref ax), (2, .int (iI (n : Int))), (3, .int (iI (w : Int)))] := hl
  generalize hargs : ([.ref h0, .ref ax, .int (iI (n : Int)), .int (iI (w : Int))] : List Value).toArray = args at hts ⊢
  refine z_intro (fun R Q hR hQ => ?_)
  have hRf : R.frames = 1 := by rw [hR]; rfl
  have hRl : R.locals = 40 := by rw [hR]; rfl
  have hRc : R.cells = 0 := by rw [hR]; rfl
  have hRs : R.slots = 0 := by rw [hR]; rfl
  have in_X0 : ∀ w ∈ u_ws RX0 TX0 7, w ∈ wsX0_placeQuestion := fun w h => List.mem_cons_of_mem _ (inW_X0 w h)
  have fl_9 := wa_hts hts wd_55
  have fl_28 := wa_hts hts wd_60
  have fl_31 := wa_hts hts wd_61
  have ml_34 : (Cond.methodLink RX0 34 arraycopyName).before args s = true := wa_hts hts wd_308
  have nt_copy : (Cond.native arraycopyName).before args s = true := wa_hts hts wd_272
  have st_copy : (Cond.static arraycopyName).before args s = true := wa_hts hts wd_271
  have hSys := wa_hts hts wd_39
  clear hR hargs B
  refine lv_aload_n hx hb dX0_placeQuestion_0 rfl (lv_at hl 1 rfl) ?_
  refine lv_iconst (v := iI (0 : Int)) hx hb dX0_placeQuestion_1 (by decide) ?_
  refine lv_aload_n hx hb dX0_placeQuestion_2 rfl (lv_at hl 0 rfl) ?_
  refine va_get (D := (dC, dI)) (ci := 0) (v := .ref aq) (C := RX0) (T := TX0) (N := 7) hx hb hts in_X0 hown hK hP 0 rfl rfl 0 (by decide) fl_9 (fun _ h9 => h9) rfl dX0_placeQuestion_3 ?_
  refine lv_iconst (v := iI (0 : Int)) hx hb dX0_placeQuestion_6 (by decide) ?_
  refine lv_iload_n hx hb dX0_placeQuestion_7 rfl (lv_at hl 2 rfl) ?_
  refine z_copy hx hb (hml.trans hl.1.symm) hown ml_34 nt_copy st_copy hSys hK hP hD hS 2 1 0 rfl rfl rfl 0 0 n (by omega) (by omega) (by show 0 + (nativeFrameWords "java/lang/System" "arraycopy" 5 + 11) ≤ R.locals; rw [hRl]; decide +kernel) dX0_placeQuestion_8 (fun H locs hP hD hS => ?_)
  have hP : va_P (dC, dI) vwCl [(h0, .inr (0, [.ref aq, .ref ar, .ref ac, .ref ap, .int (iI ps), .int (iI (n1 : Int)), .int (iI (w1 : Int))])), (aq, .inl (cI, 16, .inl (iA (zC x q 0 0 n)))), (ax, .inl (cI, 16, .inl (iA x)))] H := hP
  have hD : va_D A [(h0, .inr (0, [.ref aq, .ref ar, .ref ac, .ref ap, .int (iI ps), .int (iI (n1 : Int)), .int (iI (w1 : Int))])), (aq, .inl (cI, 16, .inl (iA (zC x q 0 0 n)))), (ax, .inl (cI, 16, .inl (iA x)))] := hD
  refine lv_aload_n hx hb dX0_placeQuestion_11 rfl (lv_at hl 0 rfl) ?_
  refine lv_iload_n hx hb dX0_placeQuestion_12 rfl (lv_at hl 2 rfl) ?_
  refine va_put (D := (dC, dI)) (ci := 0) (v := .int (iI (n : Int))) (ty := .int) (C := RX0) (T := TX0) (N := 7) hx hb hts in_X0 tyX0 tyX0_ok nmX0 hown hK hP hD hS 0 rfl rfl 5 (by decide) fl_28 (fun _ h9 => h9) rfl (by decide +kernel) rfl rfl (Nat.le_of_ble_eq_true rfl) dX0_placeQuestion_13 (fun H locs hP hD hS => ?_)
  have hP : va_P (dC, dI) vwCl [(h0, .inr (0, [.ref aq, .ref ar, .ref ac, .ref ap, .int (iI ps), .int (iI (n : Int)), .int (iI (w1 : Int))])), (aq, .inl (cI, 16, .inl (iA (zC x q 0 0 n)))), (ax, .inl (cI, 16, .inl (iA x)))] H := hP
  have hD : va_D A [(h0, .inr (0, [.ref aq, .ref ar, .ref ac, .ref ap, .int (iI ps), .int (iI (n : Int)), .int (iI (w1 : Int))])), (aq, .inl (cI, 16, .inl (iA (zC x q 0 0 n)))), (ax, .inl (cI, 16, .inl (iA x)))] := hD
  refine lv_aload_n hx hb dX0_placeQuestion_16 rfl (lv_at hl 0 rfl) ?_
  refine lv_iload_n hx hb dX0_placeQuestion_17 rfl (lv_at hl 3 rfl) ?_
  refine va_put (D := (dC, dI)) (ci := 0) (v := .int (iI (w : Int))) (ty := .int) (C := RX0) (T := TX0) (N := 7) hx hb hts in_X0 tyX0 tyX0_ok nmX0 hown hK hP hD hS 0 rfl rfl 6 (by decide) fl_31 (fun _ h9 => h9) rfl (by decide +kernel) rfl rfl (Nat.le_of_ble_eq_true rfl) dX0_placeQuestion_18 (fun H locs hP hD hS => ?_)
  have hP : va_P (dC, dI) vwCl [(h0, .inr (0, [.ref aq, .ref ar, .ref ac, .ref ap, .int (iI ps), .int (iI (n : Int)), .int (iI (w : Int))])), (aq, .inl (cI, 16, .inl (iA (zC x q 0 0 n)))), (ax, .inl (cI, 16, .inl (iA x)))] H := hP
  have hD : va_D A [(h0, .inr (0, [.ref aq, .ref ar, .ref ac, .ref ap, .int (iI ps), .int (iI (n : Int)), .int (iI (w : Int))])), (aq, .inl (cI, 16, .inl (iA (zC x q 0 0 n)))), (ax, .inl (cI, 16, .inl (iA x)))] := hD
  subst hAe
  exact zw_retv (()) hx hb hr hlocks hQ (trivial) hP hK hD hS dX0_placeQuestion_21
set_option maxRecDepth 100000 in
set_option maxHeartbeats 4000000 in
theorem c_placeBeside (l : Launch) (dC : Nat → ClassId) (dI : Nat → Nat → Nat) (cI : ClassId) (h0 aq ar ac ap : Nat) (ps : Int) (n w : Nat) (ax nx f0 : Nat) (r x : Nat → Int) (sz : Nat) (hn : 2 ≤ n ∧ n ≤ 16) (hw : w ≤ 15) (hf0 : f0 + n ≤ nx ∧ nx ≤ 1000) : Met l yX0_placeBeside wsX0_placeBeside ({ frames := 1, cells := 0, slots := 0, locals := 40 }) (wrP dC dI [(cI, .int)] [(h0, .inr (0, [.ref aq, .ref ar, .ref ac, .ref ap, .int (iI ps), .int (iI (n : Int)), .int (iI (w : Int))])), (ar, .inl (cI, 16, .inl (iA r))), (ax, .inl (cI, nx, .inl (iA x)))] sz [.ref h0, .ref ax, .int (iI (f0 : Int))]) (wrQv dC dI [(cI, .int)] [(h0, .inr (0, [.ref aq, .ref ar, .ref ac, .ref ap, .int (iI ps), .int (iI (n : Int)), .int (iI (w : Int))])), (ar, .inl (cI, 16, .inl (iA r))), (ax, .inl (cI, nx, .inl (iA x)))] sz (S := Unit) (fun _ => True) (fun _ => [(h0, .inr (0, [.ref aq, .ref ar, .ref ac, .ref ap, .int (iI ps), .int (iI (n : Int)), .int (iI (w : Int))])), (ar, .inl (cI, 16, .inl (iA (zC x r f0 0 n)))), (ax, .inl (cI, nx, .inl (iA x)))])) 0 0 (va_A [(h0, .inr (0, [.ref aq, .ref ar, .ref ac, .ref ap, .int (iI ps), .int (iI (n : Int)), .int (iI (w : Int))])), (ar, .inl (cI, 16, .inl (iA r))), (ax, .inl (cI, nx, .inl (iA x)))] sz) := by
  refine Met.ofW (cc := cX0_placeBeside) (maxL := 3) (ret := none) (by decide) rfl ?_
  intro p e s m args below meth c s₁ B hml hv
  obtain ⟨rfl, hsz, hP, hK, hD0⟩ := hv
  have hx := B.exec
  have hb := B.bytes
  have hr := B.returns
  have hts : ∀ w ∈ wsX0_placeBeside, w.before _ s = true := atoms_spec (ws := wsX0_placeBeside) B.pre
  have hown : s.vm.findClass RX0 = some m.cls := findClass_of_methodNamed B.named
  have hlocks := B.notSynchronized
  subst hsz
  have hD := hD0.self (sz := s.heap.size)
  have hA : ∀ q9 : Nat, s.heap.size ≤ q9 → va_A [(h0, .inr (0, [.ref aq, .ref ar, .ref ac, .ref ap, .int (iI ps), .int (iI (n : Int)), .int (iI (w : Int))])), (ar, .inl (cI, 16, .inl (iA r))), (ax, .inl (cI, nx, .inl (iA x)))] s.heap.size q9 := fun q9 h => Or.inr h
  have hS : va_S (va_A [(h0, .inr (0, [.ref aq, .ref ar, .ref ac, .ref ap, .int (iI ps), .int (iI (n : Int)), .int (iI (w : Int))])), (ar, .inl (cI, 16, .inl (iA r))), (ax, .inl (cI, nx, .inl (iA x)))] s.heap.size) s.heap s.heap [] := va_S.rf
  generalize hAe : va_A [(h0, .inr (0, [.ref aq, .ref ar, .ref ac, .ref ap, .int (iI ps), .int (iI (n : Int)), .int (iI (w : Int))])), (ar, .inl (cI, 16, .inl (iA r))), (ax, .inl (cI, nx, .inl (iA x)))] s.heap.size = A at hD hA hS
  have hP : va_P (dC, dI) vwCl [(h0, .inr (0, [.ref aq, .ref ar, .ref ac, .ref ap, .int (iI ps), .int (iI (n : Int)), .int (iI (w : Int))])), (ar, .inl (cI, 16, .inl (iA r))), (ax, .inl (cI, nx, .inl (iA x)))] s.heap := hP
  have hl := lv_entry ([.ref h0, .ref ax, .int (iI (f0 : Int))]) (n := 3) (Nat.le_of_ble_eq_true rfl)
  rw [lg_entry_eq]
  generalize (lg_sl ([.ref h0, .ref ax, .int (iI (f0 : Int))]) ++ List.replicate (3 - (lg_sl ([.ref h0, .ref ax, .int (iI (f0 : Int))])).length) Slot.unset).toArray = ls at hl ⊢
  have hl : lv_has ls 3 [(0, .ref h0), (1, .ref ax), (2, .int (iI (f0 : Int)))] := hl
  generalize hargs : ([.ref h0, .ref ax, .int (iI (f0 : Int))] : List Value).toArray = args at hts ⊢
  refine z_intro (fun R Q hR hQ => ?_)
  have hRf : R.frames = 1 := by rw [hR]; rfl
  have hRl : R.locals = 40 := by rw [hR]; rfl
  have hRc : R.cells = 0 := by rw [hR]; rfl
  have hRs : R.slots = 0 := by rw [hR]; rfl
  have in_X0 : ∀ w ∈ u_ws RX0 TX0 7, w ∈ wsX0_placeBeside := fun w h => List.mem_cons_of_mem _ (inW_X0 w h)
  have fl_15 := wa_hts hts wd_56
  have fl_28 := wa_hts hts wd_60
  have ml_34 : (Cond.methodLink RX0 34 arraycopyName).before args s = true := wa_hts hts wd_308
  have nt_copy : (Cond.native arraycopyName).before args s = true := wa_hts hts wd_272
  have st_copy : (Cond.static arraycopyName).before args s = true := wa_hts hts wd_271
  have hSys := wa_hts hts wd_39
  clear hR hargs B
  refine lv_aload_n hx hb dX0_placeBeside_0 rfl (lv_at hl 1 rfl) ?_
  refine lv_iload_n hx hb dX0_placeBeside_1 rfl (lv_at hl 2 rfl) ?_
  refine lv_aload_n hx hb dX0_placeBeside_2 rfl (lv_at hl 0 rfl) ?_
  refine va_get (D := (dC, dI)) (ci := 0) (v := .ref ar) (C := RX0) (T := TX0) (N := 7) hx hb hts in_X0 hown hK hP 0 rfl rfl 1 (by decide) fl_15 (fun _ h9 => h9) rfl dX0_placeBeside_3 ?_
  refine lv_iconst (v := iI (0 : Int)) hx hb dX0_placeBeside_6 (by decide) ?_
  refine lv_aload_n hx hb dX0_placeBeside_7 rfl (lv_at hl 0 rfl) ?_
  refine va_get (D := (dC, dI)) (ci := 0) (v := .int (iI (n : Int))) (C := RX0) (T := TX0) (N := 7) hx hb hts in_X0 hown hK hP 0 rfl rfl 5 (by decide) fl_28 (fun _ h9 => h9) rfl dX0_placeBeside_8 ?_
  refine z_copy hx hb (hml.trans hl.1.symm) hown ml_34 nt_copy st_copy hSys hK hP hD hS 2 1 0 rfl rfl rfl f0 0 n (by omega) (by omega) (by show 0 + (nativeFrameWords "java/lang/System" "arraycopy" 5 + 11) ≤ R.locals; rw [hRl]; decide +kernel) dX0_placeBeside_11 (fun H locs hP hD hS => ?_)
  have hP : va_P (dC, dI) vwCl [(h0, .inr (0, [.ref aq, .ref ar, .ref ac, .ref ap, .int (iI ps), .int (iI (n : Int)), .int (iI (w : Int))])), (ar, .inl (cI, 16, .inl (iA (zC x r f0 0 n)))), (ax, .inl (cI, nx, .inl (iA x)))] H := hP
  have hD : va_D A [(h0, .inr (0, [.ref aq, .ref ar, .ref ac, .ref ap, .int (iI ps), .int (iI (n : Int)), .int (iI (w : Int))])), (ar, .inl (cI, 16, .inl (iA (zC x r f0 0 n)))), (ax, .inl (cI, nx, .inl (iA x)))] := hD
  subst hAe
  exact zw_retv (()) hx hb hr hlocks hQ (trivial) hP hK hD hS dX0_placeBeside_14
theorem line_ln {w i j : Nat} {q r G9 : Nat → Int} (hln : ∀ b, i - w ≤ b → b < j → G9 (16 * i + b) = cst w q r i b) : ∀ b, i - w ≤ b → b < j + 1 → zU G9 (16 * i + j) (cst w q r i j) (16 * i + b) = cst w q r i b := by
  intro b h1 h2
  by_cases e : b = j
  · subst e
    rw [zU_s]
  · rw [zU_n (by omega)]
    exact hln b h1 (by omega)
def lsI (w i j : Nat) (q r : Nat → Int) (ls9 : Int) : Prop := (∀ b, i - w ≤ b → b < j → ls9 ≤ cst w q r i b) ∧ ((ls9 = 1000000000 ∧ j = i - w) ∨ ∃ b, i - w ≤ b ∧ b < j ∧ ls9 = cst w q r i b) ∧ -2147483648 ≤ ls9 ∧ ls9 ≤ 2147483647
theorem lsI_0 {w i : Nat} {q r : Nat → Int} : lsI w i (i - w) q r 1000000000 := by
  unfold lsI
  exact ⟨fun b h1 h2 => absurd h1 (by omega), Or.inl ⟨rfl, rfl⟩, by omega, by omega⟩
theorem lsI_rg {w i j : Nat} {q r : Nat → Int} {ls9 : Int} (h : lsI w i j q r ls9) : -2147483648 ≤ ls9 ∧ ls9 ≤ 2147483647 := by
  unfold lsI at h
  exact h.2.2
theorem lsI_le {n w i j : Nat} {q r : Nat → Int} {ls9 : Int} (h : lsI w i j q r ls9) (hj : min (i + w) (n - 1) < j) : ∀ b, b < n → inb w i b → ls9 ≤ cst w q r i b := by
  unfold lsI at h
  have h1 := h.1
  clear h
  exact fun b b1 b2 => h1 b (by omega) (by omega)
theorem lsI_ex {n w i j : Nat} {q r : Nat → Int} {ls9 : Int} (h : lsI w i j q r ls9) (hj : min (i + w) (n - 1) + 1 = j) (hi : i < n) : ∃ b, b < n ∧ inb w i b ∧ ls9 = cst w q r i b := by
  unfold lsI at h
  rcases h.2.1 with ⟨e1, e2⟩ | ⟨b, b1, b2, b3⟩
  · clear h
    omega
  · clear h
    exact ⟨b, by omega, by omega, b3⟩
theorem line_ls {w i j : Nat} {q r : Nat → Int} {ls9 : Int} (hls : lsI w i j q r ls9) (hcr : 0 ≤ cst w q r i j ∧ cst w q r i j ≤ 124000000) (hj : i - w ≤ j) : lsI w i (j + 1) q r (min ls9 (cst w q r i j)) := by
  unfold lsI at hls ⊢
  obtain ⟨a1, a2, a3, a4⟩ := hls
  refine ⟨fun b h1 h2 => ?_, Or.inr ?_, by clear a2; omega, by clear a2; omega⟩
  · clear a2
    by_cases e : b = j
    · subst e; omega
    · have := a1 b h1 (by omega); omega
  · by_cases g : cst w q r i j ≤ ls9
    · exact ⟨j, hj, by clear a2; omega, by clear a2; omega⟩
    · rcases a2 with ⟨e1, e2⟩ | ⟨b, b1, b2, b3⟩
      · omega
      · exact ⟨b, b1, by omega, by omega⟩
theorem line_end {n w i j : Nat} {q r G9 : Nat → Int} (hok : ∀ a b, a < i → b < n → inb w a b → G9 (16 * a + b) = cst w q r a b) (hln : ∀ b, i - w ≤ b → b < j → G9 (16 * i + b) = cst w q r i b) (hj : min (i + w) (n - 1) < j) : ∀ a b, a < i + 1 → b < n → inb w a b → G9 (16 * a + b) = cst w q r a b := by
  intro a b h1 h2 h3
  by_cases e : a = i
  · subst e
    exact hln b (by omega) (by omega)
  · exact hok a b (by omega) h2 h3
set_option maxRecDepth 100000 in
set_option maxHeartbeats 4000000 in
theorem c_fillLine (l : Launch) (dC : Nat → ClassId) (dI : Nat → Nat → Nat) (cI : ClassId) (h0 aq ar ac ap : Nat) (ps : Int) (n w : Nat) (i : Nat) (q r G : Nat → Int) (sz : Nat) (hn : 2 ≤ n ∧ n ≤ 16) (hw : w ≤ 15) (hvq : vals n q) (hvr : vals n r) (hi : i < n) (hG : rgA G) (hG1 : ∀ a b, a < i → b < n → inb w a b → G (16 * a + b) = cst w q r a b) : Met l yX0_fillLine wsX0_fillLine ({ frames := 2, cells := 0, slots := 0, locals := 45 }) (wrP dC dI [(cI, .int)] [(h0, .inr (0, [.ref aq, .ref ar, .ref ac, .ref ap, .int (iI ps), .int (iI (n : Int)), .int (iI (w : Int))])), (aq, .inl (cI, 16, .inl (iA q))), (ar, .inl (cI, 16, .inl (iA r))), (ac, .inl (cI, 256, .inl (iA G)))] sz [.ref h0, .int (iI (i : Int))]) (wrQi dC dI [(cI, .int)] [(h0, .inr (0, [.ref aq, .ref ar, .ref ac, .ref ap, .int (iI ps), .int (iI (n : Int)), .int (iI (w : Int))])), (aq, .inl (cI, 16, .inl (iA q))), (ar, .inl (cI, 16, .inl (iA r))), (ac, .inl (cI, 256, .inl (iA G)))] sz (S := (Nat → Int)) (fun z u => rgA u ∧ (∀ a b, a < i + 1 → b < n → inb w a b → u (16 * a + b) = cst w q r a b) ∧ (∀ b, b < n → inb w i b → z ≤ cst w q r i b) ∧ (∃ b, b < n ∧ inb w i b ∧ z = cst w q r i b)) (fun u => [(h0, .inr (0, [.ref aq, .ref ar, .ref ac, .ref ap, .int (iI ps), .int (iI (n : Int)), .int (iI (w : Int))])), (aq, .inl (cI, 16, .inl (iA q))), (ar, .inl (cI, 16, .inl (iA r))), (ac, .inl (cI, 256, .inl (iA u)))])) 0 0 (va_A [(h0, .inr (0, [.ref aq, .ref ar, .ref ac, .ref ap, .int (iI ps), .int (iI (n : Int)), .int (iI (w : Int))])), (aq, .inl (cI, 16, .inl (iA q))), (ar, .inl (cI, 16, .inl (iA r))), (ac, .inl (cI, 256, .inl (iA G)))] sz) := by
  refine Met.ofW (cc := cX0_fillLine) (maxL := 6) (ret := (some .int)) (by decide) rfl ?_
  intro p e s m args below meth c s₁ B hml hv
  obtain ⟨rfl, hsz, hP, hK, hD0⟩ := hv
  have hx := B.exec
  have hb := B.bytes
  have hr := B.returns
  have hts : ∀ w ∈ wsX0_fillLine, w.before _ s = true := atoms_spec (ws := wsX0_fillLine) B.pre
  have hown : s.vm.findClass RX0 = some m.cls := findClass_of_methodNamed B.named
  have hlocks := B.notSynchronized
  subst hsz
  have hD := hD0.self (sz := s.heap.size)
  have hA : ∀ q9 : Nat, s.heap.size ≤ q9 → va_A [(h0, .inr (0, [.ref aq, .ref ar, .ref ac, .ref ap, .int (iI ps), .int (iI (n : Int)), .int (iI (w : Int))])), (aq, .inl (cI, 16, .inl (iA q))), (ar, .inl (cI, 16, .inl (iA r))), (ac, .inl (cI, 256, .inl (iA G)))] s.heap.size q9 := fun q9 h => Or.inr h
  have hS : va_S (va_A [(h0, .inr (0, [.ref aq, .ref ar, .ref ac, .ref ap, .int (iI ps), .int (iI (n : Int)), .int (iI (w : Int))])), (aq, .inl (cI, 16, .inl (iA q))), (ar, .inl (cI, 16, .inl (iA r))), (ac, .inl (cI, 256, .inl (iA G)))] s.heap.size) s.heap s.heap [] := va_S.rf
  generalize hAe : va_A [(h0, .inr (0, [.ref aq, .ref ar, .ref ac, .ref ap, .int (iI ps), .int (iI (n : Int)), .int (iI (w : Int))])), (aq, .inl (cI, 16, .inl (iA q))), (ar, .inl (cI, 16, .inl (iA r))), (ac, .inl (cI, 256, .inl (iA G)))] s.heap.size = A at hD hA hS
  have hP : va_P (dC, dI) vwCl [(h0, .inr (0, [.ref aq, .ref ar, .ref ac, .ref ap, .int (iI ps), .int (iI (n : Int)), .int (iI (w : Int))])), (aq, .inl (cI, 16, .inl (iA q))), (ar, .inl (cI, 16, .inl (iA r))), (ac, .inl (cI, 256, .inl (iA G)))] s.heap := hP
  have hl := lv_entry ([.ref h0, .int (iI (i : Int))]) (n := 6) (Nat.le_of_ble_eq_true rfl)
  rw [lg_entry_eq]
  generalize (lg_sl ([.ref h0, .int (iI (i : Int))]) ++ List.replicate (6 - (lg_sl ([.ref h0, .int (iI (i : Int))])).length) Slot.unset).toArray = ls at hl ⊢
  have hl : lv_has ls 6 [(0, .ref h0), (1, .int (iI (i : Int)))] := hl
  generalize hargs : ([.ref h0, .int (iI (i : Int))] : List Value).toArray = args at hts ⊢
  refine z_intro (fun R Q hR hQ => ?_)
  have hRf : R.frames = 2 := by rw [hR]; rfl
  have hRl : R.locals = 45 := by rw [hR]; rfl
  have hRc : R.cells = 0 := by rw [hR]; rfl
  have hRs : R.slots = 0 := by rw [hR]; rfl
  have in_X0 : ∀ w ∈ u_ws RX0 TX0 7, w ∈ wsX0_fillLine := fun w h => List.mem_cons_of_mem _ (inW_X0 w h)
  have fl_9 := wa_hts hts wd_55
  have fl_15 := wa_hts hts wd_56
  have fl_18 := wa_hts hts wd_57
  have ml_54 : (Cond.methodLink RX0 54 Lib.Math.min.name).before args s = true := wa_hts hts wd_338
  have kc_73 := wa_hts hts wd_321
  have st_min : (Cond.static Lib.Math.min.name).before args s = true := wa_hts hts wd_339
  have cd_min : (Cond.code Lib.Math.min.name Lib.Math.min.code 2 (some .int)).before args s = true := wa_hts hts wd_340
  have hMath := wa_hts hts wd_40
  clear hR hargs B
  refine z_ldc hx hb (1000000000 : Int) hown kc_73 (by decide) dX0_fillLine_0 ?_
  refine lv_istore_n (lv' := [(2, .int (iI (1000000000 : Int))), (0, .ref h0), (1, .int (iI (i : Int)))]) hx hb dX0_fillLine_2 rfl hl (by decide) rfl (fun ls hl => ?_)
  refine lv_aload_n hx hb dX0_fillLine_3 rfl (lv_at hl 1 rfl) ?_
  refine lv_iload_n hx hb dX0_fillLine_4 rfl (lv_at hl 2 rfl) ?_
  refine zr_i (va_runV (As := [.int (iI (i : Int))]) (rest := []) ⟨hx, hb, hml, hown, hts⟩ (c_last l dC dI cI h0 aq ar ac ap ps n w i hn hw (by omega)) (cwV 1 hts (ga_V wd_322 wd_324 wd_4 wd_29 wd_325) rfl rfl rfl (by decide +kernel) ⟨(show 0 + 1 ≤ R.frames by omega), (show 8 + (2 + 11) + 0 ≤ R.locals by omega)⟩) (rd_preV (q0 := 0) (ci := 0) hP hK [0] rfl rfl rfl) rfl rfl hl.1 rfl (lv_room (Nat.le_of_ble_eq_true rfl)) dX0_fillLine_5 ⟨by omega, by omega⟩) (fun zl hzl => ?_)
  refine lv_istore_n (lv' := [(3, .int (iI zl)), (2, .int (iI (1000000000 : Int))), (0, .ref h0), (1, .int (iI (i : Int)))]) hx hb dX0_fillLine_8 rfl hl (by decide) rfl (fun ls hl => ?_)
  refine lv_aload_n hx hb dX0_fillLine_9 rfl (lv_at hl 2 rfl) ?_
  refine lv_iload_n hx hb dX0_fillLine_10 rfl (lv_at hl 3 rfl) ?_
  refine zr_i (va_runV (As := [.int (iI (i : Int))]) (rest := []) ⟨hx, hb, hml, hown, hts⟩ (c_first l dC dI cI h0 aq ar ac ap ps n w i hn hw (by omega)) (cwV 1 hts (ga_V wd_326 wd_328 wd_5 wd_29 wd_329) rfl rfl rfl (by decide +kernel) ⟨(show 0 + 1 ≤ R.frames by omega), (show 8 + (2 + 11) + 0 ≤ R.locals by omega)⟩) (rd_preV (q0 := 0) (ci := 0) hP hK [0] rfl rfl rfl) rfl rfl hl.1 rfl (lv_room (Nat.le_of_ble_eq_true rfl)) dX0_fillLine_11 ⟨by omega, by omega⟩) (fun zf hzf => ?_)
  subst hzf
  refine lv_istore (lv' := [(4, .int (iI ((i - w : Nat) : Int))), (3, .int (iI zl)), (2, .int (iI (1000000000 : Int))), (0, .ref h0), (1, .int (iI (i : Int)))]) hx hb dX0_fillLine_14 hl (by decide) rfl (fun ls hl => ?_)
  have lp : ∀ (k9 : Nat) (j : Nat) (ls9 : Int) (G9 : Nat → Int) (H : Heap) (locs : List Loc) (ls : Array Slot), (i - w ≤ j ∧ j ≤ min (i + w) (n - 1) + 1) → (rgA G9) → (∀ a b, a < i → b < n → inb w a b → G9 (16 * a + b) = cst w q r a b) → (∀ b, i - w ≤ b → b < j → G9 (16 * i + b) = cst w q r i b) → (lsI w i j q r ls9) → min (i + w) (n - 1) + 1 - j = k9 → va_P (dC, dI) vwCl [(h0, .inr (0, [.ref aq, .ref ar, .ref ac, .ref ap, .int (iI ps), .int (iI (n : Int)), .int (iI (w : Int))])), (aq, .inl (cI, 16, .inl (iA q))), (ar, .inl (cI, 16, .inl (iA r))), (ac, .inl (cI, 256, .inl (iA G9)))] H → va_D A [(h0, .inr (0, [.ref aq, .ref ar, .ref ac, .ref ap, .int (iI ps), .int (iI (n : Int)), .int (iI (w : Int))])), (aq, .inl (cI, 16, .inl (iA q))), (ar, .inl (cI, 16, .inl (iA r))), (ac, .inl (cI, 256, .inl (iA G9)))] → va_S A s.heap H locs → lv_has ls 6 [(0, .ref h0), (1, .int (iI (i : Int))), (2, .int (iI ls9)), (3, .int (iI zl)), (4, .int (iI (j : Int)))] → W p l e R s m args below meth c H locs 0 0 Q (F0 m 16 ls []) := by
    intro k9
    induction k9 using Nat.strongRecOn with
    | ind k9 ih_lp =>
      intro j ls9 G9 H locs ls hj hG9 hok hln hls hk9 hP hD hS hl
      have rls := lsI_rg hls
      have hzl2 : zl = ((min (i + w) (n - 1) : Nat) : Int) := hzl
      refine lv_iload hx hb dX0_fillLine_16 (lv_at hl 4 rfl) ?_
      refine lv_iload_n hx hb dX0_fillLine_18 rfl (lv_at hl 3 rfl) ?_
      refine z_icmp_gt (tgt := 76) hx hb dX0_fillLine_19 (by decide) (by omega) (fun h19 => ?_) (fun h19 => ?_)
      · refine lv_iload_n hx hb dX0_fillLine_76 rfl (lv_at hl 2 rfl) ?_
        subst hAe
        exact zw_reti (z := ls9) (G9) hx hb hr hlocks hQ (⟨hG9, line_end hok hln (by omega), lsI_le hls (by omega), lsI_ex hls (by omega) hi⟩) hP hK hD hS dX0_fillLine_77
      · have hbj : inb w i j := by omega
        have hcr := cst_rg hvq hvr hn.2 hi (show j < n by omega) hbj
        refine lv_aload_n hx hb dX0_fillLine_22 rfl (lv_at hl 0 rfl) ?_
        refine lv_iload_n hx hb dX0_fillLine_23 rfl (lv_at hl 1 rfl) ?_
        refine lv_iload hx hb dX0_fillLine_24 (lv_at hl 4 rfl) ?_
        refine zr_i (va_runV (As := [.int (iI (i : Int)), .int (iI (j : Int))]) (rest := []) ⟨hx, hb, hml, hown, hts⟩ (c_leastBefore l dC dI cI h0 aq ar ac ap ps n w G9 i j hn hw hG9 (by omega) (by omega)) (cwV 2 hts (ga_V wd_330 wd_332 wd_6 wd_29 wd_333) rfl rfl rfl (by decide +kernel) ⟨(show 1 + 1 ≤ R.frames by omega), (show 8 + (3 + 11) + 23 ≤ R.locals by omega)⟩) (rd_preV (q0 := 0) (ci := 0) hP hK [0, 3] rfl rfl rfl) rfl rfl hl.1 rfl (lv_room (Nat.le_of_ble_eq_true rfl)) dX0_fillLine_26 ⟨by omega, by omega⟩) (fun zb hzb => ?_)
        refine lv_aload_n hx hb dX0_fillLine_29 rfl (lv_at hl 0 rfl) ?_
        refine va_get (D := (dC, dI)) (ci := 0) (v := .ref aq) (C := RX0) (T := TX0) (N := 7) hx hb hts in_X0 hown hK hP 0 rfl rfl 0 (by decide) fl_9 (fun _ h9 => h9) rfl dX0_fillLine_30 ?_
        refine lv_iload_n hx hb dX0_fillLine_33 rfl (lv_at hl 1 rfl) ?_
        refine z_iald hx hb hK hP 1 0 rfl rfl i (by omega) dX0_fillLine_34 ?_
        refine lv_aload_n hx hb dX0_fillLine_35 rfl (lv_at hl 0 rfl) ?_
        refine va_get (D := (dC, dI)) (ci := 0) (v := .ref ar) (C := RX0) (T := TX0) (N := 7) hx hb hts in_X0 hown hK hP 0 rfl rfl 1 (by decide) fl_15 (fun _ h9 => h9) rfl dX0_fillLine_36 ?_
        refine lv_iload hx hb dX0_fillLine_39 (lv_at hl 4 rfl) ?_
        refine z_iald hx hb hK hP 2 0 rfl rfl j (by omega) dX0_fillLine_41 ?_
        refine z_isub hx hb dX0_fillLine_42 ?_
        refine zr_i (va_runS (As := [.int (iI ((q i) - (r j)))]) (rest := [.int (iI zb)]) ⟨hx, hb, hml, hown, hts⟩ (c_square l dC dI cI ((q i) - (r j))) (cwS 1 hts (ga_S wd_341 wd_342 wd_29 wd_343) rfl rfl rfl (by decide +kernel) ⟨(show 0 + 1 ≤ R.frames by omega), (show 8 + (1 + 11) + 0 ≤ R.locals by omega)⟩) (rd_preS hP hK [] rfl) rfl rfl hl.1 rfl (lv_room (Nat.le_of_ble_eq_true rfl)) dX0_fillLine_43 ⟨by omega, by omega⟩) (fun zs hzs => ?_)
        refine z_iadd hx hb dX0_fillLine_46 ?_
        refine z_top (b := cst w q r i j) (by rw [hzb, hzs]; exact cst_eq hvq hvr hn.2 hi (by omega) hbj (fun b h1 h2 h3 => hok (i - 1) b (by omega) (by omega) h3) (fun h1 h2 => hln (j - 1) (by omega) (by omega))) ?_
        refine lv_istore (lv' := [(5, .int (iI (cst w q r i j))), (0, .ref h0), (1, .int (iI (i : Int))), (2, .int (iI ls9)), (3, .int (iI zl)), (4, .int (iI (j : Int)))]) hx hb dX0_fillLine_47 hl (by decide) rfl (fun ls hl => ?_)
        refine lv_aload_n hx hb dX0_fillLine_49 rfl (lv_at hl 1 rfl) ?_
        refine va_get (D := (dC, dI)) (ci := 0) (v := .ref ac) (C := RX0) (T := TX0) (N := 7) hx hb hts in_X0 hown hK hP 0 rfl rfl 2 (by decide) fl_18 (fun _ h9 => h9) rfl dX0_fillLine_50 ?_
        refine lv_bipush (v := iI (16 : Int)) hx hb dX0_fillLine_53 (by decide) ?_
        refine lv_iload_n hx hb dX0_fillLine_55 rfl (lv_at hl 2 rfl) ?_
        refine z_imul hx hb dX0_fillLine_56 ?_
        refine lv_iload hx hb dX0_fillLine_57 (lv_at hl 5 rfl) ?_
        refine z_iadd hx hb dX0_fillLine_59 ?_
        refine lv_iload hx hb dX0_fillLine_60 (lv_at hl 0 rfl) ?_
        refine z_iast hx hb hK hP hD hS 3 0 rfl rfl ((16 * i) + j) (by omega) dX0_fillLine_62 (fun H locs hP hD hS => ?_)
        have hP : va_P (dC, dI) vwCl [(h0, .inr (0, [.ref aq, .ref ar, .ref ac, .ref ap, .int (iI ps), .int (iI (n : Int)), .int (iI (w : Int))])), (aq, .inl (cI, 16, .inl (iA q))), (ar, .inl (cI, 16, .inl (iA r))), (ac, .inl (cI, 256, .inl (iA (zU G9 ((16 * i) + j) (cst w q r i j)))))] H := hP
        have hD : va_D A [(h0, .inr (0, [.ref aq, .ref ar, .ref ac, .ref ap, .int (iI ps), .int (iI (n : Int)), .int (iI (w : Int))])), (aq, .inl (cI, 16, .inl (iA q))), (ar, .inl (cI, 16, .inl (iA r))), (ac, .inl (cI, 256, .inl (iA (zU G9 ((16 * i) + j) (cst w q r i j)))))] := hD
        refine lv_iload_n hx hb dX0_fillLine_63 rfl (lv_at hl 3 rfl) ?_
        refine lv_iload hx hb dX0_fillLine_64 (lv_at hl 0 rfl) ?_
        refine z_min hx hb (hml.trans hl.1.symm) hown ml_54 st_min hMath cd_min (by omega) (by show 0 + 13 ≤ R.locals; omega) (by omega) (by omega) (by omega) dX0_fillLine_66 ?_
        refine lv_istore_n (lv' := [(2, .int (iI (min ls9 (cst w q r i j)))), (5, .int (iI (cst w q r i j))), (0, .ref h0), (1, .int (iI (i : Int))), (3, .int (iI zl)), (4, .int (iI (j : Int)))]) hx hb dX0_fillLine_69 rfl hl (by decide) rfl (fun ls hl => ?_)
        refine z_iinc (k := 5) (b := ((j + 1 : Nat) : Int)) (lv' := [(4, .int (iI ((j + 1 : Nat) : Int))), (2, .int (iI (min ls9 (cst w q r i j)))), (5, .int (iI (cst w q r i j))), (0, .ref h0), (1, .int (iI (i : Int))), (3, .int (iI zl))]) hx hb dX0_fillLine_70 hl rfl (by omega) (by decide) rfl (fun ls hl => ?_)
        refine lv_goto (tgt := 16) hx hb dX0_fillLine_73 (by decide) ?_
        exact ih_lp _ (by omega) (j + 1) (min ls9 (cst w q r i j)) (zU G9 (16 * i + j) (cst w q r i j)) H locs ls (by omega) (rgA_u hG9 (by omega)) (fun a b h1 h2 h3 => by rw [zU_n (by omega)]; exact hok a b h1 h2 h3) (line_ln hln) (line_ls hls hcr (by omega)) rfl hP hD hS (lv_sub hl [3, 4, 1, 5, 0] rfl)
  exact lp _ (i - w) 1000000000 G _ _ ls (by omega) (hG) (hG1) (fun b h1 h2 => by omega) (lsI_0) rfl hP hD hS (lv_sub hl [3, 4, 2, 1, 0] rfl)
theorem lc_ng {n w i : Nat} {q r : Nat → Int} {lim z : Int} (hng : lim ≠ -1 → ∀ a, a < i → ∃ b, b < n ∧ inb w a b ∧ cst w q r a b < lim) (h : ∃ b, b < n ∧ inb w i b ∧ z = cst w q r i b) (hz : lim ≠ -1 → z < lim) : lim ≠ -1 → ∀ a, a < i + 1 → ∃ b, b < n ∧ inb w a b ∧ cst w q r a b < lim := by
  intro h1 a ha
  by_cases e : a = i
  · subst e
    obtain ⟨b, b1, b2, b3⟩ := h
    exact ⟨b, b1, b2, by have := hz h1; omega⟩
  · exact hng h1 a (by omega)
theorem lc_no {n w i : Nat} {q r : Nat → Int} {lim : Int} (h : ∀ a, a < i → ∃ b, b < n ∧ inb w a b ∧ cst w q r a b < lim) (hi : n ≤ i) (hg : givesUp n w q r lim) : False := by
  obtain ⟨a, a1, a2⟩ := hg
  obtain ⟨b, b1, b2, b3⟩ := h a (by omega)
  have := a2 b b1 b2
  omega
set_option maxRecDepth 100000 in
set_option maxHeartbeats 4000000 in
theorem c_leastCost (l : Launch) (dC : Nat → ClassId) (dI : Nat → Nat → Nat) (cI : ClassId) (h0 aq ar ac ap : Nat) (ps : Int) (n w : Nat) (lim : Int) (q r G : Nat → Int) (sz : Nat) (hn : 2 ≤ n ∧ n ≤ 16) (hw : w ≤ 15) (hvq : vals n q) (hvr : vals n r) (hlim : -1 ≤ lim ∧ lim ≤ 2147483647) (hG : rgA G) : Met l yX0_leastCost wsX0_leastCost ({ frames := 3, cells := 0, slots := 0, locals := 70 }) (wrP dC dI [(cI, .int)] [(h0, .inr (0, [.ref aq, .ref ar, .ref ac, .ref ap, .int (iI ps), .int (iI (n : Int)), .int (iI (w : Int))])), (aq, .inl (cI, 16, .inl (iA q))), (ar, .inl (cI, 16, .inl (iA r))), (ac, .inl (cI, 256, .inl (iA G)))] sz [.ref h0, .int (iI lim)]) (wrQi dC dI [(cI, .int)] [(h0, .inr (0, [.ref aq, .ref ar, .ref ac, .ref ap, .int (iI ps), .int (iI (n : Int)), .int (iI (w : Int))])), (aq, .inl (cI, 16, .inl (iA q))), (ar, .inl (cI, 16, .inl (iA r))), (ac, .inl (cI, 256, .inl (iA G)))] sz (S := (Nat → Int)) (fun z u => rgA u ∧ ((z = -1 ∧ lim ≠ -1 ∧ givesUp n w q r lim) ∨ (z = cst w q r (n - 1) (n - 1) ∧ (lim ≠ -1 → ¬ givesUp n w q r lim) ∧ (∀ a b, a < n → b < n → inb w a b → u (16 * a + b) = cst w q r a b)))) (fun u => [(h0, .inr (0, [.ref aq, .ref ar, .ref ac, .ref ap, .int (iI ps), .int (iI (n : Int)), .int (iI (w : Int))])), (aq, .inl (cI, 16, .inl (iA q))), (ar, .inl (cI, 16, .inl (iA r))), (ac, .inl (cI, 256, .inl (iA u)))])) 0 0 (va_A [(h0, .inr (0, [.ref aq, .ref ar, .ref ac, .ref ap, .int (iI ps), .int (iI (n : Int)), .int (iI (w : Int))])), (aq, .inl (cI, 16, .inl (iA q))), (ar, .inl (cI, 16, .inl (iA r))), (ac, .inl (cI, 256, .inl (iA G)))] sz) := by
  refine Met.ofW (cc := cX0_leastCost) (maxL := 4) (ret := (some .int)) (by decide) rfl ?_
  intro p e s m args below meth c s₁ B hml hv
  obtain ⟨rfl, hsz, hP, hK, hD0⟩ := hv
  have hx := B.exec
  have hb := B.bytes
  have hr := B.returns
  have hts : ∀ w ∈ wsX0_leastCost, w.before _ s = true := atoms_spec (ws := wsX0_leastCost) B.pre
  have hown : s.vm.findClass RX0 = some m.cls := findClass_of_methodNamed B.named
  have hlocks := B.notSynchronized
  subst hsz
  have hD := hD0.self (sz := s.heap.size)
  have hA : ∀ q9 : Nat, s.heap.size ≤ q9 → va_A [(h0, .inr (0, [.ref aq, .ref ar, .ref ac, .ref ap, .int (iI ps), .int (iI (n : Int)), .int (iI (w : Int))])), (aq, .inl (cI, 16, .inl (iA q))), (ar, .inl (cI, 16, .inl (iA r))), (ac, .inl (cI, 256, .inl (iA G)))] s.heap.size q9 := fun q9 h => Or.inr h
  have hS : va_S (va_A [(h0, .inr (0, [.ref aq, .ref ar, .ref ac, .ref ap, .int (iI ps), .int (iI (n : Int)), .int (iI (w : Int))])), (aq, .inl (cI, 16, .inl (iA q))), (ar, .inl (cI, 16, .inl (iA r))), (ac, .inl (cI, 256, .inl (iA G)))] s.heap.size) s.heap s.heap [] := va_S.rf
  generalize hAe : va_A [(h0, .inr (0, [.ref aq, .ref ar, .ref ac, .ref ap, .int (iI ps), .int (iI (n : Int)), .int (iI (w : Int))])), (aq, .inl (cI, 16, .inl (iA q))), (ar, .inl (cI, 16, .inl (iA r))), (ac, .inl (cI, 256, .inl (iA G)))] s.heap.size = A at hD hA hS
  have hP : va_P (dC, dI) vwCl [(h0, .inr (0, [.ref aq, .ref ar, .ref ac, .ref ap, .int (iI ps), .int (iI (n : Int)), .int (iI (w : Int))])), (aq, .inl (cI, 16, .inl (iA q))), (ar, .inl (cI, 16, .inl (iA r))), (ac, .inl (cI, 256, .inl (iA G)))] s.heap := hP
  have hl := lv_entry ([.ref h0, .int (iI lim)]) (n := 4) (Nat.le_of_ble_eq_true rfl)
  rw [lg_entry_eq]
  generalize (lg_sl ([.ref h0, .int (iI lim)]) ++ List.replicate (4 - (lg_sl ([.ref h0, .int (iI lim)])).length) Slot.unset).toArray = ls at hl ⊢
  have hl : lv_has ls 4 [(0, .ref h0), (1, .int (iI lim))] := hl
  generalize hargs : ([.ref h0, .int (iI lim)] : List Value).toArray = args at hts ⊢
  refine z_intro (fun R Q hR hQ => ?_)
  have hRf : R.frames = 3 := by rw [hR]; rfl
  have hRl : R.locals = 70 := by rw [hR]; rfl
  have hRc : R.cells = 0 := by rw [hR]; rfl
  have hRs : R.slots = 0 := by rw [hR]; rfl
  have in_X0 : ∀ w ∈ u_ws RX0 TX0 7, w ∈ wsX0_leastCost := fun w h => List.mem_cons_of_mem _ (inW_X0 w h)
  have fl_28 := wa_hts hts wd_60
  clear hR hargs B
  refine lv_iconst (v := iI (0 : Int)) hx hb dX0_leastCost_0 (by decide) ?_
  refine lv_istore_n (lv' := [(2, .int (iI (0 : Int))), (0, .ref h0), (1, .int (iI lim))]) hx hb dX0_leastCost_1 rfl hl (by decide) rfl (fun ls hl => ?_)
  have lp : ∀ (k9 : Nat) (i : Nat) (G9 : Nat → Int) (H : Heap) (locs : List Loc) (ls : Array Slot), (i ≤ n) → (rgA G9) → (∀ a b, a < i → b < n → inb w a b → G9 (16 * a + b) = cst w q r a b) → (lim ≠ -1 → ∀ a, a < i → ∃ b, b < n ∧ inb w a b ∧ cst w q r a b < lim) → n - i = k9 → va_P (dC, dI) vwCl [(h0, .inr (0, [.ref aq, .ref ar, .ref ac, .ref ap, .int (iI ps), .int (iI (n : Int)), .int (iI (w : Int))])), (aq, .inl (cI, 16, .inl (iA q))), (ar, .inl (cI, 16, .inl (iA r))), (ac, .inl (cI, 256, .inl (iA G9)))] H → va_D A [(h0, .inr (0, [.ref aq, .ref ar, .ref ac, .ref ap, .int (iI ps), .int (iI (n : Int)), .int (iI (w : Int))])), (aq, .inl (cI, 16, .inl (iA q))), (ar, .inl (cI, 16, .inl (iA r))), (ac, .inl (cI, 256, .inl (iA G9)))] → va_S A s.heap H locs → lv_has ls 4 [(0, .ref h0), (1, .int (iI lim)), (2, .int (iI (i : Int)))] → W p l e R s m args below meth c H locs 0 0 Q (F0 m 2 ls []) := by
    intro k9
    induction k9 using Nat.strongRecOn with
    | ind k9 ih_lp =>
      intro i G9 H locs ls hi hG9 hok hng hk9 hP hD hS hl
      refine lv_iload_n hx hb dX0_leastCost_2 rfl (lv_at hl 2 rfl) ?_
      refine lv_aload_n hx hb dX0_leastCost_3 rfl (lv_at hl 0 rfl) ?_
      refine va_get (D := (dC, dI)) (ci := 0) (v := .int (iI (n : Int))) (C := RX0) (T := TX0) (N := 7) hx hb hts in_X0 hown hK hP 0 rfl rfl 5 (by decide) fl_28 (fun _ h9 => h9) rfl dX0_leastCost_4 ?_
      refine z_icmp_ge (tgt := 34) hx hb dX0_leastCost_7 (by decide) (by omega) (fun h7 => ?_) (fun h7 => ?_)
      · refine lv_aload_n hx hb dX0_leastCost_34 rfl (lv_at hl 0 rfl) ?_
        refine lv_aload_n hx hb dX0_leastCost_35 rfl (lv_at hl 0 rfl) ?_
        refine va_get (D := (dC, dI)) (ci := 0) (v := .int (iI (n : Int))) (C := RX0) (T := TX0) (N := 7) hx hb hts in_X0 hown hK hP 0 rfl rfl 5 (by decide) fl_28 (fun _ h9 => h9) rfl dX0_leastCost_36 ?_
        refine lv_iconst (v := iI (1 : Int)) hx hb dX0_leastCost_39 (by decide) ?_
        refine z_isub hx hb dX0_leastCost_40 ?_
        refine z_top (b := ((n - 1 : Nat) : Int)) (by omega) ?_
        refine lv_aload_n hx hb dX0_leastCost_41 rfl (lv_at hl 0 rfl) ?_
        refine va_get (D := (dC, dI)) (ci := 0) (v := .int (iI (n : Int))) (C := RX0) (T := TX0) (N := 7) hx hb hts in_X0 hown hK hP 0 rfl rfl 5 (by decide) fl_28 (fun _ h9 => h9) rfl dX0_leastCost_42 ?_
        refine lv_iconst (v := iI (1 : Int)) hx hb dX0_leastCost_45 (by decide) ?_
        refine z_isub hx hb dX0_leastCost_46 ?_
        refine z_top (b := ((n - 1 : Nat) : Int)) (by omega) ?_
        refine zr_i (va_runV (As := [.int (iI ((n - 1 : Nat) : Int)), .int (iI ((n - 1 : Nat) : Int))]) (rest := []) ⟨hx, hb, hml, hown, hts⟩ (c_costAt l dC dI cI h0 aq ar ac ap ps n w G9 ((n - 1 : Nat) : Int) ((n - 1 : Nat) : Int) hn hw (by omega) (by omega)) (cwV 2 hts (ga_V wd_334 wd_336 wd_7 wd_29 wd_337) rfl rfl rfl (by decide +kernel) ⟨(show 0 + 1 ≤ R.frames by omega), (show 8 + (4 + 11) + 0 ≤ R.locals by omega)⟩) (rd_preV (q0 := 0) (ci := 0) hP hK [0, 3] rfl rfl rfl) rfl rfl hl.1 rfl (lv_room (Nat.le_of_ble_eq_true rfl)) dX0_leastCost_47 ⟨by omega, by omega⟩) (fun zc hzc => ?_)
        subst hAe
        exact zw_reti (z := zc) (G9) hx hb hr hlocks hQ (⟨hG9, Or.inr ⟨by rw [hzc, gAt_in (n - 1) (n - 1) ⟨rfl, rfl⟩ (by omega)]; exact hok (n - 1) (n - 1) (by omega) (by omega) (by omega), fun h1 h2 => lc_no (hng h1) (by omega) h2, fun a b h1 h2 h3 => hok a b (by omega) h2 h3⟩⟩) hP hK hD hS dX0_leastCost_50
      · refine lv_aload_n hx hb dX0_leastCost_10 rfl (lv_at hl 0 rfl) ?_
        refine lv_iload_n hx hb dX0_leastCost_11 rfl (lv_at hl 2 rfl) ?_
        refine zw_i (wr := []) (va_runV (As := [.int (iI (i : Int))]) (rest := []) ⟨hx, hb, hml, hown, hts⟩ (c_fillLine l dC dI cI h0 aq ar ac ap ps n w i q r G9 _ hn hw hvq hvr (by omega) hG9 hok) (cwV 1 hts (ga_V wd_317 wd_319 wd_3 wd_29 wd_320) rfl rfl rfl (by decide +kernel) ⟨(show 2 + 1 ≤ R.frames by omega), (show 8 + (6 + 11) + 45 ≤ R.locals by omega)⟩) (wr_preV (q0 := 0) (ci := 0) hP hK hD [0, 1, 2, 3] (by decide) rfl rfl rfl rfl) rfl rfl hl.1 rfl (lv_room (Nat.le_of_ble_eq_true rfl)) dX0_leastCost_12 ⟨by omega, by omega⟩) hP hD hS hA [0, 1, 2, 3] [] rfl rfl (by decide) (by decide) (fun z12 u12 H locs hw12 hP hD hS => ?_)
        have hP := hP.sub (ws' := [(h0, .inr (0, [.ref aq, .ref ar, .ref ac, .ref ap, .int (iI ps), .int (iI (n : Int)), .int (iI (w : Int))])), (aq, .inl (cI, 16, .inl (iA q))), (ar, .inl (cI, 16, .inl (iA r))), (ac, .inl (cI, 256, .inl (iA u12)))]) [0, 1, 2, 3] rfl
        have hD := hD.sub (ws' := [(h0, .inr (0, [.ref aq, .ref ar, .ref ac, .ref ap, .int (iI ps), .int (iI (n : Int)), .int (iI (w : Int))])), (aq, .inl (cI, 16, .inl (iA q))), (ar, .inl (cI, 16, .inl (iA r))), (ac, .inl (cI, 256, .inl (iA u12)))]) [0, 1, 2, 3] (by decide) rfl
        have r12 : -2147483648 ≤ z12 ∧ z12 ≤ 2147483647 := by
          obtain ⟨b, b1, b2, b3⟩ := hw12.2.2.2
          have := cst_rg hvq hvr hn.2 (show i < n by omega) b1 b2
          omega
        refine lv_istore_n (lv' := [(3, .int (iI z12)), (0, .ref h0), (1, .int (iI lim)), (2, .int (iI (i : Int)))]) hx hb dX0_leastCost_15 rfl hl (by decide) rfl (fun ls hl => ?_)
        refine lv_iload_n hx hb dX0_leastCost_16 rfl (lv_at hl 2 rfl) ?_
        refine lv_iconst (v := iI (-1 : Int)) hx hb dX0_leastCost_17 (by decide) ?_
        refine z_icmp_eq (tgt := 28) hx hb dX0_leastCost_18 (by decide) (by omega) (fun h18 => ?_) (fun h18 => ?_)
        · refine z_iinc (k := 3) (b := ((i + 1 : Nat) : Int)) (lv' := [(2, .int (iI ((i + 1 : Nat) : Int))), (3, .int (iI z12)), (0, .ref h0), (1, .int (iI lim))]) hx hb dX0_leastCost_28 hl rfl (by omega) (by decide) rfl (fun ls hl => ?_)
          refine lv_goto (tgt := 2) hx hb dX0_leastCost_31 (by decide) ?_
          exact ih_lp _ (by omega) (i + 1) u12 H locs ls (by omega) (hw12.1) (hw12.2.1) (lc_ng hng hw12.2.2.2 (fun e9 => by omega)) rfl hP hD hS (lv_sub hl [2, 3, 0] rfl)
        · refine lv_iload_n hx hb dX0_leastCost_21 rfl (lv_at hl 0 rfl) ?_
          refine lv_iload_n hx hb dX0_leastCost_22 rfl (lv_at hl 2 rfl) ?_
          refine z_icmp_lt (tgt := 28) hx hb dX0_leastCost_23 (by decide) (by omega) (fun h23 => ?_) (fun h23 => ?_)
          · refine z_iinc (k := 3) (b := ((i + 1 : Nat) : Int)) (lv' := [(2, .int (iI ((i + 1 : Nat) : Int))), (3, .int (iI z12)), (0, .ref h0), (1, .int (iI lim))]) hx hb dX0_leastCost_28 hl rfl (by omega) (by decide) rfl (fun ls hl => ?_)
            refine lv_goto (tgt := 2) hx hb dX0_leastCost_31 (by decide) ?_
            exact ih_lp _ (by omega) (i + 1) u12 H locs ls (by omega) (hw12.1) (hw12.2.1) (lc_ng hng hw12.2.2.2 (fun e9 => by omega)) rfl hP hD hS (lv_sub hl [2, 3, 0] rfl)
          · refine lv_iconst (v := iI (-1 : Int)) hx hb dX0_leastCost_26 (by decide) ?_
            subst hAe
            exact zw_reti (z := (-1 : Int)) (u12) hx hb hr hlocks hQ (⟨hw12.1, Or.inl ⟨rfl, h18, i, by omega, fun b b1 b2 => Int.le_trans h23 (hw12.2.2.1 b b1 b2)⟩⟩) hP hK hD hS dX0_leastCost_27
  exact lp _ 0 G _ _ ls (by omega) (hG) (fun a b h1 => by omega) (fun _ a h1 => by omega) rfl hP hD hS (lv_sub hl [1, 2, 0] rfl)
end
section
theorem tr_path {w n : Nat} {q r : Nat → Int} {t : Nat} {i j : Int} {P9 : Nat → Int} (hij : pseq w n q r t = (i, j)) (hpt : ∀ u, u < t → P9 (30 - u) = 16 * (pseq w n q r u).1 + (pseq w n q r u).2) (ht : t < 31) : ∀ u, u < t + 1 → zU P9 (30 - t) (16 * i + j) (30 - u) = 16 * (pseq w n q r u).1 + (pseq w n q r u).2 := by
  intro u hu
  by_cases g : u = t
  · subst g
    rw [zU_s, hij]
  · rw [zU_n (by omega)]
    exact hpt u (by omega)
set_option maxRecDepth 100000 in
set_option maxHeartbeats 4000000 in
theorem c_tracePath (l : Launch) (dC : Nat → ClassId) (dI : Nat → Nat → Nat) (cI : ClassId) (h0 aq ar ac ap : Nat) (ps : Int) (n w : Nat) (q r G P : Nat → Int) (sz : Nat) (hn : 2 ≤ n ∧ n ≤ 16) (hw : w ≤ 15) (hvq : vals n q) (hvr : vals n r) (hG : rgA G) : Met l yX0_tracePath wsX0_tracePath ({ frames := 4, cells := 0, slots := 0, locals := 93 }) (wrP dC dI [(cI, .int)] [(h0, .inr (0, [.ref aq, .ref ar, .ref ac, .ref ap, .int (iI ps), .int (iI (n : Int)), .int (iI (w : Int))])), (aq, .inl (cI, 16, .inl (iA q))), (ar, .inl (cI, 16, .inl (iA r))), (ac, .inl (cI, 256, .inl (iA G))), (ap, .inl (cI, 31, .inl (iA P)))] sz [.ref h0]) (wrQi dC dI [(cI, .int)] [(h0, .inr (0, [.ref aq, .ref ar, .ref ac, .ref ap, .int (iI ps), .int (iI (n : Int)), .int (iI (w : Int))])), (aq, .inl (cI, 16, .inl (iA q))), (ar, .inl (cI, 16, .inl (iA r))), (ac, .inl (cI, 256, .inl (iA G))), (ap, .inl (cI, 31, .inl (iA P)))] sz (S := (Nat × (Nat → Int) × (Nat → Int))) (fun z u => rgA u.2.1 ∧ z = (u.1 : Int) ∧ isMany w n q r u.1 ∧ u.1 ≤ 31 ∧ ∀ v, v < u.1 → u.2.2 (30 - v) = 16 * (pseq w n q r v).1 + (pseq w n q r v).2) (fun u => [(h0, .inr (0, [.ref aq, .ref ar, .ref ac, .ref ap, .int (iI (31 - (u.1 : Int))), .int (iI (n : Int)), .int (iI (w : Int))])), (aq, .inl (cI, 16, .inl (iA q))), (ar, .inl (cI, 16, .inl (iA r))), (ac, .inl (cI, 256, .inl (iA u.2.1))), (ap, .inl (cI, 31, .inl (iA u.2.2)))])) 0 0 (va_A [(h0, .inr (0, [.ref aq, .ref ar, .ref ac, .ref ap, .int (iI ps), .int (iI (n : Int)), .int (iI (w : Int))])), (aq, .inl (cI, 16, .inl (iA q))), (ar, .inl (cI, 16, .inl (iA r))), (ac, .inl (cI, 256, .inl (iA G))), (ap, .inl (cI, 31, .inl (iA P)))] sz) := by
  refine Met.ofW (cc := cX0_tracePath) (maxL := 9) (ret := (some .int)) (by decide) rfl ?_
  intro p e s m args below meth c s₁ B hml hv
  obtain ⟨rfl, hsz, hP, hK, hD0⟩ := hv
  have hx := B.exec
  have hb := B.bytes
  have hr := B.returns
  have hts : ∀ w ∈ wsX0_tracePath, w.before _ s = true := atoms_spec (ws := wsX0_tracePath) B.pre
  have hown : s.vm.findClass RX0 = some m.cls := findClass_of_methodNamed B.named
  have hlocks := B.notSynchronized
  subst hsz
  have hD := hD0.self (sz := s.heap.size)
  have hA : ∀ q9 : Nat, s.heap.size ≤ q9 → va_A [(h0, .inr (0, [.ref aq, .ref ar, .ref ac, .ref ap, .int (iI ps), .int (iI (n : Int)), .int (iI (w : Int))])), (aq, .inl (cI, 16, .inl (iA q))), (ar, .inl (cI, 16, .inl (iA r))), (ac, .inl (cI, 256, .inl (iA G))), (ap, .inl (cI, 31, .inl (iA P)))] s.heap.size q9 := fun q9 h => Or.inr h
  have hS : va_S (va_A [(h0, .inr (0, [.ref aq, .ref ar, .ref ac, .ref ap, .int (iI ps), .int (iI (n : Int)), .int (iI (w : Int))])), (aq, .inl (cI, 16, .inl (iA q))), (ar, .inl (cI, 16, .inl (iA r))), (ac, .inl (cI, 256, .inl (iA G))), (ap, .inl (cI, 31, .inl (iA P)))] s.heap.size) s.heap s.heap [] := va_S.rf
  generalize hAe : va_A [(h0, .inr (0, [.ref aq, .ref ar, .ref ac, .ref ap, .int (iI ps), .int (iI (n : Int)), .int (iI (w : Int))])), (aq, .inl (cI, 16, .inl (iA q))), (ar, .inl (cI, 16, .inl (iA r))), (ac, .inl (cI, 256, .inl (iA G))), (ap, .inl (cI, 31, .inl (iA P)))] s.heap.size = A at hD hA hS
  have hP : va_P (dC, dI) vwCl [(h0, .inr (0, [.ref aq, .ref ar, .ref ac, .ref ap, .int (iI ps), .int (iI (n : Int)), .int (iI (w : Int))])), (aq, .inl (cI, 16, .inl (iA q))), (ar, .inl (cI, 16, .inl (iA r))), (ac, .inl (cI, 256, .inl (iA G))), (ap, .inl (cI, 31, .inl (iA P)))] s.heap := hP
  have hl := lv_entry ([.ref h0]) (n := 9) (Nat.le_of_ble_eq_true rfl)
  rw [lg_entry_eq]
  generalize (lg_sl ([.ref h0]) ++ List.replicate (9 - (lg_sl ([.ref h0])).length) Slot.unset).toArray = ls at hl ⊢
  have hl : lv_has ls 9 [(0, .ref h0)] := hl
  generalize hargs : ([.ref h0] : List Value).toArray = args at hts ⊢
  refine z_intro (fun R Q hR hQ => ?_)
  have hRf : R.frames = 4 := by rw [hR]; rfl
  have hRl : R.locals = 93 := by rw [hR]; rfl
  have hRc : R.cells = 0 := by rw [hR]; rfl
  have hRs : R.slots = 0 := by rw [hR]; rfl
  have in_X0 : ∀ w ∈ u_ws RX0 TX0 7, w ∈ wsX0_tracePath := fun w h => List.mem_cons_of_mem _ (inW_X0 w h)
  have fl_21 := wa_hts hts wd_58
  have fl_24 := wa_hts hts wd_59
  have fl_28 := wa_hts hts wd_60
  clear hR hargs B
  refine lv_aload_n hx hb dX0_tracePath_0 rfl (lv_at hl 0 rfl) ?_
  refine lv_iconst (v := iI (-1 : Int)) hx hb dX0_tracePath_1 (by decide) ?_
  refine zw_i (wr := [(ap, .inl (cI, 31, .inl (iA P)))]) (va_runV (As := [.int (iI (-1 : Int))]) (rest := []) ⟨hx, hb, hml, hown, hts⟩ (c_leastCost l dC dI cI h0 aq ar ac ap ps n w (-1) q r G _ hn hw hvq hvr (by omega) hG) (cwV 1 hts (ga_V wd_377 wd_314 wd_315 wd_29 wd_316) rfl rfl rfl (by decide +kernel) ⟨(show 3 + 1 ≤ R.frames by omega), (show 8 + (4 + 11) + 70 ≤ R.locals by omega)⟩) (wr_preV (q0 := 0) (ci := 0) hP hK hD [0, 1, 2, 3] (by decide) rfl rfl rfl rfl) rfl rfl hl.1 rfl (lv_room (Nat.le_of_ble_eq_true rfl)) dX0_tracePath_2 ⟨by omega, by omega⟩) hP hD hS hA [0, 1, 2, 3] [4] rfl rfl (by decide) (by decide) (fun z2 u2 H locs hw2 hP hD hS => ?_)
  have hP := hP.sub (ws' := [(h0, .inr (0, [.ref aq, .ref ar, .ref ac, .ref ap, .int (iI ps), .int (iI (n : Int)), .int (iI (w : Int))])), (aq, .inl (cI, 16, .inl (iA q))), (ar, .inl (cI, 16, .inl (iA r))), (ac, .inl (cI, 256, .inl (iA u2))), (ap, .inl (cI, 31, .inl (iA P)))]) [1, 2, 3, 4, 0] rfl
  have hD := hD.sub (ws' := [(h0, .inr (0, [.ref aq, .ref ar, .ref ac, .ref ap, .int (iI ps), .int (iI (n : Int)), .int (iI (w : Int))])), (aq, .inl (cI, 16, .inl (iA q))), (ar, .inl (cI, 16, .inl (iA r))), (ac, .inl (cI, 256, .inl (iA u2))), (ap, .inl (cI, 31, .inl (iA P)))]) [1, 2, 3, 4, 0] (by decide) rfl
  have hfull : ∀ a b, a < n → b < n → inb w a b → u2 (16 * a + b) = cst w q r a b := by
    rcases hw2.2 with h9 | h9
    · exact absurd rfl h9.2.1
    · exact h9.2.2
  refine lv_pop hx hb dX0_tracePath_5 rfl ?_
  refine lv_aload_n hx hb dX0_tracePath_6 rfl (lv_at hl 0 rfl) ?_
  refine va_get (D := (dC, dI)) (ci := 0) (v := .int (iI (n : Int))) (C := RX0) (T := TX0) (N := 7) hx hb hts in_X0 hown hK hP 0 rfl rfl 5 (by decide) fl_28 (fun _ h9 => h9) rfl dX0_tracePath_7 ?_
  refine lv_iconst (v := iI (1 : Int)) hx hb dX0_tracePath_10 (by decide) ?_
  refine z_isub hx hb dX0_tracePath_11 ?_
  refine lv_istore_n (lv' := [(1, .int (iI ((n : Int) - (1 : Int)))), (0, .ref h0)]) hx hb dX0_tracePath_12 rfl hl (by decide) rfl (fun ls hl => ?_)
  refine lv_aload_n hx hb dX0_tracePath_13 rfl (lv_at hl 1 rfl) ?_
  refine va_get (D := (dC, dI)) (ci := 0) (v := .int (iI (n : Int))) (C := RX0) (T := TX0) (N := 7) hx hb hts in_X0 hown hK hP 0 rfl rfl 5 (by decide) fl_28 (fun _ h9 => h9) rfl dX0_tracePath_14 ?_
  refine lv_iconst (v := iI (1 : Int)) hx hb dX0_tracePath_17 (by decide) ?_
  refine z_isub hx hb dX0_tracePath_18 ?_
  refine lv_istore_n (lv' := [(2, .int (iI ((n : Int) - (1 : Int)))), (1, .int (iI ((n : Int) - (1 : Int)))), (0, .ref h0)]) hx hb dX0_tracePath_19 rfl hl (by decide) rfl (fun ls hl => ?_)
  refine lv_aload_n hx hb dX0_tracePath_20 rfl (lv_at hl 2 rfl) ?_
  refine lv_bipush (v := iI (31 : Int)) hx hb dX0_tracePath_21 (by decide) ?_
  refine va_put (D := (dC, dI)) (ci := 0) (v := .int (iI (31 : Int))) (ty := .int) (C := RX0) (T := TX0) (N := 7) hx hb hts in_X0 tyX0 tyX0_ok nmX0 hown hK hP hD hS 0 rfl rfl 4 (by decide) fl_24 (fun _ h9 => h9) rfl (by decide +kernel) rfl rfl (Nat.le_of_ble_eq_true rfl) dX0_tracePath_23 (fun H locs hP hD hS => ?_)
  have hP : va_P (dC, dI) vwCl [(h0, .inr (0, [.ref aq, .ref ar, .ref ac, .ref ap, .int (iI (31 : Int)), .int (iI (n : Int)), .int (iI (w : Int))])), (aq, .inl (cI, 16, .inl (iA q))), (ar, .inl (cI, 16, .inl (iA r))), (ac, .inl (cI, 256, .inl (iA u2))), (ap, .inl (cI, 31, .inl (iA P)))] H := hP
  have hD : va_D A [(h0, .inr (0, [.ref aq, .ref ar, .ref ac, .ref ap, .int (iI (31 : Int)), .int (iI (n : Int)), .int (iI (w : Int))])), (aq, .inl (cI, 16, .inl (iA q))), (ar, .inl (cI, 16, .inl (iA r))), (ac, .inl (cI, 256, .inl (iA u2))), (ap, .inl (cI, 31, .inl (iA P)))] := hD
  have lp : ∀ (k9 : Nat) (t : Nat) (i9 j9 : Int) (P9 : Nat → Int) (H : Heap) (locs : List Loc) (ls : Array Slot), (t ≤ 31) → (pseq w n q r t = (i9, j9)) → (trS w n q r t i9 j9) → (∀ u, u < t → P9 (30 - u) = 16 * (pseq w n q r u).1 + (pseq w n q r u).2) → 31 - t = k9 → va_P (dC, dI) vwCl [(h0, .inr (0, [.ref aq, .ref ar, .ref ac, .ref ap, .int (iI (31 - (t : Int))), .int (iI (n : Int)), .int (iI (w : Int))])), (aq, .inl (cI, 16, .inl (iA q))), (ar, .inl (cI, 16, .inl (iA r))), (ac, .inl (cI, 256, .inl (iA u2))), (ap, .inl (cI, 31, .inl (iA P9)))] H → va_D A [(h0, .inr (0, [.ref aq, .ref ar, .ref ac, .ref ap, .int (iI (31 - (t : Int))), .int (iI (n : Int)), .int (iI (w : Int))])), (aq, .inl (cI, 16, .inl (iA q))), (ar, .inl (cI, 16, .inl (iA r))), (ac, .inl (cI, 256, .inl (iA u2))), (ap, .inl (cI, 31, .inl (iA P9)))] → va_S A s.heap H locs → lv_has ls 9 [(0, .ref h0), (1, .int (iI i9)), (2, .int (iI j9))] → W p l e R s m args below meth c H locs 0 0 Q (F0 m 26 ls []) := by
    intro k9
    induction k9 using Nat.strongRecOn with
    | ind k9 ih_lp =>
      intro t i9 j9 P9 H locs ls ht hij hst hpt hk9 hP hD hS hl
      have rng : -1 ≤ i9 ∧ i9 ≤ 15 ∧ -1 ≤ j9 ∧ j9 ≤ 15 := by
        rcases hst with h9 | h9
        · obtain ⟨h91, h92, h93, h94, h95, h96, h97, h98⟩ := h9
          omega
        · obtain ⟨h91, h92, h93⟩ := h9
          omega
      refine lv_aload_n hx hb dX0_tracePath_26 rfl (lv_at hl 0 rfl) ?_
      refine va_get (D := (dC, dI)) (ci := 0) (v := .int (iI (31 - (t : Int)))) (C := RX0) (T := TX0) (N := 7) hx hb hts in_X0 hown hK hP 0 rfl rfl 4 (by decide) fl_24 (fun _ h9 => h9) rfl dX0_tracePath_27 ?_
      refine z_if_le (tgt := 181) hx hb dX0_tracePath_30 (by decide) (by omega) (fun h30 => ?_) (fun h30 => ?_)
      · have hneg : i9 < 0 ∨ j9 < 0 := by
          rcases hst with h9 | h9
          · obtain ⟨h91, h92, h93, h94, h95, h96, h97, h98⟩ := h9
            omega
          · exact Or.inl (by omega)
        refine lv_bipush (v := iI (31 : Int)) hx hb dX0_tracePath_181 (by decide) ?_
        refine lv_aload_n hx hb dX0_tracePath_183 rfl (lv_at hl 0 rfl) ?_
        refine va_get (D := (dC, dI)) (ci := 0) (v := .int (iI (31 - (t : Int)))) (C := RX0) (T := TX0) (N := 7) hx hb hts in_X0 hown hK hP 0 rfl rfl 4 (by decide) fl_24 (fun _ h9 => h9) rfl dX0_tracePath_184 ?_
        refine z_isub hx hb dX0_tracePath_187 ?_
        subst hAe
        refine z_top (b := (t : Int)) (by omega) ?_
        exact zw_reti (z := (t : Int)) (t, u2, P9) hx hb hr hlocks hQ (⟨hw2.1, rfl, tr_many hst (by omega), ht, hpt⟩) hP hK hD hS dX0_tracePath_188
      · refine lv_iload_n hx hb dX0_tracePath_33 rfl (lv_at hl 1 rfl) ?_
        refine z_if_lt (tgt := 181) hx hb dX0_tracePath_34 (by decide) (by omega) (fun h34 => ?_) (fun h34 => ?_)
        · have hneg : i9 < 0 ∨ j9 < 0 := by
            rcases hst with h9 | h9
            · obtain ⟨h91, h92, h93, h94, h95, h96, h97, h98⟩ := h9
              omega
            · exact Or.inl (by omega)
          refine lv_bipush (v := iI (31 : Int)) hx hb dX0_tracePath_181 (by decide) ?_
          refine lv_aload_n hx hb dX0_tracePath_183 rfl (lv_at hl 0 rfl) ?_
          refine va_get (D := (dC, dI)) (ci := 0) (v := .int (iI (31 - (t : Int)))) (C := RX0) (T := TX0) (N := 7) hx hb hts in_X0 hown hK hP 0 rfl rfl 4 (by decide) fl_24 (fun _ h9 => h9) rfl dX0_tracePath_184 ?_
          refine z_isub hx hb dX0_tracePath_187 ?_
          subst hAe
          refine z_top (b := (t : Int)) (by omega) ?_
          exact zw_reti (z := (t : Int)) (t, u2, P9) hx hb hr hlocks hQ (⟨hw2.1, rfl, tr_many hst (by omega), ht, hpt⟩) hP hK hD hS dX0_tracePath_188
        · refine lv_iload_n hx hb dX0_tracePath_37 rfl (lv_at hl 2 rfl) ?_
          refine z_if_lt (tgt := 181) hx hb dX0_tracePath_38 (by decide) (by omega) (fun h38 => ?_) (fun h38 => ?_)
          · have hneg : i9 < 0 ∨ j9 < 0 := by
              rcases hst with h9 | h9
              · obtain ⟨h91, h92, h93, h94, h95, h96, h97, h98⟩ := h9
                omega
              · exact Or.inl (by omega)
            refine lv_bipush (v := iI (31 : Int)) hx hb dX0_tracePath_181 (by decide) ?_
            refine lv_aload_n hx hb dX0_tracePath_183 rfl (lv_at hl 0 rfl) ?_
            refine va_get (D := (dC, dI)) (ci := 0) (v := .int (iI (31 - (t : Int)))) (C := RX0) (T := TX0) (N := 7) hx hb hts in_X0 hown hK hP 0 rfl rfl 4 (by decide) fl_24 (fun _ h9 => h9) rfl dX0_tracePath_184 ?_
            refine z_isub hx hb dX0_tracePath_187 ?_
            subst hAe
            refine z_top (b := (t : Int)) (by omega) ?_
            exact zw_reti (z := (t : Int)) (t, u2, P9) hx hb hr hlocks hQ (⟨hw2.1, rfl, tr_many hst (by omega), ht, hpt⟩) hP hK hD hS dX0_tracePath_188
          · have hA9 : trA w n q r t i9 j9 := by
              rcases hst with h9 | h9
              · exact h9
              · exact absurd h9.1 (by omega)
            have hA2 : i9 + j9 + (t : Int) ≤ 2 * ((n : Int) - 1) ∧ i9 < (n : Int) ∧ j9 < (n : Int) := ⟨hA9.2.2.2.2.1, hA9.2.2.2.2.2.1, hA9.2.2.2.2.2.2.1⟩
            refine lv_aload_n hx hb dX0_tracePath_41 rfl (lv_at hl 0 rfl) ?_
            refine lv_dup hx hb dX0_tracePath_42 rfl ?_
            refine va_get (D := (dC, dI)) (ci := 0) (v := .int (iI (31 - (t : Int)))) (C := RX0) (T := TX0) (N := 7) hx hb hts in_X0 hown hK hP 0 rfl rfl 4 (by decide) fl_24 (fun _ h9 => h9) rfl dX0_tracePath_43 ?_
            refine lv_iconst (v := iI (1 : Int)) hx hb dX0_tracePath_46 (by decide) ?_
            refine z_isub hx hb dX0_tracePath_47 ?_
            refine z_top (b := 31 - ((t + 1 : Nat) : Int)) (by omega) ?_
            refine va_put (D := (dC, dI)) (ci := 0) (v := .int (iI (31 - ((t + 1 : Nat) : Int)))) (ty := .int) (C := RX0) (T := TX0) (N := 7) hx hb hts in_X0 tyX0 tyX0_ok nmX0 hown hK hP hD hS 0 rfl rfl 4 (by decide) fl_24 (fun _ h9 => h9) rfl (by decide +kernel) rfl rfl (Nat.le_of_ble_eq_true rfl) dX0_tracePath_48 (fun H locs hP hD hS => ?_)
            have hP : va_P (dC, dI) vwCl [(h0, .inr (0, [.ref aq, .ref ar, .ref ac, .ref ap, .int (iI (31 - ((t + 1 : Nat) : Int))), .int (iI (n : Int)), .int (iI (w : Int))])), (aq, .inl (cI, 16, .inl (iA q))), (ar, .inl (cI, 16, .inl (iA r))), (ac, .inl (cI, 256, .inl (iA u2))), (ap, .inl (cI, 31, .inl (iA P9)))] H := hP
            have hD : va_D A [(h0, .inr (0, [.ref aq, .ref ar, .ref ac, .ref ap, .int (iI (31 - ((t + 1 : Nat) : Int))), .int (iI (n : Int)), .int (iI (w : Int))])), (aq, .inl (cI, 16, .inl (iA q))), (ar, .inl (cI, 16, .inl (iA r))), (ac, .inl (cI, 256, .inl (iA u2))), (ap, .inl (cI, 31, .inl (iA P9)))] := hD
            refine lv_aload_n hx hb dX0_tracePath_51 rfl (lv_at hl 0 rfl) ?_
            refine va_get (D := (dC, dI)) (ci := 0) (v := .ref ap) (C := RX0) (T := TX0) (N := 7) hx hb hts in_X0 hown hK hP 0 rfl rfl 3 (by decide) fl_21 (fun _ h9 => h9) rfl dX0_tracePath_52 ?_
            refine lv_aload_n hx hb dX0_tracePath_55 rfl (lv_at hl 0 rfl) ?_
            refine va_get (D := (dC, dI)) (ci := 0) (v := .int (iI (31 - ((t + 1 : Nat) : Int)))) (C := RX0) (T := TX0) (N := 7) hx hb hts in_X0 hown hK hP 0 rfl rfl 4 (by decide) fl_24 (fun _ h9 => h9) rfl dX0_tracePath_56 ?_
            refine lv_bipush (v := iI (16 : Int)) hx hb dX0_tracePath_59 (by decide) ?_
            refine lv_iload_n hx hb dX0_tracePath_61 rfl (lv_at hl 1 rfl) ?_
            refine z_imul hx hb dX0_tracePath_62 ?_
            refine lv_iload_n hx hb dX0_tracePath_63 rfl (lv_at hl 2 rfl) ?_
            refine z_iadd hx hb dX0_tracePath_64 ?_
            refine z_iast hx hb hK hP hD hS 4 0 rfl rfl (30 - t) (by omega) dX0_tracePath_65 (fun H locs hP hD hS => ?_)
            have hP : va_P (dC, dI) vwCl [(h0, .inr (0, [.ref aq, .ref ar, .ref ac, .ref ap, .int (iI (31 - ((t + 1 : Nat) : Int))), .int (iI (n : Int)), .int (iI (w : Int))])), (aq, .inl (cI, 16, .inl (iA q))), (ar, .inl (cI, 16, .inl (iA r))), (ac, .inl (cI, 256, .inl (iA u2))), (ap, .inl (cI, 31, .inl (iA (zU P9 (30 - t) (((16 : Int) * i9) + j9)))))] H := hP
            have hD : va_D A [(h0, .inr (0, [.ref aq, .ref ar, .ref ac, .ref ap, .int (iI (31 - ((t + 1 : Nat) : Int))), .int (iI (n : Int)), .int (iI (w : Int))])), (aq, .inl (cI, 16, .inl (iA q))), (ar, .inl (cI, 16, .inl (iA r))), (ac, .inl (cI, 256, .inl (iA u2))), (ap, .inl (cI, 31, .inl (iA (zU P9 (30 - t) (((16 : Int) * i9) + j9)))))] := hD
            refine lv_aload_n hx hb dX0_tracePath_66 rfl (lv_at hl 0 rfl) ?_
            refine lv_iload_n hx hb dX0_tracePath_67 rfl (lv_at hl 1 rfl) ?_
            refine lv_iconst (v := iI (1 : Int)) hx hb dX0_tracePath_68 (by decide) ?_
            refine z_isub hx hb dX0_tracePath_69 ?_
            refine lv_iload_n hx hb dX0_tracePath_70 rfl (lv_at hl 2 rfl) ?_
            refine lv_iconst (v := iI (1 : Int)) hx hb dX0_tracePath_71 (by decide) ?_
            refine z_isub hx hb dX0_tracePath_72 ?_
            refine zr_i (va_runV (As := [.int (iI (i9 - (1 : Int))), .int (iI (j9 - (1 : Int)))]) (rest := []) ⟨hx, hb, hml, hown, hts⟩ (c_costAt l dC dI cI h0 aq ar ac ap (31 - ((t + 1 : Nat) : Int)) n w u2 (i9 - (1 : Int)) (j9 - (1 : Int)) hn hw (by omega) (by omega)) (cwV 2 hts (ga_V wd_334 wd_336 wd_7 wd_29 wd_337) rfl rfl rfl (by decide +kernel) ⟨(show 0 + 1 ≤ R.frames by omega), (show 8 + (4 + 11) + 0 ≤ R.locals by omega)⟩) (rd_preV (q0 := 0) (ci := 0) hP hK [0, 3] rfl rfl rfl) rfl rfl hl.1 rfl (lv_room (Nat.le_of_ble_eq_true rfl)) dX0_tracePath_73 ⟨by omega, by omega⟩) (fun z73 hz73 => ?_)
            refine lv_istore_n (lv' := [(3, .int (iI z73)), (0, .ref h0), (1, .int (iI i9)), (2, .int (iI j9))]) hx hb dX0_tracePath_76 rfl hl (by decide) rfl (fun ls hl => ?_)
            refine lv_aload_n hx hb dX0_tracePath_77 rfl (lv_at hl 1 rfl) ?_
            refine lv_iload_n hx hb dX0_tracePath_78 rfl (lv_at hl 2 rfl) ?_
            refine lv_iconst (v := iI (1 : Int)) hx hb dX0_tracePath_79 (by decide) ?_
            refine z_isub hx hb dX0_tracePath_80 ?_
            refine lv_iload_n hx hb dX0_tracePath_81 rfl (lv_at hl 3 rfl) ?_
            refine zr_i (va_runV (As := [.int (iI (i9 - (1 : Int))), .int (iI j9)]) (rest := []) ⟨hx, hb, hml, hown, hts⟩ (c_costAt l dC dI cI h0 aq ar ac ap (31 - ((t + 1 : Nat) : Int)) n w u2 (i9 - (1 : Int)) j9 hn hw (by omega) (by omega)) (cwV 2 hts (ga_V wd_334 wd_336 wd_7 wd_29 wd_337) rfl rfl rfl (by decide +kernel) ⟨(show 0 + 1 ≤ R.frames by omega), (show 8 + (4 + 11) + 0 ≤ R.locals by omega)⟩) (rd_preV (q0 := 0) (ci := 0) hP hK [0, 3] rfl rfl rfl) rfl rfl hl.1 rfl (lv_room (Nat.le_of_ble_eq_true rfl)) dX0_tracePath_82 ⟨by omega, by omega⟩) (fun z82 hz82 => ?_)
            refine lv_istore (lv' := [(4, .int (iI z82)), (3, .int (iI z73)), (0, .ref h0), (1, .int (iI i9)), (2, .int (iI j9))]) hx hb dX0_tracePath_85 hl (by decide) rfl (fun ls hl => ?_)
            refine lv_aload_n hx hb dX0_tracePath_87 rfl (lv_at hl 2 rfl) ?_
            refine lv_iload_n hx hb dX0_tracePath_88 rfl (lv_at hl 3 rfl) ?_
            refine lv_iload_n hx hb dX0_tracePath_89 rfl (lv_at hl 4 rfl) ?_
            refine lv_iconst (v := iI (1 : Int)) hx hb dX0_tracePath_90 (by decide) ?_
            refine z_isub hx hb dX0_tracePath_91 ?_
            refine zr_i (va_runV (As := [.int (iI i9), .int (iI (j9 - (1 : Int)))]) (rest := []) ⟨hx, hb, hml, hown, hts⟩ (c_costAt l dC dI cI h0 aq ar ac ap (31 - ((t + 1 : Nat) : Int)) n w u2 i9 (j9 - (1 : Int)) hn hw (by omega) (by omega)) (cwV 2 hts (ga_V wd_334 wd_336 wd_7 wd_29 wd_337) rfl rfl rfl (by decide +kernel) ⟨(show 0 + 1 ≤ R.frames by omega), (show 8 + (4 + 11) + 0 ≤ R.locals by omega)⟩) (rd_preV (q0 := 0) (ci := 0) hP hK [0, 3] rfl rfl rfl) rfl rfl hl.1 rfl (lv_room (Nat.le_of_ble_eq_true rfl)) dX0_tracePath_92 ⟨by omega, by omega⟩) (fun z92 hz92 => ?_)
            refine lv_istore (lv' := [(5, .int (iI z92)), (4, .int (iI z82)), (3, .int (iI z73)), (0, .ref h0), (1, .int (iI i9)), (2, .int (iI j9))]) hx hb dX0_tracePath_95 hl (by decide) rfl (fun ls hl => ?_)
            have e73 : z73 = bdI w q r (i9 - 1) (j9 - 1) := hz73.trans (gAt_bd hfull (by omega) (by omega))
            have e82 : z82 = bdI w q r (i9 - 1) j9 := hz82.trans (gAt_bd hfull (by omega) (by omega))
            have e92 : z92 = bdI w q r i9 (j9 - 1) := hz92.trans (gAt_bd hfull (by omega) (by omega))
            have r73 := bdI_rg (w := w) hvq hvr hn.2 (i := i9 - 1) (j := j9 - 1) (by omega) (by omega)
            have r82 := bdI_rg (w := w) hvq hvr hn.2 (i := i9 - 1) (j := j9) (by omega) (by omega)
            have r92 := bdI_rg (w := w) hvq hvr hn.2 (i := i9) (j := j9 - 1) (by omega) (by omega)
            rw [← e73] at r73
            rw [← e82] at r82
            rw [← e92] at r92
            refine lv_iload_n hx hb dX0_tracePath_97 rfl (lv_at hl 2 rfl) ?_
            refine lv_iload hx hb dX0_tracePath_98 (lv_at hl 1 rfl) ?_
            refine z_icmp_gt (tgt := 113) hx hb dX0_tracePath_100 (by decide) (by omega) (fun h100 => ?_) (fun h100 => ?_)
            · refine lv_iconst (v := iI (0 : Int)) hx hb dX0_tracePath_113 (by decide) ?_
              refine lv_istore (lv' := [(6, .int (iI (0 : Int))), (5, .int (iI z92)), (4, .int (iI z82)), (3, .int (iI z73)), (0, .ref h0), (1, .int (iI i9)), (2, .int (iI j9))]) hx hb dX0_tracePath_114 hl (by decide) rfl (fun ls hl => ?_)
              refine lv_iload hx hb dX0_tracePath_116 (lv_at hl 0 rfl) ?_
              refine z_if_ne (tgt := 128) hx hb dX0_tracePath_118 (by decide) (by decide) (fun h9 => absurd h9 (by decide)) (fun _ => ?_)
              refine lv_iload hx hb dX0_tracePath_121 (lv_at hl 2 rfl) ?_
              refine lv_iload hx hb dX0_tracePath_123 (lv_at hl 1 rfl) ?_
              refine z_icmp_gt (tgt := 132) hx hb dX0_tracePath_125 (by decide) (by omega) (fun h125 => ?_) (fun h125 => ?_)
              · refine lv_iconst (v := iI (0 : Int)) hx hb dX0_tracePath_132 (by decide) ?_
                refine lv_istore (lv' := [(7, .int (iI (0 : Int))), (6, .int (iI (0 : Int))), (5, .int (iI z92)), (4, .int (iI z82)), (3, .int (iI z73)), (0, .ref h0), (1, .int (iI i9)), (2, .int (iI j9))]) hx hb dX0_tracePath_133 hl (by decide) rfl (fun ls hl => ?_)
                refine lv_iload hx hb dX0_tracePath_135 (lv_at hl 1 rfl) ?_
                refine z_if_ne (tgt := 145) hx hb dX0_tracePath_137 (by decide) (by decide) (fun h9 => absurd h9 (by decide)) (fun _ => ?_)
                refine lv_iload hx hb dX0_tracePath_140 (lv_at hl 0 rfl) ?_
                refine z_if_ne (tgt := 149) hx hb dX0_tracePath_142 (by decide) (by decide) (fun h9 => absurd h9 (by decide)) (fun _ => ?_)
                refine lv_iconst (v := iI (1 : Int)) hx hb dX0_tracePath_145 (by decide) ?_
                refine lv_goto (tgt := 150) hx hb dX0_tracePath_146 (by decide) ?_
                refine lv_istore (lv' := [(8, .int (iI (1 : Int))), (7, .int (iI (0 : Int))), (6, .int (iI (0 : Int))), (5, .int (iI z92)), (4, .int (iI z82)), (3, .int (iI z73)), (0, .ref h0), (1, .int (iI i9)), (2, .int (iI j9))]) hx hb dX0_tracePath_150 hl (by decide) rfl (fun ls hl => ?_)
                refine lv_iload_n hx hb dX0_tracePath_152 rfl (lv_at hl 7 rfl) ?_
                refine lv_iload hx hb dX0_tracePath_153 (lv_at hl 1 rfl) ?_
                refine z_if_eq (tgt := 162) hx hb dX0_tracePath_155 (by decide) (by decide) (fun _ => ?_) (fun h9 => absurd h9 (by decide))
                refine lv_iconst (v := iI (0 : Int)) hx hb dX0_tracePath_162 (by decide) ?_
                refine z_isub hx hb dX0_tracePath_163 ?_
                refine z_top (b := i9) (by omega) ?_
                refine lv_istore_n (lv' := [(1, .int (iI i9)), (8, .int (iI (1 : Int))), (7, .int (iI (0 : Int))), (6, .int (iI (0 : Int))), (5, .int (iI z92)), (4, .int (iI z82)), (3, .int (iI z73)), (0, .ref h0), (2, .int (iI j9))]) hx hb dX0_tracePath_164 rfl hl (by decide) rfl (fun ls hl => ?_)
                refine lv_iload_n hx hb dX0_tracePath_165 rfl (lv_at hl 8 rfl) ?_
                refine lv_iload hx hb dX0_tracePath_166 (lv_at hl 1 rfl) ?_
                refine z_if_eq (tgt := 175) hx hb dX0_tracePath_168 (by decide) (by decide) (fun h9 => absurd h9 (by decide)) (fun _ => ?_)
                refine lv_iconst (v := iI (1 : Int)) hx hb dX0_tracePath_171 (by decide) ?_
                refine lv_goto (tgt := 176) hx hb dX0_tracePath_172 (by decide) ?_
                refine z_isub hx hb dX0_tracePath_176 ?_
                refine z_top (b := j9 - 1) (by omega) ?_
                refine lv_istore_n (lv' := [(2, .int (iI (j9 - 1))), (1, .int (iI i9)), (8, .int (iI (1 : Int))), (7, .int (iI (0 : Int))), (6, .int (iI (0 : Int))), (5, .int (iI z92)), (4, .int (iI z82)), (3, .int (iI z73)), (0, .ref h0)]) hx hb dX0_tracePath_177 rfl hl (by decide) rfl (fun ls hl => ?_)
                refine lv_goto (tgt := 26) hx hb dX0_tracePath_178 (by decide) ?_
                exact ih_lp _ (by omega) (t + 1) i9 (j9 - 1) (zU P9 (30 - t) (16 * i9 + j9)) H locs ls (by omega) (by rw [pseq, hij]; exact pnx_3 (by rw [← e73, ← e82, ← e92]; omega) (by rw [← e82, ← e92]; omega)) (tr_next hvq hvr hn.2 hA9 hij (pnx_3 (by rw [← e73, ← e82, ← e92]; omega) (by rw [← e82, ← e92]; omega))) (tr_path hij hpt (by omega)) rfl hP hD hS (lv_sub hl [8, 1, 0] rfl)
              · refine lv_iconst (v := iI (1 : Int)) hx hb dX0_tracePath_128 (by decide) ?_
                refine lv_goto (tgt := 133) hx hb dX0_tracePath_129 (by decide) ?_
                refine lv_istore (lv' := [(7, .int (iI (1 : Int))), (6, .int (iI (0 : Int))), (5, .int (iI z92)), (4, .int (iI z82)), (3, .int (iI z73)), (0, .ref h0), (1, .int (iI i9)), (2, .int (iI j9))]) hx hb dX0_tracePath_133 hl (by decide) rfl (fun ls hl => ?_)
                refine lv_iload hx hb dX0_tracePath_135 (lv_at hl 1 rfl) ?_
                refine z_if_ne (tgt := 145) hx hb dX0_tracePath_137 (by decide) (by decide) (fun h9 => absurd h9 (by decide)) (fun _ => ?_)
                refine lv_iload hx hb dX0_tracePath_140 (lv_at hl 0 rfl) ?_
                refine z_if_ne (tgt := 149) hx hb dX0_tracePath_142 (by decide) (by decide) (fun _ => ?_) (fun h9 => absurd h9 (by decide))
                refine lv_iconst (v := iI (0 : Int)) hx hb dX0_tracePath_149 (by decide) ?_
                refine lv_istore (lv' := [(8, .int (iI (0 : Int))), (7, .int (iI (1 : Int))), (6, .int (iI (0 : Int))), (5, .int (iI z92)), (4, .int (iI z82)), (3, .int (iI z73)), (0, .ref h0), (1, .int (iI i9)), (2, .int (iI j9))]) hx hb dX0_tracePath_150 hl (by decide) rfl (fun ls hl => ?_)
                refine lv_iload_n hx hb dX0_tracePath_152 rfl (lv_at hl 7 rfl) ?_
                refine lv_iload hx hb dX0_tracePath_153 (lv_at hl 1 rfl) ?_
                refine z_if_eq (tgt := 162) hx hb dX0_tracePath_155 (by decide) (by decide) (fun h9 => absurd h9 (by decide)) (fun _ => ?_)
                refine lv_iconst (v := iI (1 : Int)) hx hb dX0_tracePath_158 (by decide) ?_
                refine lv_goto (tgt := 163) hx hb dX0_tracePath_159 (by decide) ?_
                refine z_isub hx hb dX0_tracePath_163 ?_
                refine z_top (b := i9 - 1) (by omega) ?_
                refine lv_istore_n (lv' := [(1, .int (iI (i9 - 1))), (8, .int (iI (0 : Int))), (7, .int (iI (1 : Int))), (6, .int (iI (0 : Int))), (5, .int (iI z92)), (4, .int (iI z82)), (3, .int (iI z73)), (0, .ref h0), (2, .int (iI j9))]) hx hb dX0_tracePath_164 rfl hl (by decide) rfl (fun ls hl => ?_)
                refine lv_iload_n hx hb dX0_tracePath_165 rfl (lv_at hl 8 rfl) ?_
                refine lv_iload hx hb dX0_tracePath_166 (lv_at hl 1 rfl) ?_
                refine z_if_eq (tgt := 175) hx hb dX0_tracePath_168 (by decide) (by decide) (fun _ => ?_) (fun h9 => absurd h9 (by decide))
                refine lv_iconst (v := iI (0 : Int)) hx hb dX0_tracePath_175 (by decide) ?_
                refine z_isub hx hb dX0_tracePath_176 ?_
                refine z_top (b := j9) (by omega) ?_
                refine lv_istore_n (lv' := [(2, .int (iI j9)), (1, .int (iI (i9 - 1))), (8, .int (iI (0 : Int))), (7, .int (iI (1 : Int))), (6, .int (iI (0 : Int))), (5, .int (iI z92)), (4, .int (iI z82)), (3, .int (iI z73)), (0, .ref h0)]) hx hb dX0_tracePath_177 rfl hl (by decide) rfl (fun ls hl => ?_)
                refine lv_goto (tgt := 26) hx hb dX0_tracePath_178 (by decide) ?_
                exact ih_lp _ (by omega) (t + 1) (i9 - 1) j9 (zU P9 (30 - t) (16 * i9 + j9)) H locs ls (by omega) (by rw [pseq, hij]; exact pnx_2 (by rw [← e73, ← e82, ← e92]; omega) (by rw [← e82, ← e92]; omega)) (tr_next hvq hvr hn.2 hA9 hij (pnx_2 (by rw [← e73, ← e82, ← e92]; omega) (by rw [← e82, ← e92]; omega))) (tr_path hij hpt (by omega)) rfl hP hD hS (lv_sub hl [8, 1, 0] rfl)
            · refine lv_iload_n hx hb dX0_tracePath_103 rfl (lv_at hl 2 rfl) ?_
              refine lv_iload hx hb dX0_tracePath_104 (lv_at hl 0 rfl) ?_
              refine z_icmp_gt (tgt := 113) hx hb dX0_tracePath_106 (by decide) (by omega) (fun h106 => ?_) (fun h106 => ?_)
              · refine lv_iconst (v := iI (0 : Int)) hx hb dX0_tracePath_113 (by decide) ?_
                refine lv_istore (lv' := [(6, .int (iI (0 : Int))), (5, .int (iI z92)), (4, .int (iI z82)), (3, .int (iI z73)), (0, .ref h0), (1, .int (iI i9)), (2, .int (iI j9))]) hx hb dX0_tracePath_114 hl (by decide) rfl (fun ls hl => ?_)
                refine lv_iload hx hb dX0_tracePath_116 (lv_at hl 0 rfl) ?_
                refine z_if_ne (tgt := 128) hx hb dX0_tracePath_118 (by decide) (by decide) (fun h9 => absurd h9 (by decide)) (fun _ => ?_)
                refine lv_iload hx hb dX0_tracePath_121 (lv_at hl 2 rfl) ?_
                refine lv_iload hx hb dX0_tracePath_123 (lv_at hl 1 rfl) ?_
                refine z_icmp_gt (tgt := 132) hx hb dX0_tracePath_125 (by decide) (by omega) (fun h125 => ?_) (fun h125 => ?_)
                · refine lv_iconst (v := iI (0 : Int)) hx hb dX0_tracePath_132 (by decide) ?_
                  refine lv_istore (lv' := [(7, .int (iI (0 : Int))), (6, .int (iI (0 : Int))), (5, .int (iI z92)), (4, .int (iI z82)), (3, .int (iI z73)), (0, .ref h0), (1, .int (iI i9)), (2, .int (iI j9))]) hx hb dX0_tracePath_133 hl (by decide) rfl (fun ls hl => ?_)
                  refine lv_iload hx hb dX0_tracePath_135 (lv_at hl 1 rfl) ?_
                  refine z_if_ne (tgt := 145) hx hb dX0_tracePath_137 (by decide) (by decide) (fun h9 => absurd h9 (by decide)) (fun _ => ?_)
                  refine lv_iload hx hb dX0_tracePath_140 (lv_at hl 0 rfl) ?_
                  refine z_if_ne (tgt := 149) hx hb dX0_tracePath_142 (by decide) (by decide) (fun h9 => absurd h9 (by decide)) (fun _ => ?_)
                  refine lv_iconst (v := iI (1 : Int)) hx hb dX0_tracePath_145 (by decide) ?_
                  refine lv_goto (tgt := 150) hx hb dX0_tracePath_146 (by decide) ?_
                  refine lv_istore (lv' := [(8, .int (iI (1 : Int))), (7, .int (iI (0 : Int))), (6, .int (iI (0 : Int))), (5, .int (iI z92)), (4, .int (iI z82)), (3, .int (iI z73)), (0, .ref h0), (1, .int (iI i9)), (2, .int (iI j9))]) hx hb dX0_tracePath_150 hl (by decide) rfl (fun ls hl => ?_)
                  refine lv_iload_n hx hb dX0_tracePath_152 rfl (lv_at hl 7 rfl) ?_
                  refine lv_iload hx hb dX0_tracePath_153 (lv_at hl 1 rfl) ?_
                  refine z_if_eq (tgt := 162) hx hb dX0_tracePath_155 (by decide) (by decide) (fun _ => ?_) (fun h9 => absurd h9 (by decide))
                  refine lv_iconst (v := iI (0 : Int)) hx hb dX0_tracePath_162 (by decide) ?_
                  refine z_isub hx hb dX0_tracePath_163 ?_
                  refine z_top (b := i9) (by omega) ?_
                  refine lv_istore_n (lv' := [(1, .int (iI i9)), (8, .int (iI (1 : Int))), (7, .int (iI (0 : Int))), (6, .int (iI (0 : Int))), (5, .int (iI z92)), (4, .int (iI z82)), (3, .int (iI z73)), (0, .ref h0), (2, .int (iI j9))]) hx hb dX0_tracePath_164 rfl hl (by decide) rfl (fun ls hl => ?_)
                  refine lv_iload_n hx hb dX0_tracePath_165 rfl (lv_at hl 8 rfl) ?_
                  refine lv_iload hx hb dX0_tracePath_166 (lv_at hl 1 rfl) ?_
                  refine z_if_eq (tgt := 175) hx hb dX0_tracePath_168 (by decide) (by decide) (fun h9 => absurd h9 (by decide)) (fun _ => ?_)
                  refine lv_iconst (v := iI (1 : Int)) hx hb dX0_tracePath_171 (by decide) ?_
                  refine lv_goto (tgt := 176) hx hb dX0_tracePath_172 (by decide) ?_
                  refine z_isub hx hb dX0_tracePath_176 ?_
                  refine z_top (b := j9 - 1) (by omega) ?_
                  refine lv_istore_n (lv' := [(2, .int (iI (j9 - 1))), (1, .int (iI i9)), (8, .int (iI (1 : Int))), (7, .int (iI (0 : Int))), (6, .int (iI (0 : Int))), (5, .int (iI z92)), (4, .int (iI z82)), (3, .int (iI z73)), (0, .ref h0)]) hx hb dX0_tracePath_177 rfl hl (by decide) rfl (fun ls hl => ?_)
                  refine lv_goto (tgt := 26) hx hb dX0_tracePath_178 (by decide) ?_
                  exact ih_lp _ (by omega) (t + 1) i9 (j9 - 1) (zU P9 (30 - t) (16 * i9 + j9)) H locs ls (by omega) (by rw [pseq, hij]; exact pnx_3 (by rw [← e73, ← e82, ← e92]; omega) (by rw [← e82, ← e92]; omega)) (tr_next hvq hvr hn.2 hA9 hij (pnx_3 (by rw [← e73, ← e82, ← e92]; omega) (by rw [← e82, ← e92]; omega))) (tr_path hij hpt (by omega)) rfl hP hD hS (lv_sub hl [8, 1, 0] rfl)
                · refine lv_iconst (v := iI (1 : Int)) hx hb dX0_tracePath_128 (by decide) ?_
                  refine lv_goto (tgt := 133) hx hb dX0_tracePath_129 (by decide) ?_
                  refine lv_istore (lv' := [(7, .int (iI (1 : Int))), (6, .int (iI (0 : Int))), (5, .int (iI z92)), (4, .int (iI z82)), (3, .int (iI z73)), (0, .ref h0), (1, .int (iI i9)), (2, .int (iI j9))]) hx hb dX0_tracePath_133 hl (by decide) rfl (fun ls hl => ?_)
                  refine lv_iload hx hb dX0_tracePath_135 (lv_at hl 1 rfl) ?_
                  refine z_if_ne (tgt := 145) hx hb dX0_tracePath_137 (by decide) (by decide) (fun h9 => absurd h9 (by decide)) (fun _ => ?_)
                  refine lv_iload hx hb dX0_tracePath_140 (lv_at hl 0 rfl) ?_
                  refine z_if_ne (tgt := 149) hx hb dX0_tracePath_142 (by decide) (by decide) (fun _ => ?_) (fun h9 => absurd h9 (by decide))
                  refine lv_iconst (v := iI (0 : Int)) hx hb dX0_tracePath_149 (by decide) ?_
                  refine lv_istore (lv' := [(8, .int (iI (0 : Int))), (7, .int (iI (1 : Int))), (6, .int (iI (0 : Int))), (5, .int (iI z92)), (4, .int (iI z82)), (3, .int (iI z73)), (0, .ref h0), (1, .int (iI i9)), (2, .int (iI j9))]) hx hb dX0_tracePath_150 hl (by decide) rfl (fun ls hl => ?_)
                  refine lv_iload_n hx hb dX0_tracePath_152 rfl (lv_at hl 7 rfl) ?_
                  refine lv_iload hx hb dX0_tracePath_153 (lv_at hl 1 rfl) ?_
                  refine z_if_eq (tgt := 162) hx hb dX0_tracePath_155 (by decide) (by decide) (fun h9 => absurd h9 (by decide)) (fun _ => ?_)
                  refine lv_iconst (v := iI (1 : Int)) hx hb dX0_tracePath_158 (by decide) ?_
                  refine lv_goto (tgt := 163) hx hb dX0_tracePath_159 (by decide) ?_
                  refine z_isub hx hb dX0_tracePath_163 ?_
                  refine z_top (b := i9 - 1) (by omega) ?_
                  refine lv_istore_n (lv' := [(1, .int (iI (i9 - 1))), (8, .int (iI (0 : Int))), (7, .int (iI (1 : Int))), (6, .int (iI (0 : Int))), (5, .int (iI z92)), (4, .int (iI z82)), (3, .int (iI z73)), (0, .ref h0), (2, .int (iI j9))]) hx hb dX0_tracePath_164 rfl hl (by decide) rfl (fun ls hl => ?_)
                  refine lv_iload_n hx hb dX0_tracePath_165 rfl (lv_at hl 8 rfl) ?_
                  refine lv_iload hx hb dX0_tracePath_166 (lv_at hl 1 rfl) ?_
                  refine z_if_eq (tgt := 175) hx hb dX0_tracePath_168 (by decide) (by decide) (fun _ => ?_) (fun h9 => absurd h9 (by decide))
                  refine lv_iconst (v := iI (0 : Int)) hx hb dX0_tracePath_175 (by decide) ?_
                  refine z_isub hx hb dX0_tracePath_176 ?_
                  refine z_top (b := j9) (by omega) ?_
                  refine lv_istore_n (lv' := [(2, .int (iI j9)), (1, .int (iI (i9 - 1))), (8, .int (iI (0 : Int))), (7, .int (iI (1 : Int))), (6, .int (iI (0 : Int))), (5, .int (iI z92)), (4, .int (iI z82)), (3, .int (iI z73)), (0, .ref h0)]) hx hb dX0_tracePath_177 rfl hl (by decide) rfl (fun ls hl => ?_)
                  refine lv_goto (tgt := 26) hx hb dX0_tracePath_178 (by decide) ?_
                  exact ih_lp _ (by omega) (t + 1) (i9 - 1) j9 (zU P9 (30 - t) (16 * i9 + j9)) H locs ls (by omega) (by rw [pseq, hij]; exact pnx_2 (by rw [← e73, ← e82, ← e92]; omega) (by rw [← e82, ← e92]; omega)) (tr_next hvq hvr hn.2 hA9 hij (pnx_2 (by rw [← e73, ← e82, ← e92]; omega) (by rw [← e82, ← e92]; omega))) (tr_path hij hpt (by omega)) rfl hP hD hS (lv_sub hl [8, 1, 0] rfl)
              · refine lv_iconst (v := iI (1 : Int)) hx hb dX0_tracePath_109 (by decide) ?_
                refine lv_goto (tgt := 114) hx hb dX0_tracePath_110 (by decide) ?_
                refine lv_istore (lv' := [(6, .int (iI (1 : Int))), (5, .int (iI z92)), (4, .int (iI z82)), (3, .int (iI z73)), (0, .ref h0), (1, .int (iI i9)), (2, .int (iI j9))]) hx hb dX0_tracePath_114 hl (by decide) rfl (fun ls hl => ?_)
                refine lv_iload hx hb dX0_tracePath_116 (lv_at hl 0 rfl) ?_
                refine z_if_ne (tgt := 128) hx hb dX0_tracePath_118 (by decide) (by decide) (fun _ => ?_) (fun h9 => absurd h9 (by decide))
                refine lv_iconst (v := iI (1 : Int)) hx hb dX0_tracePath_128 (by decide) ?_
                refine lv_goto (tgt := 133) hx hb dX0_tracePath_129 (by decide) ?_
                refine lv_istore (lv' := [(7, .int (iI (1 : Int))), (6, .int (iI (1 : Int))), (5, .int (iI z92)), (4, .int (iI z82)), (3, .int (iI z73)), (0, .ref h0), (1, .int (iI i9)), (2, .int (iI j9))]) hx hb dX0_tracePath_133 hl (by decide) rfl (fun ls hl => ?_)
                refine lv_iload hx hb dX0_tracePath_135 (lv_at hl 1 rfl) ?_
                refine z_if_ne (tgt := 145) hx hb dX0_tracePath_137 (by decide) (by decide) (fun _ => ?_) (fun h9 => absurd h9 (by decide))
                refine lv_iconst (v := iI (1 : Int)) hx hb dX0_tracePath_145 (by decide) ?_
                refine lv_goto (tgt := 150) hx hb dX0_tracePath_146 (by decide) ?_
                refine lv_istore (lv' := [(8, .int (iI (1 : Int))), (7, .int (iI (1 : Int))), (6, .int (iI (1 : Int))), (5, .int (iI z92)), (4, .int (iI z82)), (3, .int (iI z73)), (0, .ref h0), (1, .int (iI i9)), (2, .int (iI j9))]) hx hb dX0_tracePath_150 hl (by decide) rfl (fun ls hl => ?_)
                refine lv_iload_n hx hb dX0_tracePath_152 rfl (lv_at hl 7 rfl) ?_
                refine lv_iload hx hb dX0_tracePath_153 (lv_at hl 1 rfl) ?_
                refine z_if_eq (tgt := 162) hx hb dX0_tracePath_155 (by decide) (by decide) (fun h9 => absurd h9 (by decide)) (fun _ => ?_)
                refine lv_iconst (v := iI (1 : Int)) hx hb dX0_tracePath_158 (by decide) ?_
                refine lv_goto (tgt := 163) hx hb dX0_tracePath_159 (by decide) ?_
                refine z_isub hx hb dX0_tracePath_163 ?_
                refine z_top (b := i9 - 1) (by omega) ?_
                refine lv_istore_n (lv' := [(1, .int (iI (i9 - 1))), (8, .int (iI (1 : Int))), (7, .int (iI (1 : Int))), (6, .int (iI (1 : Int))), (5, .int (iI z92)), (4, .int (iI z82)), (3, .int (iI z73)), (0, .ref h0), (2, .int (iI j9))]) hx hb dX0_tracePath_164 rfl hl (by decide) rfl (fun ls hl => ?_)
                refine lv_iload_n hx hb dX0_tracePath_165 rfl (lv_at hl 8 rfl) ?_
                refine lv_iload hx hb dX0_tracePath_166 (lv_at hl 1 rfl) ?_
                refine z_if_eq (tgt := 175) hx hb dX0_tracePath_168 (by decide) (by decide) (fun h9 => absurd h9 (by decide)) (fun _ => ?_)
                refine lv_iconst (v := iI (1 : Int)) hx hb dX0_tracePath_171 (by decide) ?_
                refine lv_goto (tgt := 176) hx hb dX0_tracePath_172 (by decide) ?_
                refine z_isub hx hb dX0_tracePath_176 ?_
                refine z_top (b := j9 - 1) (by omega) ?_
                refine lv_istore_n (lv' := [(2, .int (iI (j9 - 1))), (1, .int (iI (i9 - 1))), (8, .int (iI (1 : Int))), (7, .int (iI (1 : Int))), (6, .int (iI (1 : Int))), (5, .int (iI z92)), (4, .int (iI z82)), (3, .int (iI z73)), (0, .ref h0)]) hx hb dX0_tracePath_177 rfl hl (by decide) rfl (fun ls hl => ?_)
                refine lv_goto (tgt := 26) hx hb dX0_tracePath_178 (by decide) ?_
                exact ih_lp _ (by omega) (t + 1) (i9 - 1) (j9 - 1) (zU P9 (30 - t) (16 * i9 + j9)) H locs ls (by omega) (by rw [pseq, hij]; exact pnx_1 (by rw [← e73, ← e82]; omega) (by rw [← e73, ← e92]; omega)) (tr_next hvq hvr hn.2 hA9 hij (pnx_1 (by rw [← e73, ← e82]; omega) (by rw [← e73, ← e92]; omega))) (tr_path hij hpt (by omega)) rfl hP hD hS (lv_sub hl [8, 1, 0] rfl)
  exact lp _ 0 ((n : Int) - 1) ((n : Int) - 1) P _ _ ls (by omega) (rfl) (Or.inl (tr_start (by omega))) (fun u h => absurd h (Nat.not_lt_zero _)) rfl hP hD hS (lv_sub hl [2, 1, 0] rfl)
end
section
set_option maxRecDepth 100000 in
set_option maxHeartbeats 4000000 in
theorem c_startFor (l : Launch) (dC : Nat → ClassId) (dI : Nat → Nat → Nat) (cI : ClassId) (hn0 al ad nm wt : Nat) (k : Nat) (sz : Nat)  : Met l yX1_startFor wsX1_startFor ({ frames := 0, cells := 0, slots := 0, locals := 0 }) (wrP dC dI [(cI, .int)] [(hn0, .inr (1, [.ref al, .ref ad, .int (iI (nm : Int)), .int (iI (wt : Int))]))] sz [.ref hn0, .int (iI (k : Int))]) (wrQv dC dI [(cI, .int)] [(hn0, .inr (1, [.ref al, .ref ad, .int (iI (nm : Int)), .int (iI (wt : Int))]))] sz (S := Unit) (fun _ => True) (fun _ => [(hn0, .inr (1, [.ref al, .ref ad, .int (iI (0 : Int)), .int (iI (k : Int))]))])) 0 0 (va_A [(hn0, .inr (1, [.ref al, .ref ad, .int (iI (nm : Int)), .int (iI (wt : Int))]))] sz) := by
  refine Met.ofW (cc := cX1_startFor) (maxL := 2) (ret := none) (by decide) rfl ?_
  intro p e s m args below meth c s₁ B hml hv
  obtain ⟨rfl, hsz, hP, hK, hD0⟩ := hv
  have hx := B.exec
  have hb := B.bytes
  have hr := B.returns
  have hts : ∀ w ∈ wsX1_startFor, w.before _ s = true := atoms_spec (ws := wsX1_startFor) B.pre
  have hown : s.vm.findClass RX1 = some m.cls := findClass_of_methodNamed B.named
  have hlocks := B.notSynchronized
  subst hsz
  have hD := hD0.self (sz := s.heap.size)
  have hA : ∀ q9 : Nat, s.heap.size ≤ q9 → va_A [(hn0, .inr (1, [.ref al, .ref ad, .int (iI (nm : Int)), .int (iI (wt : Int))]))] s.heap.size q9 := fun q9 h => Or.inr h
  have hS : va_S (va_A [(hn0, .inr (1, [.ref al, .ref ad, .int (iI (nm : Int)), .int (iI (wt : Int))]))] s.heap.size) s.heap s.heap [] := va_S.rf
  generalize hAe : va_A [(hn0, .inr (1, [.ref al, .ref ad, .int (iI (nm : Int)), .int (iI (wt : Int))]))] s.heap.size = A at hD hA hS
  have hP : va_P (dC, dI) vwCl [(hn0, .inr (1, [.ref al, .ref ad, .int (iI (nm : Int)), .int (iI (wt : Int))]))] s.heap := hP
  have hl := lv_entry ([.ref hn0, .int (iI (k : Int))]) (n := 2) (Nat.le_of_ble_eq_true rfl)
  rw [lg_entry_eq]
  generalize (lg_sl ([.ref hn0, .int (iI (k : Int))]) ++ List.replicate (2 - (lg_sl ([.ref hn0, .int (iI (k : Int))])).length) Slot.unset).toArray = ls at hl ⊢
  have hl : lv_has ls 2 [(0, .ref hn0), (1, .int (iI (k : Int)))] := hl
  generalize hargs : ([.ref hn0, .int (iI (k : Int))] : List Value).toArray = args at hts ⊢
  refine z_intro (fun R Q hR hQ => ?_)
  have hRf : R.frames = 0 := by rw [hR]; rfl
  have hRl : R.locals = 0 := by rw [hR]; rfl
  have hRc : R.cells = 0 := by rw [hR]; rfl
  have hRs : R.slots = 0 := by rw [hR]; rfl
  have in_X1 : ∀ w ∈ u_ws RX1 TX1 4, w ∈ wsX1_startFor := fun w h => List.mem_cons_of_mem _ (inW_X1 w h)
  have fl_18 := wa_hts hts wd_88
  have fl_22 := wa_hts hts wd_90
  clear hR hargs B
  refine lv_aload_n hx hb dX1_startFor_0 rfl (lv_at hl 0 rfl) ?_
  refine lv_iload_n hx hb dX1_startFor_1 rfl (lv_at hl 1 rfl) ?_
  refine va_put (D := (dC, dI)) (ci := 1) (v := .int (iI (k : Int))) (ty := .int) (C := RX1) (T := TX1) (N := 4) hx hb hts in_X1 tyX1 tyX1_ok nmX1 hown hK hP hD hS 0 rfl rfl 3 (by decide) fl_22 (fun _ h9 => h9) rfl (by decide +kernel) rfl rfl (Nat.le_of_ble_eq_true rfl) dX1_startFor_2 (fun H locs hP hD hS => ?_)
  have hP : va_P (dC, dI) vwCl [(hn0, .inr (1, [.ref al, .ref ad, .int (iI (nm : Int)), .int (iI (k : Int))]))] H := hP
  have hD : va_D A [(hn0, .inr (1, [.ref al, .ref ad, .int (iI (nm : Int)), .int (iI (k : Int))]))] := hD
  refine lv_aload_n hx hb dX1_startFor_5 rfl (lv_at hl 0 rfl) ?_
  refine lv_iconst (v := iI (0 : Int)) hx hb dX1_startFor_6 (by decide) ?_
  refine va_put (D := (dC, dI)) (ci := 1) (v := .int (iI (0 : Int))) (ty := .int) (C := RX1) (T := TX1) (N := 4) hx hb hts in_X1 tyX1 tyX1_ok nmX1 hown hK hP hD hS 0 rfl rfl 2 (by decide) fl_18 (fun _ h9 => h9) rfl (by decide +kernel) rfl rfl (Nat.le_of_ble_eq_true rfl) dX1_startFor_7 (fun H locs hP hD hS => ?_)
  have hP : va_P (dC, dI) vwCl [(hn0, .inr (1, [.ref al, .ref ad, .int (iI (0 : Int)), .int (iI (k : Int))]))] H := hP
  have hD : va_D A [(hn0, .inr (1, [.ref al, .ref ad, .int (iI (0 : Int)), .int (iI (k : Int))]))] := hD
  subst hAe
  exact zw_retv (()) hx hb hr hlocks hQ (trivial) hP hK hD hS dX1_startFor_10
set_option maxRecDepth 100000 in
set_option maxHeartbeats 4000000 in
theorem c_limit (l : Launch) (dC : Nat → ClassId) (dI : Nat → Nat → Nat) (cI : ClassId) (hn0 al ad nm wt : Nat) (D : Nat → Int) (hm : nm ≤ wt) (hwt : 1 ≤ wt ∧ wt ≤ 12) : Met l yX1_limit wsX1_limit ({ frames := 0, cells := 0, slots := 0, locals := 0 }) (rdP dC dI [(cI, .int)] [(hn0, .inr (1, [.ref al, .ref ad, .int (iI (nm : Int)), .int (iI (wt : Int))])), (ad, .inl (cI, 12, .inl (iA D)))] [.ref hn0]) (rdQ (fun z => z = if nm = wt then D (nm - 1) else -1)) 0 0 (fun _ => False) := by
  refine Met.ofW (cc := cX1_limit) (maxL := 1) (ret := (some .int)) (by decide) rfl ?_
  intro p e s m args below meth c s₁ B hml hv
  obtain ⟨rfl, hP, hK⟩ := hv
  have hx := B.exec
  have hb := B.bytes
  have hr := B.returns
  have hts : ∀ w ∈ wsX1_limit, w.before _ s = true := atoms_spec (ws := wsX1_limit) B.pre
  have hown : s.vm.findClass RX1 = some m.cls := findClass_of_methodNamed B.named
  have hlocks := B.notSynchronized
  have hl := lv_entry ([.ref hn0]) (n := 1) (Nat.le_of_ble_eq_true rfl)
  rw [lg_entry_eq]
  generalize (lg_sl ([.ref hn0]) ++ List.replicate (1 - (lg_sl ([.ref hn0])).length) Slot.unset).toArray = ls at hl ⊢
  have hl : lv_has ls 1 [(0, .ref hn0)] := hl
  generalize hargs : ([.ref hn0] : List Value).toArray = args at hts ⊢
  refine z_intro (fun R Q hR hQ => ?_)
  have hRf : R.frames = 0 := by rw [hR]; rfl
  have hRl : R.locals = 0 := by rw [hR]; rfl
  have hRc : R.cells = 0 := by rw [hR]; rfl
  have hRs : R.slots = 0 := by rw [hR]; rfl
  have in_X1 : ∀ w ∈ u_ws RX1 TX1 4, w ∈ wsX1_limit := fun w h => List.mem_cons_of_mem _ (inW_X1 w h)
  have fl_15 := wa_hts hts wd_86
  have fl_18 := wa_hts hts wd_88
  have fl_22 := wa_hts hts wd_90
  clear hR hargs B
  refine lv_aload_n hx hb dX1_limit_0 rfl (lv_at hl 0 rfl) ?_
  refine va_get (D := (dC, dI)) (ci := 1) (v := .int (iI (nm : Int))) (C := RX1) (T := TX1) (N := 4) hx hb hts in_X1 hown hK hP 0 rfl rfl 2 (by decide) fl_18 (fun _ h9 => h9) rfl dX1_limit_1 ?_
  refine lv_aload_n hx hb dX1_limit_4 rfl (lv_at hl 0 rfl) ?_
  refine va_get (D := (dC, dI)) (ci := 1) (v := .int (iI (wt : Int))) (C := RX1) (T := TX1) (N := 4) hx hb hts in_X1 hown hK hP 0 rfl rfl 3 (by decide) fl_22 (fun _ h9 => h9) rfl dX1_limit_5 ?_
  refine z_icmp_ne (tgt := 25) hx hb dX1_limit_8 (by decide) (by omega) (fun h8 => ?_) (fun h8 => ?_)
  · refine lv_iconst (v := iI (-1 : Int)) hx hb dX1_limit_25 (by decide) ?_
    exact zr_ret (z := (-1 : Int)) hx hb hr hlocks hQ (by rw [if_neg (by omega)]) dX1_limit_26
  · refine lv_aload_n hx hb dX1_limit_11 rfl (lv_at hl 0 rfl) ?_
    refine va_get (D := (dC, dI)) (ci := 1) (v := .ref ad) (C := RX1) (T := TX1) (N := 4) hx hb hts in_X1 hown hK hP 0 rfl rfl 1 (by decide) fl_15 (fun _ h9 => h9) rfl dX1_limit_12 ?_
    refine lv_aload_n hx hb dX1_limit_15 rfl (lv_at hl 0 rfl) ?_
    refine va_get (D := (dC, dI)) (ci := 1) (v := .int (iI (nm : Int))) (C := RX1) (T := TX1) (N := 4) hx hb hts in_X1 hown hK hP 0 rfl rfl 2 (by decide) fl_18 (fun _ h9 => h9) rfl dX1_limit_16 ?_
    refine lv_iconst (v := iI (1 : Int)) hx hb dX1_limit_19 (by decide) ?_
    refine z_isub hx hb dX1_limit_20 ?_
    refine z_top (b := ((nm - 1 : Nat) : Int)) (by omega) ?_
    refine z_iald hx hb hK hP 1 0 rfl rfl (nm - 1) (by omega) dX1_limit_21 ?_
    refine lv_goto (tgt := 26) hx hb dX1_limit_22 (by decide) ?_
    exact zr_ret (z := D (nm - 1)) hx hb hr hlocks hQ (by rw [if_pos (by omega)]) dX1_limit_26
set_option maxRecDepth 100000 in
set_option maxHeartbeats 4000000 in
theorem c_insert (l : Launch) (dC : Nat → ClassId) (dI : Nat → Nat → Nat) (cI : ClassId) (hn0 al ad nm wt : Nat) (pl d : Int) (P D : Nat → Int) (sz : Nat) (hm : nm ≤ wt) (hwt : 1 ≤ wt ∧ wt ≤ 12) (hrD : rgA D) (hd : -2147483648 ≤ d ∧ d ≤ 2147483647) : Met l yX1_insert wsX1_insert ({ frames := 1, cells := 0, slots := 0, locals := 21 }) (wrP dC dI [(cI, .int)] [(hn0, .inr (1, [.ref al, .ref ad, .int (iI (nm : Int)), .int (iI (wt : Int))])), (al, .inl (cI, 12, .inl (iA P))), (ad, .inl (cI, 12, .inl (iA D)))] sz [.ref hn0, .int (iI pl), .int (iI d)]) (wrQv dC dI [(cI, .int)] [(hn0, .inr (1, [.ref al, .ref ad, .int (iI (nm : Int)), .int (iI (wt : Int))])), (al, .inl (cI, 12, .inl (iA P))), (ad, .inl (cI, 12, .inl (iA D)))] sz (S := Unit) (fun _ => True) (fun _ => [(hn0, .inr (1, [.ref al, .ref ad, .int (iI ((min (nm + 1) wt : Nat) : Int)), .int (iI (wt : Int))])), (al, .inl (cI, 12, .inl (iA (insF P (scn D d (min nm (wt - 1))) (min nm (wt - 1)) pl)))), (ad, .inl (cI, 12, .inl (iA (insF D (scn D d (min nm (wt - 1))) (min nm (wt - 1)) d))))])) 0 0 (va_A [(hn0, .inr (1, [.ref al, .ref ad, .int (iI (nm : Int)), .int (iI (wt : Int))])), (al, .inl (cI, 12, .inl (iA P))), (ad, .inl (cI, 12, .inl (iA D)))] sz) := by
  refine Met.ofW (cc := cX1_insert) (maxL := 4) (ret := none) (by decide) rfl ?_
  intro p e s m args below meth c s₁ B hml hv
  obtain ⟨rfl, hsz, hP, hK, hD0⟩ := hv
  have hx := B.exec
  have hb := B.bytes
  have hr := B.returns
  have hts : ∀ w ∈ wsX1_insert, w.before _ s = true := atoms_spec (ws := wsX1_insert) B.pre
  have hown : s.vm.findClass RX1 = some m.cls := findClass_of_methodNamed B.named
  have hlocks := B.notSynchronized
  subst hsz
  have hD := hD0.self (sz := s.heap.size)
  have hA : ∀ q9 : Nat, s.heap.size ≤ q9 → va_A [(hn0, .inr (1, [.ref al, .ref ad, .int (iI (nm : Int)), .int (iI (wt : Int))])), (al, .inl (cI, 12, .inl (iA P))), (ad, .inl (cI, 12, .inl (iA D)))] s.heap.size q9 := fun q9 h => Or.inr h
  have hS : va_S (va_A [(hn0, .inr (1, [.ref al, .ref ad, .int (iI (nm : Int)), .int (iI (wt : Int))])), (al, .inl (cI, 12, .inl (iA P))), (ad, .inl (cI, 12, .inl (iA D)))] s.heap.size) s.heap s.heap [] := va_S.rf
  generalize hAe : va_A [(hn0, .inr (1, [.ref al, .ref ad, .int (iI (nm : Int)), .int (iI (wt : Int))])), (al, .inl (cI, 12, .inl (iA P))), (ad, .inl (cI, 12, .inl (iA D)))] s.heap.size = A at hD hA hS
  have hP : va_P (dC, dI) vwCl [(hn0, .inr (1, [.ref al, .ref ad, .int (iI (nm : Int)), .int (iI (wt : Int))])), (al, .inl (cI, 12, .inl (iA P))), (ad, .inl (cI, 12, .inl (iA D)))] s.heap := hP
  have hl := lv_entry ([.ref hn0, .int (iI pl), .int (iI d)]) (n := 4) (Nat.le_of_ble_eq_true rfl)
  rw [lg_entry_eq]
  generalize (lg_sl ([.ref hn0, .int (iI pl), .int (iI d)]) ++ List.replicate (4 - (lg_sl ([.ref hn0, .int (iI pl), .int (iI d)])).length) Slot.unset).toArray = ls at hl ⊢
  have hl : lv_has ls 4 [(0, .ref hn0), (1, .int (iI pl)), (2, .int (iI d))] := hl
  generalize hargs : ([.ref hn0, .int (iI pl), .int (iI d)] : List Value).toArray = args at hts ⊢
  refine z_intro (fun R Q hR hQ => ?_)
  have hRf : R.frames = 1 := by rw [hR]; rfl
  have hRl : R.locals = 21 := by rw [hR]; rfl
  have hRc : R.cells = 0 := by rw [hR]; rfl
  have hRs : R.slots = 0 := by rw [hR]; rfl
  have in_X1 : ∀ w ∈ u_ws RX1 TX1 4, w ∈ wsX1_insert := fun w h => List.mem_cons_of_mem _ (inW_X1 w h)
  have fl_9 := wa_hts hts wd_84
  have fl_15 := wa_hts hts wd_86
  have fl_18 := wa_hts hts wd_88
  have fl_22 := wa_hts hts wd_90
  have ml_25 : (Cond.methodLink RX1 25 Lib.Math.min.name).before args s = true := wa_hts hts wd_426
  have st_min : (Cond.static Lib.Math.min.name).before args s = true := wa_hts hts wd_339
  have cd_min : (Cond.code Lib.Math.min.name Lib.Math.min.code 2 (some .int)).before args s = true := wa_hts hts wd_340
  have hMath := wa_hts hts wd_40
  clear hR hargs B
  refine lv_aload_n hx hb dX1_insert_0 rfl (lv_at hl 0 rfl) ?_
  refine va_get (D := (dC, dI)) (ci := 1) (v := .int (iI (nm : Int))) (C := RX1) (T := TX1) (N := 4) hx hb hts in_X1 hown hK hP 0 rfl rfl 2 (by decide) fl_18 (fun _ h9 => h9) rfl dX1_insert_1 ?_
  refine lv_aload_n hx hb dX1_insert_4 rfl (lv_at hl 0 rfl) ?_
  refine va_get (D := (dC, dI)) (ci := 1) (v := .int (iI (wt : Int))) (C := RX1) (T := TX1) (N := 4) hx hb hts in_X1 hown hK hP 0 rfl rfl 3 (by decide) fl_22 (fun _ h9 => h9) rfl dX1_insert_5 ?_
  refine lv_iconst (v := iI (1 : Int)) hx hb dX1_insert_8 (by decide) ?_
  refine z_isub hx hb dX1_insert_9 ?_
  refine z_top (b := ((wt - 1 : Nat) : Int)) (by omega) ?_
  refine z_min hx hb (hml.trans hl.1.symm) hown ml_25 st_min hMath cd_min (by omega) (by show 0 + 13 ≤ R.locals; omega) (by omega) (by omega) (by omega) dX1_insert_10 ?_
  refine z_top (b := ((min nm (wt - 1) : Nat) : Int)) (by omega) ?_
  refine lv_istore_n (lv' := [(3, .int (iI ((min nm (wt - 1) : Nat) : Int))), (0, .ref hn0), (1, .int (iI pl)), (2, .int (iI d))]) hx hb dX1_insert_13 rfl hl (by decide) rfl (fun ls hl => ?_)
  have lp : ∀ (k9 : Nat) (a : Nat) (P9 D9 : Nat → Int) (H : Heap) (locs : List Loc) (ls : Array Slot), (a ≤ min nm (wt - 1)) → (P9 = shf P a (min nm (wt - 1))) → (D9 = shf D a (min nm (wt - 1))) → (scn D d a = scn D d (min nm (wt - 1))) → a = k9 → va_P (dC, dI) vwCl [(hn0, .inr (1, [.ref al, .ref ad, .int (iI (nm : Int)), .int (iI (wt : Int))])), (al, .inl (cI, 12, .inl (iA P9))), (ad, .inl (cI, 12, .inl (iA D9)))] H → va_D A [(hn0, .inr (1, [.ref al, .ref ad, .int (iI (nm : Int)), .int (iI (wt : Int))])), (al, .inl (cI, 12, .inl (iA P9))), (ad, .inl (cI, 12, .inl (iA D9)))] → va_S A s.heap H locs → lv_has ls 4 [(0, .ref hn0), (1, .int (iI pl)), (2, .int (iI d)), (3, .int (iI (a : Int)))] → W p l e R s m args below meth c H locs 0 0 Q (F0 m 14 ls []) := by
    intro k9
    induction k9 using Nat.strongRecOn with
    | ind k9 ih_lp =>
      intro a P9 D9 H locs ls ha eP eD hsc hk9 hP hD hS hl
      have hD9 : D9 (a - 1) = D (a - 1) ∨ a = 0 := by
        by_cases h9 : a = 0
        · exact Or.inr h9
        · rw [eD]; exact Or.inl (shf_at (by omega))
      have rD9 := hrD (a - 1)
      refine lv_iload_n hx hb dX1_insert_14 rfl (lv_at hl 3 rfl) ?_
      refine z_if_le (tgt := 64) hx hb dX1_insert_15 (by decide) (by omega) (fun h15 => ?_) (fun h15 => ?_)
      · have esc : a = scn D d (min nm (wt - 1)) := by
          rw [← hsc]
          exact (scn_stop (by omega)).symm
        refine lv_aload_n hx hb dX1_insert_64 rfl (lv_at hl 0 rfl) ?_
        refine va_get (D := (dC, dI)) (ci := 1) (v := .ref al) (C := RX1) (T := TX1) (N := 4) hx hb hts in_X1 hown hK hP 0 rfl rfl 0 (by decide) fl_9 (fun _ h9 => h9) rfl dX1_insert_65 ?_
        refine lv_iload_n hx hb dX1_insert_68 rfl (lv_at hl 3 rfl) ?_
        refine lv_iload_n hx hb dX1_insert_69 rfl (lv_at hl 1 rfl) ?_
        refine z_iast hx hb hK hP hD hS 1 0 rfl rfl a (by omega) dX1_insert_70 (fun H locs hP hD hS => ?_)
        have hP : va_P (dC, dI) vwCl [(hn0, .inr (1, [.ref al, .ref ad, .int (iI (nm : Int)), .int (iI (wt : Int))])), (al, .inl (cI, 12, .inl (iA (zU P9 a pl)))), (ad, .inl (cI, 12, .inl (iA D9)))] H := hP
        have hD : va_D A [(hn0, .inr (1, [.ref al, .ref ad, .int (iI (nm : Int)), .int (iI (wt : Int))])), (al, .inl (cI, 12, .inl (iA (zU P9 a pl)))), (ad, .inl (cI, 12, .inl (iA D9)))] := hD
        refine lv_aload_n hx hb dX1_insert_71 rfl (lv_at hl 0 rfl) ?_
        refine va_get (D := (dC, dI)) (ci := 1) (v := .ref ad) (C := RX1) (T := TX1) (N := 4) hx hb hts in_X1 hown hK hP 0 rfl rfl 1 (by decide) fl_15 (fun _ h9 => h9) rfl dX1_insert_72 ?_
        refine lv_iload_n hx hb dX1_insert_75 rfl (lv_at hl 3 rfl) ?_
        refine lv_iload_n hx hb dX1_insert_76 rfl (lv_at hl 2 rfl) ?_
        refine z_iast hx hb hK hP hD hS 2 0 rfl rfl a (by omega) dX1_insert_77 (fun H locs hP hD hS => ?_)
        have hP : va_P (dC, dI) vwCl [(hn0, .inr (1, [.ref al, .ref ad, .int (iI (nm : Int)), .int (iI (wt : Int))])), (al, .inl (cI, 12, .inl (iA (zU P9 a pl)))), (ad, .inl (cI, 12, .inl (iA (zU D9 a d))))] H := hP
        have hD : va_D A [(hn0, .inr (1, [.ref al, .ref ad, .int (iI (nm : Int)), .int (iI (wt : Int))])), (al, .inl (cI, 12, .inl (iA (zU P9 a pl)))), (ad, .inl (cI, 12, .inl (iA (zU D9 a d))))] := hD
        refine lv_aload_n hx hb dX1_insert_78 rfl (lv_at hl 0 rfl) ?_
        refine lv_aload_n hx hb dX1_insert_79 rfl (lv_at hl 0 rfl) ?_
        refine va_get (D := (dC, dI)) (ci := 1) (v := .int (iI (nm : Int))) (C := RX1) (T := TX1) (N := 4) hx hb hts in_X1 hown hK hP 0 rfl rfl 2 (by decide) fl_18 (fun _ h9 => h9) rfl dX1_insert_80 ?_
        refine lv_iconst (v := iI (1 : Int)) hx hb dX1_insert_83 (by decide) ?_
        refine z_iadd hx hb dX1_insert_84 ?_
        refine lv_aload_n hx hb dX1_insert_85 rfl (lv_at hl 0 rfl) ?_
        refine va_get (D := (dC, dI)) (ci := 1) (v := .int (iI (wt : Int))) (C := RX1) (T := TX1) (N := 4) hx hb hts in_X1 hown hK hP 0 rfl rfl 3 (by decide) fl_22 (fun _ h9 => h9) rfl dX1_insert_86 ?_
        refine z_min hx hb (hml.trans hl.1.symm) hown ml_25 st_min hMath cd_min (by omega) (by show 1 + 13 ≤ R.locals; omega) (by omega) (by omega) (by omega) dX1_insert_89 ?_
        refine z_top (b := ((min (nm + 1) wt : Nat) : Int)) (by omega) ?_
        refine va_put (D := (dC, dI)) (ci := 1) (v := .int (iI ((min (nm + 1) wt : Nat) : Int))) (ty := .int) (C := RX1) (T := TX1) (N := 4) hx hb hts in_X1 tyX1 tyX1_ok nmX1 hown hK hP hD hS 0 rfl rfl 2 (by decide) fl_18 (fun _ h9 => h9) rfl (by decide +kernel) rfl rfl (Nat.le_of_ble_eq_true rfl) dX1_insert_92 (fun H locs hP hD hS => ?_)
        have hP : va_P (dC, dI) vwCl [(hn0, .inr (1, [.ref al, .ref ad, .int (iI ((min (nm + 1) wt : Nat) : Int)), .int (iI (wt : Int))])), (al, .inl (cI, 12, .inl (iA (zU P9 a pl)))), (ad, .inl (cI, 12, .inl (iA (zU D9 a d))))] H := hP
        have hD : va_D A [(hn0, .inr (1, [.ref al, .ref ad, .int (iI ((min (nm + 1) wt : Nat) : Int)), .int (iI (wt : Int))])), (al, .inl (cI, 12, .inl (iA (zU P9 a pl)))), (ad, .inl (cI, 12, .inl (iA (zU D9 a d))))] := hD
        have eP9 : zU P9 a pl = insF P (scn D d (min nm (wt - 1))) (min nm (wt - 1)) pl := by rw [eP, shf_end, esc]
        have eD9 : zU D9 a d = insF D (scn D d (min nm (wt - 1))) (min nm (wt - 1)) d := by rw [eD, shf_end, esc]
        rw [eP9, eD9] at hP hD
        subst hAe
        exact zw_retv (()) hx hb hr hlocks hQ (trivial) hP hK hD hS dX1_insert_95
      · refine lv_aload_n hx hb dX1_insert_18 rfl (lv_at hl 0 rfl) ?_
        refine va_get (D := (dC, dI)) (ci := 1) (v := .ref ad) (C := RX1) (T := TX1) (N := 4) hx hb hts in_X1 hown hK hP 0 rfl rfl 1 (by decide) fl_15 (fun _ h9 => h9) rfl dX1_insert_19 ?_
        refine lv_iload_n hx hb dX1_insert_22 rfl (lv_at hl 3 rfl) ?_
        refine lv_iconst (v := iI (1 : Int)) hx hb dX1_insert_23 (by decide) ?_
        refine z_isub hx hb dX1_insert_24 ?_
        refine z_top (b := ((a - 1 : Nat) : Int)) (by omega) ?_
        refine z_iald hx hb hK hP 2 0 rfl rfl (a - 1) (by omega) dX1_insert_25 ?_
        have eD9 : D9 (a - 1) = D (a - 1) := by omega
        have rD9b : -2147483648 ≤ D9 (a - 1) ∧ D9 (a - 1) ≤ 2147483647 := by omega
        refine lv_iload_n hx hb dX1_insert_26 rfl (lv_at hl 2 rfl) ?_
        refine z_icmp_le (tgt := 64) hx hb dX1_insert_27 (by decide) (by omega) (fun h27 => ?_) (fun h27 => ?_)
        · have esc : a = scn D d (min nm (wt - 1)) := by
            rw [← hsc]
            exact (scn_stop (by omega)).symm
          refine lv_aload_n hx hb dX1_insert_64 rfl (lv_at hl 0 rfl) ?_
          refine va_get (D := (dC, dI)) (ci := 1) (v := .ref al) (C := RX1) (T := TX1) (N := 4) hx hb hts in_X1 hown hK hP 0 rfl rfl 0 (by decide) fl_9 (fun _ h9 => h9) rfl dX1_insert_65 ?_
          refine lv_iload_n hx hb dX1_insert_68 rfl (lv_at hl 3 rfl) ?_
          refine lv_iload_n hx hb dX1_insert_69 rfl (lv_at hl 1 rfl) ?_
          refine z_iast hx hb hK hP hD hS 1 0 rfl rfl a (by omega) dX1_insert_70 (fun H locs hP hD hS => ?_)
          have hP : va_P (dC, dI) vwCl [(hn0, .inr (1, [.ref al, .ref ad, .int (iI (nm : Int)), .int (iI (wt : Int))])), (al, .inl (cI, 12, .inl (iA (zU P9 a pl)))), (ad, .inl (cI, 12, .inl (iA D9)))] H := hP
          have hD : va_D A [(hn0, .inr (1, [.ref al, .ref ad, .int (iI (nm : Int)), .int (iI (wt : Int))])), (al, .inl (cI, 12, .inl (iA (zU P9 a pl)))), (ad, .inl (cI, 12, .inl (iA D9)))] := hD
          refine lv_aload_n hx hb dX1_insert_71 rfl (lv_at hl 0 rfl) ?_
          refine va_get (D := (dC, dI)) (ci := 1) (v := .ref ad) (C := RX1) (T := TX1) (N := 4) hx hb hts in_X1 hown hK hP 0 rfl rfl 1 (by decide) fl_15 (fun _ h9 => h9) rfl dX1_insert_72 ?_
          refine lv_iload_n hx hb dX1_insert_75 rfl (lv_at hl 3 rfl) ?_
          refine lv_iload_n hx hb dX1_insert_76 rfl (lv_at hl 2 rfl) ?_
          refine z_iast hx hb hK hP hD hS 2 0 rfl rfl a (by omega) dX1_insert_77 (fun H locs hP hD hS => ?_)
          have hP : va_P (dC, dI) vwCl [(hn0, .inr (1, [.ref al, .ref ad, .int (iI (nm : Int)), .int (iI (wt : Int))])), (al, .inl (cI, 12, .inl (iA (zU P9 a pl)))), (ad, .inl (cI, 12, .inl (iA (zU D9 a d))))] H := hP
          have hD : va_D A [(hn0, .inr (1, [.ref al, .ref ad, .int (iI (nm : Int)), .int (iI (wt : Int))])), (al, .inl (cI, 12, .inl (iA (zU P9 a pl)))), (ad, .inl (cI, 12, .inl (iA (zU D9 a d))))] := hD
          refine lv_aload_n hx hb dX1_insert_78 rfl (lv_at hl 0 rfl) ?_
          refine lv_aload_n hx hb dX1_insert_79 rfl (lv_at hl 0 rfl) ?_
          refine va_get (D := (dC, dI)) (ci := 1) (v := .int (iI (nm : Int))) (C := RX1) (T := TX1) (N := 4) hx hb hts in_X1 hown hK hP 0 rfl rfl 2 (by decide) fl_18 (fun _ h9 => h9) rfl dX1_insert_80 ?_
          refine lv_iconst (v := iI (1 : Int)) hx hb dX1_insert_83 (by decide) ?_
          refine z_iadd hx hb dX1_insert_84 ?_
          refine lv_aload_n hx hb dX1_insert_85 rfl (lv_at hl 0 rfl) ?_
          refine va_get (D := (dC, dI)) (ci := 1) (v := .int (iI (wt : Int))) (C := RX1) (T := TX1) (N := 4) hx hb hts in_X1 hown hK hP 0 rfl rfl 3 (by decide) fl_22 (fun _ h9 => h9) rfl dX1_insert_86 ?_
          refine z_min hx hb (hml.trans hl.1.symm) hown ml_25 st_min hMath cd_min (by omega) (by show 1 + 13 ≤ R.locals; omega) (by omega) (by omega) (by omega) dX1_insert_89 ?_
          refine z_top (b := ((min (nm + 1) wt : Nat) : Int)) (by omega) ?_
          refine va_put (D := (dC, dI)) (ci := 1) (v := .int (iI ((min (nm + 1) wt : Nat) : Int))) (ty := .int) (C := RX1) (T := TX1) (N := 4) hx hb hts in_X1 tyX1 tyX1_ok nmX1 hown hK hP hD hS 0 rfl rfl 2 (by decide) fl_18 (fun _ h9 => h9) rfl (by decide +kernel) rfl rfl (Nat.le_of_ble_eq_true rfl) dX1_insert_92 (fun H locs hP hD hS => ?_)
          have hP : va_P (dC, dI) vwCl [(hn0, .inr (1, [.ref al, .ref ad, .int (iI ((min (nm + 1) wt : Nat) : Int)), .int (iI (wt : Int))])), (al, .inl (cI, 12, .inl (iA (zU P9 a pl)))), (ad, .inl (cI, 12, .inl (iA (zU D9 a d))))] H := hP
          have hD : va_D A [(hn0, .inr (1, [.ref al, .ref ad, .int (iI ((min (nm + 1) wt : Nat) : Int)), .int (iI (wt : Int))])), (al, .inl (cI, 12, .inl (iA (zU P9 a pl)))), (ad, .inl (cI, 12, .inl (iA (zU D9 a d))))] := hD
          have eP9 : zU P9 a pl = insF P (scn D d (min nm (wt - 1))) (min nm (wt - 1)) pl := by rw [eP, shf_end, esc]
          have eD9 : zU D9 a d = insF D (scn D d (min nm (wt - 1))) (min nm (wt - 1)) d := by rw [eD, shf_end, esc]
          rw [eP9, eD9] at hP hD
          subst hAe
          exact zw_retv (()) hx hb hr hlocks hQ (trivial) hP hK hD hS dX1_insert_95
        · have h27b : d < D (a - 1) := by omega
          refine lv_aload_n hx hb dX1_insert_30 rfl (lv_at hl 0 rfl) ?_
          refine va_get (D := (dC, dI)) (ci := 1) (v := .ref al) (C := RX1) (T := TX1) (N := 4) hx hb hts in_X1 hown hK hP 0 rfl rfl 0 (by decide) fl_9 (fun _ h9 => h9) rfl dX1_insert_31 ?_
          refine lv_iload_n hx hb dX1_insert_34 rfl (lv_at hl 3 rfl) ?_
          refine lv_aload_n hx hb dX1_insert_35 rfl (lv_at hl 0 rfl) ?_
          refine va_get (D := (dC, dI)) (ci := 1) (v := .ref al) (C := RX1) (T := TX1) (N := 4) hx hb hts in_X1 hown hK hP 0 rfl rfl 0 (by decide) fl_9 (fun _ h9 => h9) rfl dX1_insert_36 ?_
          refine lv_iload_n hx hb dX1_insert_39 rfl (lv_at hl 3 rfl) ?_
          refine lv_iconst (v := iI (1 : Int)) hx hb dX1_insert_40 (by decide) ?_
          refine z_isub hx hb dX1_insert_41 ?_
          refine z_top (b := ((a - 1 : Nat) : Int)) (by omega) ?_
          refine z_iald hx hb hK hP 1 0 rfl rfl (a - 1) (by omega) dX1_insert_42 ?_
          refine z_iast hx hb hK hP hD hS 1 0 rfl rfl a (by omega) dX1_insert_43 (fun H locs hP hD hS => ?_)
          have hP : va_P (dC, dI) vwCl [(hn0, .inr (1, [.ref al, .ref ad, .int (iI (nm : Int)), .int (iI (wt : Int))])), (al, .inl (cI, 12, .inl (iA (zU P9 a (P9 (a - 1)))))), (ad, .inl (cI, 12, .inl (iA D9)))] H := hP
          have hD : va_D A [(hn0, .inr (1, [.ref al, .ref ad, .int (iI (nm : Int)), .int (iI (wt : Int))])), (al, .inl (cI, 12, .inl (iA (zU P9 a (P9 (a - 1)))))), (ad, .inl (cI, 12, .inl (iA D9)))] := hD
          refine lv_aload_n hx hb dX1_insert_44 rfl (lv_at hl 0 rfl) ?_
          refine va_get (D := (dC, dI)) (ci := 1) (v := .ref ad) (C := RX1) (T := TX1) (N := 4) hx hb hts in_X1 hown hK hP 0 rfl rfl 1 (by decide) fl_15 (fun _ h9 => h9) rfl dX1_insert_45 ?_
          refine lv_iload_n hx hb dX1_insert_48 rfl (lv_at hl 3 rfl) ?_
          refine lv_aload_n hx hb dX1_insert_49 rfl (lv_at hl 0 rfl) ?_
          refine va_get (D := (dC, dI)) (ci := 1) (v := .ref ad) (C := RX1) (T := TX1) (N := 4) hx hb hts in_X1 hown hK hP 0 rfl rfl 1 (by decide) fl_15 (fun _ h9 => h9) rfl dX1_insert_50 ?_
          refine lv_iload_n hx hb dX1_insert_53 rfl (lv_at hl 3 rfl) ?_
          refine lv_iconst (v := iI (1 : Int)) hx hb dX1_insert_54 (by decide) ?_
          refine z_isub hx hb dX1_insert_55 ?_
          refine z_top (b := ((a - 1 : Nat) : Int)) (by omega) ?_
          refine z_iald hx hb hK hP 2 0 rfl rfl (a - 1) (by omega) dX1_insert_56 ?_
          refine z_iast hx hb hK hP hD hS 2 0 rfl rfl a (by omega) dX1_insert_57 (fun H locs hP hD hS => ?_)
          have hP : va_P (dC, dI) vwCl [(hn0, .inr (1, [.ref al, .ref ad, .int (iI (nm : Int)), .int (iI (wt : Int))])), (al, .inl (cI, 12, .inl (iA (zU P9 a (P9 (a - 1)))))), (ad, .inl (cI, 12, .inl (iA (zU D9 a (D9 (a - 1))))))] H := hP
          have hD : va_D A [(hn0, .inr (1, [.ref al, .ref ad, .int (iI (nm : Int)), .int (iI (wt : Int))])), (al, .inl (cI, 12, .inl (iA (zU P9 a (P9 (a - 1)))))), (ad, .inl (cI, 12, .inl (iA (zU D9 a (D9 (a - 1))))))] := hD
          refine z_iinc (k := 3) (b := ((a - 1 : Nat) : Int)) (lv' := [(3, .int (iI ((a - 1 : Nat) : Int))), (0, .ref hn0), (1, .int (iI pl)), (2, .int (iI d))]) hx hb dX1_insert_58 hl rfl (by omega) (by decide) rfl (fun ls hl => ?_)
          refine lv_goto (tgt := 14) hx hb dX1_insert_61 (by decide) ?_
          exact ih_lp _ (by omega) (a - 1) (zU P9 a (P9 (a - 1))) (zU D9 a (D9 (a - 1))) H locs ls (by omega) (by rw [eP]; exact shf_step (by omega) ha) (by rw [eD]; exact shf_step (by omega) ha) (by rw [← hsc]; exact (scn_on (by omega) h27b).symm) rfl hP hD hS (lv_sub hl [1, 2, 3, 0] rfl)
  exact lp _ (min nm (wt - 1)) P D _ _ ls (Nat.le_refl _) ((shf_0 _ _).symm) ((shf_0 _ _).symm) (rfl) rfl hP hD hS (lv_sub hl [1, 2, 3, 0] rfl)
end
section
set_option maxRecDepth 100000 in
set_option maxHeartbeats 4000000 in
theorem c_placeRow (l : Launch) (dC : Nat → ClassId) (dI : Nat → Nat → Nat) (cI : ClassId) (x0 xq xr xl xs h0 hn0 xc aq ar ac ap al ad : Nat) (ps : Int) (n w rc sc : Nat) (n1 w1 row : Nat) (q ro cq cr : Nat → Int) (sz : Nat) (hn : 2 ≤ n ∧ n ≤ 16) (hw : w ≤ 15) (hrow : row < 12) : Met l yX2_placeRow wsX2_placeRow ({ frames := 2, cells := 0, slots := 0, locals := 63 }) (wrP dC dI [(cI, .int)] [(x0, .inr (2, [.int (iI (n : Int)), .int (iI (w : Int)), .ref xq, .ref xr, .ref xl, .int (iI (rc : Int)), .ref xs, .int (iI (sc : Int)), .ref h0, .ref hn0, .ref xc])), (xq, .inl (cI, 16, .inl (iA q))), (xr, .inl (cI, 192, .inl (iA ro))), (h0, .inr (0, [.ref aq, .ref ar, .ref ac, .ref ap, .int (iI ps), .int (iI (n1 : Int)), .int (iI (w1 : Int))])), (aq, .inl (cI, 16, .inl (iA cq))), (ar, .inl (cI, 16, .inl (iA cr)))] sz [.ref x0, .int (iI (row : Int))]) (wrQv dC dI [(cI, .int)] [(x0, .inr (2, [.int (iI (n : Int)), .int (iI (w : Int)), .ref xq, .ref xr, .ref xl, .int (iI (rc : Int)), .ref xs, .int (iI (sc : Int)), .ref h0, .ref hn0, .ref xc])), (xq, .inl (cI, 16, .inl (iA q))), (xr, .inl (cI, 192, .inl (iA ro))), (h0, .inr (0, [.ref aq, .ref ar, .ref ac, .ref ap, .int (iI ps), .int (iI (n1 : Int)), .int (iI (w1 : Int))])), (aq, .inl (cI, 16, .inl (iA cq))), (ar, .inl (cI, 16, .inl (iA cr)))] sz (S := Unit) (fun _ => True) (fun _ => [(x0, .inr (2, [.int (iI (n : Int)), .int (iI (w : Int)), .ref xq, .ref xr, .ref xl, .int (iI (rc : Int)), .ref xs, .int (iI (sc : Int)), .ref h0, .ref hn0, .ref xc])), (xq, .inl (cI, 16, .inl (iA q))), (xr, .inl (cI, 192, .inl (iA ro))), (h0, .inr (0, [.ref aq, .ref ar, .ref ac, .ref ap, .int (iI ps), .int (iI (n : Int)), .int (iI (w : Int))])), (aq, .inl (cI, 16, .inl (iA (zC q cq 0 0 n)))), (ar, .inl (cI, 16, .inl (iA (zC ro cr (16 * row) 0 n))))])) 0 0 (va_A [(x0, .inr (2, [.int (iI (n : Int)), .int (iI (w : Int)), .ref xq, .ref xr, .ref xl, .int (iI (rc : Int)), .ref xs, .int (iI (sc : Int)), .ref h0, .ref hn0, .ref xc])), (xq, .inl (cI, 16, .inl (iA q))), (xr, .inl (cI, 192, .inl (iA ro))), (h0, .inr (0, [.ref aq, .ref ar, .ref ac, .ref ap, .int (iI ps), .int (iI (n1 : Int)), .int (iI (w1 : Int))])), (aq, .inl (cI, 16, .inl (iA cq))), (ar, .inl (cI, 16, .inl (iA cr)))] sz) := by
  refine Met.ofW (cc := cX2_placeRow) (maxL := 2) (ret := none) (by decide) rfl ?_
  intro p e s m args below meth c s₁ B hml hv
  obtain ⟨rfl, hsz, hP, hK, hD0⟩ := hv
  have hx := B.exec
  have hb := B.bytes
  have hr := B.returns
  have hts : ∀ w ∈ wsX2_placeRow, w.before _ s = true := atoms_spec (ws := wsX2_placeRow) B.pre
  have hown : s.vm.findClass RX2 = some m.cls := findClass_of_methodNamed B.named
  have hlocks := B.notSynchronized
  subst hsz
  have hD := hD0.self (sz := s.heap.size)
  have hA : ∀ q9 : Nat, s.heap.size ≤ q9 → va_A [(x0, .inr (2, [.int (iI (n : Int)), .int (iI (w : Int)), .ref xq, .ref xr, .ref xl, .int (iI (rc : Int)), .ref xs, .int (iI (sc : Int)), .ref h0, .ref hn0, .ref xc])), (xq, .inl (cI, 16, .inl (iA q))), (xr, .inl (cI, 192, .inl (iA ro))), (h0, .inr (0, [.ref aq, .ref ar, .ref ac, .ref ap, .int (iI ps), .int (iI (n1 : Int)), .int (iI (w1 : Int))])), (aq, .inl (cI, 16, .inl (iA cq))), (ar, .inl (cI, 16, .inl (iA cr)))] s.heap.size q9 := fun q9 h => Or.inr h
  have hS : va_S (va_A [(x0, .inr (2, [.int (iI (n : Int)), .int (iI (w : Int)), .ref xq, .ref xr, .ref xl, .int (iI (rc : Int)), .ref xs, .int (iI (sc : Int)), .ref h0, .ref hn0, .ref xc])), (xq, .inl (cI, 16, .inl (iA q))), (xr, .inl (cI, 192, .inl (iA ro))), (h0, .inr (0, [.ref aq, .ref ar, .ref ac, .ref ap, .int (iI ps), .int (iI (n1 : Int)), .int (iI (w1 : Int))])), (aq, .inl (cI, 16, .inl (iA cq))), (ar, .inl (cI, 16, .inl (iA cr)))] s.heap.size) s.heap s.heap [] := va_S.rf
  generalize hAe : va_A [(x0, .inr (2, [.int (iI (n : Int)), .int (iI (w : Int)), .ref xq, .ref xr, .ref xl, .int (iI (rc : Int)), .ref xs, .int (iI (sc : Int)), .ref h0, .ref hn0, .ref xc])), (xq, .inl (cI, 16, .inl (iA q))), (xr, .inl (cI, 192, .inl (iA ro))), (h0, .inr (0, [.ref aq, .ref ar, .ref ac, .ref ap, .int (iI ps), .int (iI (n1 : Int)), .int (iI (w1 : Int))])), (aq, .inl (cI, 16, .inl (iA cq))), (ar, .inl (cI, 16, .inl (iA cr)))] s.heap.size = A at hD hA hS
  have hP : va_P (dC, dI) vwCl [(x0, .inr (2, [.int (iI (n : Int)), .int (iI (w : Int)), .ref xq, .ref xr, .ref xl, .int (iI (rc : Int)), .ref xs, .int (iI (sc : Int)), .ref h0, .ref hn0, .ref xc])), (xq, .inl (cI, 16, .inl (iA q))), (xr, .inl (cI, 192, .inl (iA ro))), (h0, .inr (0, [.ref aq, .ref ar, .ref ac, .ref ap, .int (iI ps), .int (iI (n1 : Int)), .int (iI (w1 : Int))])), (aq, .inl (cI, 16, .inl (iA cq))), (ar, .inl (cI, 16, .inl (iA cr)))] s.heap := hP
  have hl := lv_entry ([.ref x0, .int (iI (row : Int))]) (n := 2) (Nat.le_of_ble_eq_true rfl)
  rw [lg_entry_eq]
  generalize (lg_sl ([.ref x0, .int (iI (row : Int))]) ++ List.replicate (2 - (lg_sl ([.ref x0, .int (iI (row : Int))])).length) Slot.unset).toArray = ls at hl ⊢
  have hl : lv_has ls 2 [(0, .ref x0), (1, .int (iI (row : Int)))] := hl
  generalize hargs : ([.ref x0, .int (iI (row : Int))] : List Value).toArray = args at hts ⊢
  refine z_intro (fun R Q hR hQ => ?_)
  have hRf : R.frames = 2 := by rw [hR]; rfl
  have hRl : R.locals = 63 := by rw [hR]; rfl
  have hRc : R.cells = 0 := by rw [hR]; rfl
  have hRs : R.slots = 0 := by rw [hR]; rfl
  have in_X2 : ∀ w ∈ u_ws RX2 TX2 11, w ∈ wsX2_placeRow := fun w h => List.mem_cons_of_mem _ (inW_X2 w h)
  have fl_9 := wa_hts hts wd_100
  have fl_13 := wa_hts hts wd_101
  have fl_16 := wa_hts hts wd_102
  have fl_20 := wa_hts hts wd_103
  have fl_38 := wa_hts hts wd_108
  clear hR hargs B
  refine lv_aload_n hx hb dX2_placeRow_0 rfl (lv_at hl 0 rfl) ?_
  refine va_get (D := (dC, dI)) (ci := 2) (v := .ref h0) (C := RX2) (T := TX2) (N := 11) hx hb hts in_X2 hown hK hP 0 rfl rfl 8 (by decide) fl_38 (fun _ h9 => h9) rfl dX2_placeRow_1 ?_
  refine lv_aload_n hx hb dX2_placeRow_4 rfl (lv_at hl 0 rfl) ?_
  refine va_get (D := (dC, dI)) (ci := 2) (v := .ref xq) (C := RX2) (T := TX2) (N := 11) hx hb hts in_X2 hown hK hP 0 rfl rfl 2 (by decide) fl_16 (fun _ h9 => h9) rfl dX2_placeRow_5 ?_
  refine lv_aload_n hx hb dX2_placeRow_8 rfl (lv_at hl 0 rfl) ?_
  refine va_get (D := (dC, dI)) (ci := 2) (v := .int (iI (n : Int))) (C := RX2) (T := TX2) (N := 11) hx hb hts in_X2 hown hK hP 0 rfl rfl 0 (by decide) fl_9 (fun _ h9 => h9) rfl dX2_placeRow_9 ?_
  refine lv_aload_n hx hb dX2_placeRow_12 rfl (lv_at hl 0 rfl) ?_
  refine va_get (D := (dC, dI)) (ci := 2) (v := .int (iI (w : Int))) (C := RX2) (T := TX2) (N := 11) hx hb hts in_X2 hown hK hP 0 rfl rfl 1 (by decide) fl_13 (fun _ h9 => h9) rfl dX2_placeRow_13 ?_
  refine zw_v (wr := [(x0, .inr (2, [.int (iI (n : Int)), .int (iI (w : Int)), .ref xq, .ref xr, .ref xl, .int (iI (rc : Int)), .ref xs, .int (iI (sc : Int)), .ref h0, .ref hn0, .ref xc])), (xr, .inl (cI, 192, .inl (iA ro))), (ar, .inl (cI, 16, .inl (iA cr)))]) (va_runV (As := [.ref xq, .int (iI (n : Int)), .int (iI (w : Int))]) (rest := []) ⟨hx, hb, hml, hown, hts⟩ (c_placeQuestion l dC dI cI h0 aq ar ac ap xq ps n1 w1 n w cq q _ hn hw) (cwV 3 hts (ga_V wd_304 wd_305 wd_306 wd_29 wd_307) rfl rfl rfl (by decide +kernel) ⟨(show 1 + 1 ≤ R.frames by omega), (show 8 + (4 + 11) + 40 ≤ R.locals by omega)⟩) (wr_preV (q0 := 0) (ci := 0) hP hK hD [3, 4, 1] (by decide) rfl rfl rfl rfl) rfl rfl hl.1 rfl (lv_room (Nat.le_of_ble_eq_true rfl)) dX2_placeRow_16 ⟨by omega, by omega⟩) hP hD hS hA [3, 4, 1] [0, 2, 5] rfl rfl (by decide) (by decide) (fun u16 H locs hw16 hP hD hS => ?_)
  have hP := hP.sub (ws' := [(x0, .inr (2, [.int (iI (n : Int)), .int (iI (w : Int)), .ref xq, .ref xr, .ref xl, .int (iI (rc : Int)), .ref xs, .int (iI (sc : Int)), .ref h0, .ref hn0, .ref xc])), (xq, .inl (cI, 16, .inl (iA q))), (xr, .inl (cI, 192, .inl (iA ro))), (h0, .inr (0, [.ref aq, .ref ar, .ref ac, .ref ap, .int (iI ps), .int (iI (n : Int)), .int (iI (w : Int))])), (aq, .inl (cI, 16, .inl (iA (zC q cq 0 0 n)))), (ar, .inl (cI, 16, .inl (iA cr)))]) [0, 5, 1, 3, 4, 2] rfl
  have hD := hD.sub (ws' := [(x0, .inr (2, [.int (iI (n : Int)), .int (iI (w : Int)), .ref xq, .ref xr, .ref xl, .int (iI (rc : Int)), .ref xs, .int (iI (sc : Int)), .ref h0, .ref hn0, .ref xc])), (xq, .inl (cI, 16, .inl (iA q))), (xr, .inl (cI, 192, .inl (iA ro))), (h0, .inr (0, [.ref aq, .ref ar, .ref ac, .ref ap, .int (iI ps), .int (iI (n : Int)), .int (iI (w : Int))])), (aq, .inl (cI, 16, .inl (iA (zC q cq 0 0 n)))), (ar, .inl (cI, 16, .inl (iA cr)))]) [0, 5, 1, 3, 4, 2] (by decide) rfl
  refine lv_aload_n hx hb dX2_placeRow_19 rfl (lv_at hl 0 rfl) ?_
  refine va_get (D := (dC, dI)) (ci := 2) (v := .ref h0) (C := RX2) (T := TX2) (N := 11) hx hb hts in_X2 hown hK hP 0 rfl rfl 8 (by decide) fl_38 (fun _ h9 => h9) rfl dX2_placeRow_20 ?_
  refine lv_aload_n hx hb dX2_placeRow_23 rfl (lv_at hl 0 rfl) ?_
  refine va_get (D := (dC, dI)) (ci := 2) (v := .ref xr) (C := RX2) (T := TX2) (N := 11) hx hb hts in_X2 hown hK hP 0 rfl rfl 3 (by decide) fl_20 (fun _ h9 => h9) rfl dX2_placeRow_24 ?_
  refine lv_iload_n hx hb dX2_placeRow_27 rfl (lv_at hl 1 rfl) ?_
  refine lv_bipush (v := iI (16 : Int)) hx hb dX2_placeRow_28 (by decide) ?_
  refine z_imul hx hb dX2_placeRow_30 ?_
  refine z_top (b := ((16 * row : Nat) : Int)) (by omega) ?_
  refine zw_v (wr := [(x0, .inr (2, [.int (iI (n : Int)), .int (iI (w : Int)), .ref xq, .ref xr, .ref xl, .int (iI (rc : Int)), .ref xs, .int (iI (sc : Int)), .ref h0, .ref hn0, .ref xc])), (xq, .inl (cI, 16, .inl (iA q))), (aq, .inl (cI, 16, .inl (iA (zC q cq 0 0 n))))]) (va_runV (As := [.ref xr, .int (iI ((16 * row : Nat) : Int))]) (rest := []) ⟨hx, hb, hml, hown, hts⟩ (c_placeBeside l dC dI cI h0 aq ar ac ap ps n w xr 192 (16 * row) cr ro _ hn hw (by omega)) (cwV 2 hts (ga_V wd_309 wd_310 wd_311 wd_29 wd_312) rfl rfl rfl (by decide +kernel) ⟨(show 1 + 1 ≤ R.frames by omega), (show 8 + (3 + 11) + 40 ≤ R.locals by omega)⟩) (wr_preV (q0 := 0) (ci := 0) hP hK hD [3, 5, 2] (by decide) rfl rfl rfl rfl) rfl rfl hl.1 rfl (lv_room (Nat.le_of_ble_eq_true rfl)) dX2_placeRow_31 ⟨by omega, by omega⟩) hP hD hS hA [3, 5, 2] [0, 1, 4] rfl rfl (by decide) (by decide) (fun u31 H locs hw31 hP hD hS => ?_)
  have hP := hP.sub (ws' := [(x0, .inr (2, [.int (iI (n : Int)), .int (iI (w : Int)), .ref xq, .ref xr, .ref xl, .int (iI (rc : Int)), .ref xs, .int (iI (sc : Int)), .ref h0, .ref hn0, .ref xc])), (xq, .inl (cI, 16, .inl (iA q))), (xr, .inl (cI, 192, .inl (iA ro))), (h0, .inr (0, [.ref aq, .ref ar, .ref ac, .ref ap, .int (iI ps), .int (iI (n : Int)), .int (iI (w : Int))])), (aq, .inl (cI, 16, .inl (iA (zC q cq 0 0 n)))), (ar, .inl (cI, 16, .inl (iA (zC ro cr (16 * row) 0 n))))]) [0, 1, 5, 3, 2, 4] rfl
  have hD := hD.sub (ws' := [(x0, .inr (2, [.int (iI (n : Int)), .int (iI (w : Int)), .ref xq, .ref xr, .ref xl, .int (iI (rc : Int)), .ref xs, .int (iI (sc : Int)), .ref h0, .ref hn0, .ref xc])), (xq, .inl (cI, 16, .inl (iA q))), (xr, .inl (cI, 192, .inl (iA ro))), (h0, .inr (0, [.ref aq, .ref ar, .ref ac, .ref ap, .int (iI ps), .int (iI (n : Int)), .int (iI (w : Int))])), (aq, .inl (cI, 16, .inl (iA (zC q cq 0 0 n)))), (ar, .inl (cI, 16, .inl (iA (zC ro cr (16 * row) 0 n))))]) [0, 1, 5, 3, 2, 4] (by decide) rfl
  subst hAe
  exact zw_retv (()) hx hb hr hlocks hQ (trivial) hP hK hD hS dX2_placeRow_34
theorem pas_at {n w v : Nat} {q r : Nat → Int} {lim : Int} (hb9 : ∀ k : Nat, k < v → lbd n w q r (k : Int) < lim) (hv : v < 3) (h : lim ≤ lbd n w q r (v : Int)) : (v : Int) = pas n w q r lim := by
  unfold pas
  have h3 : v = 0 ∨ v = 1 ∨ v = 2 := by omega
  rcases h3 with e | e | e
  · subst e
    have h : lim ≤ lbd n w q r 0 := h
    rw [if_pos h]
    rfl
  · subst e
    have h0 : lbd n w q r 0 < lim := hb9 0 (by omega)
    have h : lim ≤ lbd n w q r 1 := h
    rw [if_neg (Int.not_le.mpr h0), if_pos h]
    rfl
  · subst e
    have h0 : lbd n w q r 0 < lim := hb9 0 (by omega)
    have h1 : lbd n w q r 1 < lim := hb9 1 (by omega)
    have h : lim ≤ lbd n w q r 2 := h
    rw [if_neg (Int.not_le.mpr h0), if_neg (Int.not_le.mpr h1), if_pos h]
    rfl
theorem pas_no {n w : Nat} {q r : Nat → Int} {lim : Int} (hb9 : ∀ k : Nat, k < 3 → lbd n w q r (k : Int) < lim) : (-1 : Int) = pas n w q r lim := by
  unfold pas
  have h0 : lbd n w q r 0 < lim := hb9 0 (by omega)
  have h1 : lbd n w q r 1 < lim := hb9 1 (by omega)
  have h2 : lbd n w q r 2 < lim := hb9 2 (by omega)
  rw [if_neg (Int.not_le.mpr h0), if_neg (Int.not_le.mpr h1), if_neg (Int.not_le.mpr h2)]
set_option maxRecDepth 100000 in
set_option maxHeartbeats 4000000 in
theorem c_passingBound (l : Launch) (dC : Nat → ClassId) (dI : Nat → Nat → Nat) (cI : ClassId) (x0 xq xr xl xs h0 hn0 xc aq ar ac ap al ad : Nat) (ps : Int) (n w rc sc : Nat) (q r : Nat → Int) (lim : Int) (hn : 2 ≤ n ∧ n ≤ 16) (hw : w ≤ 15) (hvq : vals n q) (hvr : vals n r) (hlim : 0 ≤ lim ∧ lim ≤ 2147483647) : Met l yX2_passingBound wsX2_passingBound ({ frames := 3, cells := 0, slots := 0, locals := 71 }) (rdP dC dI [(cI, .int)] [(x0, .inr (2, [.int (iI (n : Int)), .int (iI (w : Int)), .ref xq, .ref xr, .ref xl, .int (iI (rc : Int)), .ref xs, .int (iI (sc : Int)), .ref h0, .ref hn0, .ref xc])), (h0, .inr (0, [.ref aq, .ref ar, .ref ac, .ref ap, .int (iI ps), .int (iI (n : Int)), .int (iI (w : Int))])), (aq, .inl (cI, 16, .inl (iA q))), (ar, .inl (cI, 16, .inl (iA r)))] [.ref x0, .int (iI lim)]) (rdQ (fun z => z = pas n w q r lim)) 0 0 (fun _ => False) := by
  refine Met.ofW (cc := cX2_passingBound) (maxL := 3) (ret := (some .int)) (by decide) rfl ?_
  intro p e s m args below meth c s₁ B hml hv
  obtain ⟨rfl, hP, hK⟩ := hv
  have hx := B.exec
  have hb := B.bytes
  have hr := B.returns
  have hts : ∀ w ∈ wsX2_passingBound, w.before _ s = true := atoms_spec (ws := wsX2_passingBound) B.pre
  have hown : s.vm.findClass RX2 = some m.cls := findClass_of_methodNamed B.named
  have hlocks := B.notSynchronized
  have hl := lv_entry ([.ref x0, .int (iI lim)]) (n := 3) (Nat.le_of_ble_eq_true rfl)
  rw [lg_entry_eq]
  generalize (lg_sl ([.ref x0, .int (iI lim)]) ++ List.replicate (3 - (lg_sl ([.ref x0, .int (iI lim)])).length) Slot.unset).toArray = ls at hl ⊢
  have hl : lv_has ls 3 [(0, .ref x0), (1, .int (iI lim))] := hl
  generalize hargs : ([.ref x0, .int (iI lim)] : List Value).toArray = args at hts ⊢
  refine z_intro (fun R Q hR hQ => ?_)
  have hRf : R.frames = 3 := by rw [hR]; rfl
  have hRl : R.locals = 71 := by rw [hR]; rfl
  have hRc : R.cells = 0 := by rw [hR]; rfl
  have hRs : R.slots = 0 := by rw [hR]; rfl
  have in_X2 : ∀ w ∈ u_ws RX2 TX2 11, w ∈ wsX2_passingBound := fun w h => List.mem_cons_of_mem _ (inW_X2 w h)
  have fl_38 := wa_hts hts wd_108
  clear hR hargs B
  refine lv_iconst (v := iI (0 : Int)) hx hb dX2_passingBound_0 (by decide) ?_
  refine lv_istore_n (lv' := [(2, .int (iI (0 : Int))), (0, .ref x0), (1, .int (iI lim))]) hx hb dX2_passingBound_1 rfl hl (by decide) rfl (fun ls hl => ?_)
  have lp : ∀ (k9 : Nat) (v : Nat) (ls : Array Slot), (v ≤ 3) → (∀ k : Nat, k < v → lbd n w q r (k : Int) < lim) → 3 - v = k9 → lv_has ls 3 [(0, .ref x0), (1, .int (iI lim)), (2, .int (iI (v : Int)))] → W p l e R s m args below meth c s.heap [] 0 0 Q (F0 m 2 ls []) := by
    intro k9
    induction k9 using Nat.strongRecOn with
    | ind k9 ih_lp =>
      intro v ls hv hb9 hk9 hl
      refine lv_iload_n hx hb dX2_passingBound_2 rfl (lv_at hl 2 rfl) ?_
      refine lv_iconst (v := iI (2 : Int)) hx hb dX2_passingBound_3 (by decide) ?_
      refine z_icmp_gt (tgt := 27) hx hb dX2_passingBound_4 (by decide) (by omega) (fun h4 => ?_) (fun h4 => ?_)
      · refine lv_iconst (v := iI (-1 : Int)) hx hb dX2_passingBound_27 (by decide) ?_
        exact zr_ret (z := (-1 : Int)) hx hb hr hlocks hQ (pas_no (fun k h => hb9 k (by omega))) dX2_passingBound_28
      · refine lv_aload_n hx hb dX2_passingBound_7 rfl (lv_at hl 0 rfl) ?_
        refine va_get (D := (dC, dI)) (ci := 2) (v := .ref h0) (C := RX2) (T := TX2) (N := 11) hx hb hts in_X2 hown hK hP 0 rfl rfl 8 (by decide) fl_38 (fun _ h9 => h9) rfl dX2_passingBound_8 ?_
        refine lv_iload_n hx hb dX2_passingBound_11 rfl (lv_at hl 2 rfl) ?_
        refine zr_i (va_runV (As := [.int (iI (v : Int))]) (rest := []) ⟨hx, hb, hml, hown, hts⟩ (c_lowerBound l dC dI cI h0 aq ar ac ap ps n w q r (v : Int) hn hw hvq hvr (by omega)) (cwV 1 hts (ga_V wd_352 wd_353 wd_354 wd_29 wd_355) rfl rfl rfl (by decide +kernel) ⟨(show 2 + 1 ≤ R.frames by omega), (show 8 + (2 + 11) + 50 ≤ R.locals by omega)⟩) (rd_preV (q0 := 0) (ci := 0) hP hK [1, 2, 3] rfl rfl rfl) rfl rfl hl.1 rfl (lv_room (Nat.le_of_ble_eq_true rfl)) dX2_passingBound_12 ⟨by omega, by omega⟩) (fun z12 hz12 => ?_)
        have r12 : 0 ≤ z12 ∧ z12 ≤ 128000000 := by rw [hz12]; exact lbd_rg (by omega) hvq hvr _
        refine lv_iload_n hx hb dX2_passingBound_15 rfl (lv_at hl 1 rfl) ?_
        refine z_icmp_lt (tgt := 21) hx hb dX2_passingBound_16 (by decide) (by omega) (fun h16 => ?_) (fun h16 => ?_)
        · refine z_iinc (k := 2) (b := ((v + 1 : Nat) : Int)) (lv' := [(2, .int (iI ((v + 1 : Nat) : Int))), (0, .ref x0), (1, .int (iI lim))]) hx hb dX2_passingBound_21 hl rfl (by omega) (by decide) rfl (fun ls hl => ?_)
          refine lv_goto (tgt := 2) hx hb dX2_passingBound_24 (by decide) ?_
          exact ih_lp _ (by omega) (v + 1) ls (by omega) (fun k h => by by_cases g9 : k = v; (subst g9; rw [← hz12]; exact h16); exact hb9 k (by omega)) rfl (lv_sub hl [1, 2, 0] rfl)
        · refine lv_iload_n hx hb dX2_passingBound_19 rfl (lv_at hl 2 rfl) ?_
          exact zr_ret (z := (v : Int)) hx hb hr hlocks hQ (by rw [hz12] at h16; exact pas_at hb9 (by omega) h16) dX2_passingBound_20
  exact lp _ 0 ls (by omega) (fun k h => absurd h (Nat.not_lt_zero _)) rfl (lv_sub hl [1, 2, 0] rfl)
set_option maxRecDepth 100000 in
set_option maxHeartbeats 4000000 in
theorem c_weigh (l : Launch) (dC : Nat → ClassId) (dI : Nat → Nat → Nat) (cI : ClassId) (x0 xq xr xl xs h0 hn0 xc aq ar ac ap al ad : Nat) (ps : Int) (n w rc sc : Nat) (nm wt : Nat) (pl : Int) (q r G P D T : Nat → Int) (sz : Nat) (hn : 2 ≤ n ∧ n ≤ 16) (hw : w ≤ 15) (hvq : vals n q) (hvr : vals n r) (hG : rgA G) (hlk : lok wt (nm, P, D, T)) (hwt : 1 ≤ wt ∧ wt ≤ 12) : Met l yX2_weigh wsX2_weigh ({ frames := 4, cells := 0, slots := 0, locals := 93 }) (wrP dC dI [(cI, .int)] [(x0, .inr (2, [.int (iI (n : Int)), .int (iI (w : Int)), .ref xq, .ref xr, .ref xl, .int (iI (rc : Int)), .ref xs, .int (iI (sc : Int)), .ref h0, .ref hn0, .ref xc])), (h0, .inr (0, [.ref aq, .ref ar, .ref ac, .ref ap, .int (iI ps), .int (iI (n : Int)), .int (iI (w : Int))])), (aq, .inl (cI, 16, .inl (iA q))), (ar, .inl (cI, 16, .inl (iA r))), (ac, .inl (cI, 256, .inl (iA G))), (hn0, .inr (1, [.ref al, .ref ad, .int (iI (nm : Int)), .int (iI (wt : Int))])), (al, .inl (cI, 12, .inl (iA P))), (ad, .inl (cI, 12, .inl (iA D))), (xc, .inl (cI, 5, .inl (iA T)))] sz [.ref x0, .int (iI pl)]) (wrQv dC dI [(cI, .int)] [(x0, .inr (2, [.int (iI (n : Int)), .int (iI (w : Int)), .ref xq, .ref xr, .ref xl, .int (iI (rc : Int)), .ref xs, .int (iI (sc : Int)), .ref h0, .ref hn0, .ref xc])), (h0, .inr (0, [.ref aq, .ref ar, .ref ac, .ref ap, .int (iI ps), .int (iI (n : Int)), .int (iI (w : Int))])), (aq, .inl (cI, 16, .inl (iA q))), (ar, .inl (cI, 16, .inl (iA r))), (ac, .inl (cI, 256, .inl (iA G))), (hn0, .inr (1, [.ref al, .ref ad, .int (iI (nm : Int)), .int (iI (wt : Int))])), (al, .inl (cI, 12, .inl (iA P))), (ad, .inl (cI, 12, .inl (iA D))), (xc, .inl (cI, 5, .inl (iA T)))] sz (S := (Lst × (Nat → Int))) (fun u => u.1 = wgh n w q r wt pl (nm, P, D, T) ∧ rgA u.2) (fun u => [(x0, .inr (2, [.int (iI (n : Int)), .int (iI (w : Int)), .ref xq, .ref xr, .ref xl, .int (iI (rc : Int)), .ref xs, .int (iI (sc : Int)), .ref h0, .ref hn0, .ref xc])), (h0, .inr (0, [.ref aq, .ref ar, .ref ac, .ref ap, .int (iI ps), .int (iI (n : Int)), .int (iI (w : Int))])), (aq, .inl (cI, 16, .inl (iA q))), (ar, .inl (cI, 16, .inl (iA r))), (ac, .inl (cI, 256, .inl (iA u.2))), (hn0, .inr (1, [.ref al, .ref ad, .int (iI ((u.1.1 : Nat) : Int)), .int (iI (wt : Int))])), (al, .inl (cI, 12, .inl (iA u.1.2.1))), (ad, .inl (cI, 12, .inl (iA u.1.2.2.1))), (xc, .inl (cI, 5, .inl (iA u.1.2.2.2)))])) 0 0 (va_A [(x0, .inr (2, [.int (iI (n : Int)), .int (iI (w : Int)), .ref xq, .ref xr, .ref xl, .int (iI (rc : Int)), .ref xs, .int (iI (sc : Int)), .ref h0, .ref hn0, .ref xc])), (h0, .inr (0, [.ref aq, .ref ar, .ref ac, .ref ap, .int (iI ps), .int (iI (n : Int)), .int (iI (w : Int))])), (aq, .inl (cI, 16, .inl (iA q))), (ar, .inl (cI, 16, .inl (iA r))), (ac, .inl (cI, 256, .inl (iA G))), (hn0, .inr (1, [.ref al, .ref ad, .int (iI (nm : Int)), .int (iI (wt : Int))])), (al, .inl (cI, 12, .inl (iA P))), (ad, .inl (cI, 12, .inl (iA D))), (xc, .inl (cI, 5, .inl (iA T)))] sz) := by
  refine Met.ofW (cc := cX2_weigh) (maxL := 5) (ret := none) (by decide) rfl ?_
  intro p e s m args below meth c s₁ B hml hv
  obtain ⟨rfl, hsz, hP, hK, hD0⟩ := hv
  have hx := B.exec
  have hb := B.bytes
  have hr := B.returns
  have hts : ∀ w ∈ wsX2_weigh, w.before _ s = true := atoms_spec (ws := wsX2_weigh) B.pre
  have hown : s.vm.findClass RX2 = some m.cls := findClass_of_methodNamed B.named
  have hlocks := B.notSynchronized
  subst hsz
  have hD := hD0.self (sz := s.heap.size)
  have hA : ∀ q9 : Nat, s.heap.size ≤ q9 → va_A [(x0, .inr (2, [.int (iI (n : Int)), .int (iI (w : Int)), .ref xq, .ref xr, .ref xl, .int (iI (rc : Int)), .ref xs, .int (iI (sc : Int)), .ref h0, .ref hn0, .ref xc])), (h0, .inr (0, [.ref aq, .ref ar, .ref ac, .ref ap, .int (iI ps), .int (iI (n : Int)), .int (iI (w : Int))])), (aq, .inl (cI, 16, .inl (iA q))), (ar, .inl (cI, 16, .inl (iA r))), (ac, .inl (cI, 256, .inl (iA G))), (hn0, .inr (1, [.ref al, .ref ad, .int (iI (nm : Int)), .int (iI (wt : Int))])), (al, .inl (cI, 12, .inl (iA P))), (ad, .inl (cI, 12, .inl (iA D))), (xc, .inl (cI, 5, .inl (iA T)))] s.heap.size q9 := fun q9 h => Or.inr h
  have hS : va_S (va_A [(x0, .inr (2, [.int (iI (n : Int)), .int (iI (w : Int)), .ref xq, .ref xr, .ref xl, .int (iI (rc : Int)), .ref xs, .int (iI (sc : Int)), .ref h0, .ref hn0, .ref xc])), (h0, .inr (0, [.ref aq, .ref ar, .ref ac, .ref ap, .int (iI ps), .int (iI (n : Int)), .int (iI (w : Int))])), (aq, .inl (cI, 16, .inl (iA q))), (ar, .inl (cI, 16, .inl (iA r))), (ac, .inl (cI, 256, .inl (iA G))), (hn0, .inr (1, [.ref al, .ref ad, .int (iI (nm : Int)), .int (iI (wt : Int))])), (al, .inl (cI, 12, .inl (iA P))), (ad, .inl (cI, 12, .inl (iA D))), (xc, .inl (cI, 5, .inl (iA T)))] s.heap.size) s.heap s.heap [] := va_S.rf
  generalize hAe : va_A [(x0, .inr (2, [.int (iI (n : Int)), .int (iI (w : Int)), .ref xq, .ref xr, .ref xl, .int (iI (rc : Int)), .ref xs, .int (iI (sc : Int)), .ref h0, .ref hn0, .ref xc])), (h0, .inr (0, [.ref aq, .ref ar, .ref ac, .ref ap, .int (iI ps), .int (iI (n : Int)), .int (iI (w : Int))])), (aq, .inl (cI, 16, .inl (iA q))), (ar, .inl (cI, 16, .inl (iA r))), (ac, .inl (cI, 256, .inl (iA G))), (hn0, .inr (1, [.ref al, .ref ad, .int (iI (nm : Int)), .int (iI (wt : Int))])), (al, .inl (cI, 12, .inl (iA P))), (ad, .inl (cI, 12, .inl (iA D))), (xc, .inl (cI, 5, .inl (iA T)))] s.heap.size = A at hD hA hS
  have hP : va_P (dC, dI) vwCl [(x0, .inr (2, [.int (iI (n : Int)), .int (iI (w : Int)), .ref xq, .ref xr, .ref xl, .int (iI (rc : Int)), .ref xs, .int (iI (sc : Int)), .ref h0, .ref hn0, .ref xc])), (h0, .inr (0, [.ref aq, .ref ar, .ref ac, .ref ap, .int (iI ps), .int (iI (n : Int)), .int (iI (w : Int))])), (aq, .inl (cI, 16, .inl (iA q))), (ar, .inl (cI, 16, .inl (iA r))), (ac, .inl (cI, 256, .inl (iA G))), (hn0, .inr (1, [.ref al, .ref ad, .int (iI (nm : Int)), .int (iI (wt : Int))])), (al, .inl (cI, 12, .inl (iA P))), (ad, .inl (cI, 12, .inl (iA D))), (xc, .inl (cI, 5, .inl (iA T)))] s.heap := hP
  have hl := lv_entry ([.ref x0, .int (iI pl)]) (n := 5) (Nat.le_of_ble_eq_true rfl)
  rw [lg_entry_eq]
  generalize (lg_sl ([.ref x0, .int (iI pl)]) ++ List.replicate (5 - (lg_sl ([.ref x0, .int (iI pl)])).length) Slot.unset).toArray = ls at hl ⊢
  have hl : lv_has ls 5 [(0, .ref x0), (1, .int (iI pl))] := hl
  generalize hargs : ([.ref x0, .int (iI pl)] : List Value).toArray = args at hts ⊢
  refine z_intro (fun R Q hR hQ => ?_)
  have hRf : R.frames = 4 := by rw [hR]; rfl
  have hRl : R.locals = 93 := by rw [hR]; rfl
  have hRc : R.cells = 0 := by rw [hR]; rfl
  have hRs : R.slots = 0 := by rw [hR]; rfl
  have in_X2 : ∀ w ∈ u_ws RX2 TX2 11, w ∈ wsX2_weigh := fun w h => List.mem_cons_of_mem _ (inW_X2 w h)
  have fl_38 := wa_hts hts wd_108
  have fl_45 := wa_hts hts wd_109
  have fl_49 := wa_hts hts wd_110
  clear hR hargs B
  refine lv_aload_n hx hb dX2_weigh_0 rfl (lv_at hl 0 rfl) ?_
  refine va_get (D := (dC, dI)) (ci := 2) (v := .ref hn0) (C := RX2) (T := TX2) (N := 11) hx hb hts in_X2 hown hK hP 0 rfl rfl 9 (by decide) fl_45 (fun _ h9 => h9) rfl dX2_weigh_1 ?_
  refine zr_i (va_runV (As := []) (rest := []) ⟨hx, hb, hml, hown, hts⟩ (c_limit l dC dI cI hn0 al ad nm wt D hlk.1 hwt) (cwV 0 hts (ga_V wd_414 wd_415 wd_416 wd_30 wd_417) rfl rfl rfl (by decide +kernel) ⟨(show 0 + 1 ≤ R.frames by omega), (show 8 + (1 + 11) + 0 ≤ R.locals by omega)⟩) (rd_preV (q0 := 0) (ci := 1) hP hK [5, 7] rfl rfl rfl) rfl rfl hl.1 rfl (lv_room (Nat.le_of_ble_eq_true rfl)) dX2_weigh_4 ⟨by omega, by omega⟩) (fun lim hlim => ?_)
  have hrD : rgA D := hlk.2.1
  have hrd := hrD (nm - 1)
  have hl9 : (nm = wt ∧ lim = D (nm - 1) ∧ 0 ≤ lim) ∨ (nm ≠ wt ∧ lim = -1) := by
    by_cases h9 : nm = wt
    · have h8 : 0 ≤ D (nm - 1) := hlk.2.2 (nm - 1) (by have := hwt.1; show nm - 1 < nm; omega)
      rw [if_pos h9] at hlim
      exact Or.inl ⟨h9, hlim, by rw [hlim]; exact h8⟩
    · rw [if_neg h9] at hlim
      exact Or.inr ⟨h9, hlim⟩
  refine lv_istore_n (lv' := [(2, .int (iI lim)), (0, .ref x0), (1, .int (iI pl))]) hx hb dX2_weigh_7 rfl hl (by decide) rfl (fun ls hl => ?_)
  refine lv_iload_n hx hb dX2_weigh_8 rfl (lv_at hl 0 rfl) ?_
  refine lv_iconst (v := iI (-1 : Int)) hx hb dX2_weigh_9 (by decide) ?_
  refine z_icmp_ne (tgt := 17) hx hb dX2_weigh_10 (by decide) (by omega) (fun h10 => ?_) (fun h10 => ?_)
  · refine lv_aload_n hx hb dX2_weigh_17 rfl (lv_at hl 1 rfl) ?_
    refine lv_iload_n hx hb dX2_weigh_18 rfl (lv_at hl 0 rfl) ?_
    refine zr_i (va_runV (As := [.int (iI lim)]) (rest := []) ⟨hx, hb, hml, hown, hts⟩ (c_passingBound l dC dI cI x0 xq xr xl xs h0 hn0 xc aq ar ac ap al ad ps n w rc sc q r lim hn hw hvq hvr (by omega)) (cwV 1 hts (ga_V wd_418 wd_420 wd_12 wd_28 wd_421) rfl rfl rfl (by decide +kernel) ⟨(show 3 + 1 ≤ R.frames by omega), (show 8 + (3 + 11) + 71 ≤ R.locals by omega)⟩) (rd_preV (q0 := 0) (ci := 2) hP hK [0, 1, 2, 3] rfl rfl rfl) rfl rfl hl.1 rfl (lv_room (Nat.le_of_ble_eq_true rfl)) dX2_weigh_19 ⟨by omega, by omega⟩) (fun zp hzp => ?_)
    have rp : zp = -1 ∨ (0 ≤ zp ∧ zp ≤ 2) := by rw [hzp]; exact pas_rg _ _ _ _ _
    refine lv_istore_n (lv' := [(3, .int (iI zp)), (2, .int (iI lim)), (0, .ref x0), (1, .int (iI pl))]) hx hb dX2_weigh_22 rfl hl (by decide) rfl (fun ls hl => ?_)
    refine lv_iload_n hx hb dX2_weigh_23 rfl (lv_at hl 0 rfl) ?_
    refine lv_iconst (v := iI (-1 : Int)) hx hb dX2_weigh_24 (by decide) ?_
    refine z_icmp_eq (tgt := 39) hx hb dX2_weigh_25 (by decide) (by omega) (fun h25 => ?_) (fun h25 => ?_)
    · refine lv_aload_n hx hb dX2_weigh_39 rfl (lv_at hl 2 rfl) ?_
      refine va_get (D := (dC, dI)) (ci := 2) (v := .ref xc) (C := RX2) (T := TX2) (N := 11) hx hb hts in_X2 hown hK hP 0 rfl rfl 10 (by decide) fl_49 (fun _ h9 => h9) rfl dX2_weigh_40 ?_
      refine lv_iconst (v := iI (3 : Int)) hx hb dX2_weigh_43 (by decide) ?_
      refine lv_dup2_11 hx hb dX2_weigh_44 rfl rfl ?_
      refine z_iald hx hb hK hP 8 0 rfl rfl 3 (by omega) dX2_weigh_45 ?_
      refine lv_iconst (v := iI (1 : Int)) hx hb dX2_weigh_46 (by decide) ?_
      refine z_iadd hx hb dX2_weigh_47 ?_
      refine z_iast hx hb hK hP hD hS 8 0 rfl rfl 3 (by omega) dX2_weigh_48 (fun H locs hP hD hS => ?_)
      have hP : va_P (dC, dI) vwCl [(x0, .inr (2, [.int (iI (n : Int)), .int (iI (w : Int)), .ref xq, .ref xr, .ref xl, .int (iI (rc : Int)), .ref xs, .int (iI (sc : Int)), .ref h0, .ref hn0, .ref xc])), (h0, .inr (0, [.ref aq, .ref ar, .ref ac, .ref ap, .int (iI ps), .int (iI (n : Int)), .int (iI (w : Int))])), (aq, .inl (cI, 16, .inl (iA q))), (ar, .inl (cI, 16, .inl (iA r))), (ac, .inl (cI, 256, .inl (iA G))), (hn0, .inr (1, [.ref al, .ref ad, .int (iI (nm : Int)), .int (iI (wt : Int))])), (al, .inl (cI, 12, .inl (iA P))), (ad, .inl (cI, 12, .inl (iA D))), (xc, .inl (cI, 5, .inl (iA (zU T 3 ((T 3) + (1 : Int))))))] H := hP
      have hD : va_D A [(x0, .inr (2, [.int (iI (n : Int)), .int (iI (w : Int)), .ref xq, .ref xr, .ref xl, .int (iI (rc : Int)), .ref xs, .int (iI (sc : Int)), .ref h0, .ref hn0, .ref xc])), (h0, .inr (0, [.ref aq, .ref ar, .ref ac, .ref ap, .int (iI ps), .int (iI (n : Int)), .int (iI (w : Int))])), (aq, .inl (cI, 16, .inl (iA q))), (ar, .inl (cI, 16, .inl (iA r))), (ac, .inl (cI, 256, .inl (iA G))), (hn0, .inr (1, [.ref al, .ref ad, .int (iI (nm : Int)), .int (iI (wt : Int))])), (al, .inl (cI, 12, .inl (iA P))), (ad, .inl (cI, 12, .inl (iA D))), (xc, .inl (cI, 5, .inl (iA (zU T 3 ((T 3) + (1 : Int))))))] := hD
      refine lv_aload_n hx hb dX2_weigh_49 rfl (lv_at hl 2 rfl) ?_
      refine va_get (D := (dC, dI)) (ci := 2) (v := .ref h0) (C := RX2) (T := TX2) (N := 11) hx hb hts in_X2 hown hK hP 0 rfl rfl 8 (by decide) fl_38 (fun _ h9 => h9) rfl dX2_weigh_50 ?_
      refine lv_iload_n hx hb dX2_weigh_53 rfl (lv_at hl 1 rfl) ?_
      refine zw_i (wr := [(x0, .inr (2, [.int (iI (n : Int)), .int (iI (w : Int)), .ref xq, .ref xr, .ref xl, .int (iI (rc : Int)), .ref xs, .int (iI (sc : Int)), .ref h0, .ref hn0, .ref xc])), (hn0, .inr (1, [.ref al, .ref ad, .int (iI (nm : Int)), .int (iI (wt : Int))])), (al, .inl (cI, 12, .inl (iA P))), (ad, .inl (cI, 12, .inl (iA D))), (xc, .inl (cI, 5, .inl (iA (zU T 3 ((T 3) + (1 : Int))))))]) (va_runV (As := [.int (iI lim)]) (rest := []) ⟨hx, hb, hml, hown, hts⟩ (c_leastCost l dC dI cI h0 aq ar ac ap ps n w lim q r G _ hn hw hvq hvr (by omega) hG) (cwV 1 hts (ga_V wd_313 wd_314 wd_315 wd_29 wd_316) rfl rfl rfl (by decide +kernel) ⟨(show 3 + 1 ≤ R.frames by omega), (show 8 + (4 + 11) + 70 ≤ R.locals by omega)⟩) (wr_preV (q0 := 0) (ci := 0) hP hK hD [1, 2, 3, 4] (by decide) rfl rfl rfl rfl) rfl rfl hl.1 rfl (lv_room (Nat.le_of_ble_eq_true rfl)) dX2_weigh_54 ⟨by omega, by omega⟩) hP hD hS hA [1, 2, 3, 4] [0, 5, 6, 7, 8] rfl rfl (by decide) (by decide) (fun z54 u54 H locs hw54 hP hD hS => ?_)
      have hP := hP.sub (ws' := [(x0, .inr (2, [.int (iI (n : Int)), .int (iI (w : Int)), .ref xq, .ref xr, .ref xl, .int (iI (rc : Int)), .ref xs, .int (iI (sc : Int)), .ref h0, .ref hn0, .ref xc])), (h0, .inr (0, [.ref aq, .ref ar, .ref ac, .ref ap, .int (iI ps), .int (iI (n : Int)), .int (iI (w : Int))])), (aq, .inl (cI, 16, .inl (iA q))), (ar, .inl (cI, 16, .inl (iA r))), (ac, .inl (cI, 256, .inl (iA u54))), (hn0, .inr (1, [.ref al, .ref ad, .int (iI (nm : Int)), .int (iI (wt : Int))])), (al, .inl (cI, 12, .inl (iA P))), (ad, .inl (cI, 12, .inl (iA D))), (xc, .inl (cI, 5, .inl (iA (zU T 3 ((T 3) + (1 : Int))))))]) [0, 5, 6, 7, 8, 1, 2, 3, 4] rfl
      have hD := hD.sub (ws' := [(x0, .inr (2, [.int (iI (n : Int)), .int (iI (w : Int)), .ref xq, .ref xr, .ref xl, .int (iI (rc : Int)), .ref xs, .int (iI (sc : Int)), .ref h0, .ref hn0, .ref xc])), (h0, .inr (0, [.ref aq, .ref ar, .ref ac, .ref ap, .int (iI ps), .int (iI (n : Int)), .int (iI (w : Int))])), (aq, .inl (cI, 16, .inl (iA q))), (ar, .inl (cI, 16, .inl (iA r))), (ac, .inl (cI, 256, .inl (iA u54))), (hn0, .inr (1, [.ref al, .ref ad, .int (iI (nm : Int)), .int (iI (wt : Int))])), (al, .inl (cI, 12, .inl (iA P))), (ad, .inl (cI, 12, .inl (iA D))), (xc, .inl (cI, 5, .inl (iA (zU T 3 ((T 3) + (1 : Int))))))]) [0, 5, 6, 7, 8, 1, 2, 3, 4] (by decide) rfl
      have hcr := cst_rg hvq hvr hn.2 (w := w) (i := n - 1) (j := n - 1) (by omega) (by omega) (by omega)
      have r54 : (z54 = -1 ∧ lim ≠ -1 ∧ givesUp n w q r lim) ∨ (z54 = cst w q r (n - 1) (n - 1) ∧ (lim ≠ -1 → ¬ givesUp n w q r lim)) := by
        rcases hw54.2 with h9 | h9
        · exact Or.inl h9
        · exact Or.inr ⟨h9.1, h9.2.1⟩
      have r54b : -1 ≤ z54 ∧ z54 ≤ 124000000 := by
        rcases r54 with h9 | h9
        · omega
        · omega
      refine lv_istore (lv' := [(4, .int (iI z54)), (3, .int (iI zp)), (2, .int (iI lim)), (0, .ref x0), (1, .int (iI pl))]) hx hb dX2_weigh_57 hl (by decide) rfl (fun ls hl => ?_)
      refine lv_iload hx hb dX2_weigh_59 (lv_at hl 0 rfl) ?_
      refine lv_iconst (v := iI (-1 : Int)) hx hb dX2_weigh_61 (by decide) ?_
      refine z_icmp_ne (tgt := 78) hx hb dX2_weigh_62 (by decide) (by omega) (fun h62 => ?_) (fun h62 => ?_)
      · refine lv_iload_n hx hb dX2_weigh_78 rfl (lv_at hl 2 rfl) ?_
        refine lv_iconst (v := iI (-1 : Int)) hx hb dX2_weigh_79 (by decide) ?_
        refine z_icmp_eq (tgt := 89) hx hb dX2_weigh_80 (by decide) (by omega) (fun h80 => ?_) (fun h80 => ?_)
        · refine lv_aload_n hx hb dX2_weigh_89 rfl (lv_at hl 3 rfl) ?_
          refine va_get (D := (dC, dI)) (ci := 2) (v := .ref hn0) (C := RX2) (T := TX2) (N := 11) hx hb hts in_X2 hown hK hP 0 rfl rfl 9 (by decide) fl_45 (fun _ h9 => h9) rfl dX2_weigh_90 ?_
          refine lv_iload_n hx hb dX2_weigh_93 rfl (lv_at hl 4 rfl) ?_
          refine lv_iload hx hb dX2_weigh_94 (lv_at hl 0 rfl) ?_
          refine zw_v (wr := [(x0, .inr (2, [.int (iI (n : Int)), .int (iI (w : Int)), .ref xq, .ref xr, .ref xl, .int (iI (rc : Int)), .ref xs, .int (iI (sc : Int)), .ref h0, .ref hn0, .ref xc])), (h0, .inr (0, [.ref aq, .ref ar, .ref ac, .ref ap, .int (iI ps), .int (iI (n : Int)), .int (iI (w : Int))])), (aq, .inl (cI, 16, .inl (iA q))), (ar, .inl (cI, 16, .inl (iA r))), (ac, .inl (cI, 256, .inl (iA u54))), (xc, .inl (cI, 5, .inl (iA (zU T 3 ((T 3) + (1 : Int))))))]) (va_runV (As := [.int (iI pl), .int (iI z54)]) (rest := []) ⟨hx, hb, hml, hown, hts⟩ (c_insert l dC dI cI hn0 al ad nm wt pl z54 P D _ hlk.1 hwt hrD (by omega)) (cwV 2 hts (ga_V wd_422 wd_423 wd_424 wd_30 wd_425) rfl rfl rfl (by decide +kernel) ⟨(show 1 + 1 ≤ R.frames by omega), (show 8 + (4 + 11) + 21 ≤ R.locals by omega)⟩) (wr_preV (q0 := 0) (ci := 1) hP hK hD [5, 6, 7] (by decide) rfl rfl rfl rfl) rfl rfl hl.1 rfl (lv_room (Nat.le_of_ble_eq_true rfl)) dX2_weigh_96 ⟨by omega, by omega⟩) hP hD hS hA [5, 6, 7] [0, 1, 2, 3, 4, 8] rfl rfl (by decide) (by decide) (fun u96 H locs hw96 hP hD hS => ?_)
          have hP := hP.sub (ws' := [(x0, .inr (2, [.int (iI (n : Int)), .int (iI (w : Int)), .ref xq, .ref xr, .ref xl, .int (iI (rc : Int)), .ref xs, .int (iI (sc : Int)), .ref h0, .ref hn0, .ref xc])), (h0, .inr (0, [.ref aq, .ref ar, .ref ac, .ref ap, .int (iI ps), .int (iI (n : Int)), .int (iI (w : Int))])), (aq, .inl (cI, 16, .inl (iA q))), (ar, .inl (cI, 16, .inl (iA r))), (ac, .inl (cI, 256, .inl (iA u54))), (hn0, .inr (1, [.ref al, .ref ad, .int (iI ((min (nm + 1) wt : Nat) : Int)), .int (iI (wt : Int))])), (al, .inl (cI, 12, .inl (iA (insF P (scn D z54 (min nm (wt - 1))) (min nm (wt - 1)) pl)))), (ad, .inl (cI, 12, .inl (iA (insF D (scn D z54 (min nm (wt - 1))) (min nm (wt - 1)) z54)))), (xc, .inl (cI, 5, .inl (iA (zU T 3 ((T 3) + (1 : Int))))))]) [0, 1, 2, 3, 4, 6, 7, 8, 5] rfl
          have hD := hD.sub (ws' := [(x0, .inr (2, [.int (iI (n : Int)), .int (iI (w : Int)), .ref xq, .ref xr, .ref xl, .int (iI (rc : Int)), .ref xs, .int (iI (sc : Int)), .ref h0, .ref hn0, .ref xc])), (h0, .inr (0, [.ref aq, .ref ar, .ref ac, .ref ap, .int (iI ps), .int (iI (n : Int)), .int (iI (w : Int))])), (aq, .inl (cI, 16, .inl (iA q))), (ar, .inl (cI, 16, .inl (iA r))), (ac, .inl (cI, 256, .inl (iA u54))), (hn0, .inr (1, [.ref al, .ref ad, .int (iI ((min (nm + 1) wt : Nat) : Int)), .int (iI (wt : Int))])), (al, .inl (cI, 12, .inl (iA (insF P (scn D z54 (min nm (wt - 1))) (min nm (wt - 1)) pl)))), (ad, .inl (cI, 12, .inl (iA (insF D (scn D z54 (min nm (wt - 1))) (min nm (wt - 1)) z54)))), (xc, .inl (cI, 5, .inl (iA (zU T 3 ((T 3) + (1 : Int))))))]) [0, 1, 2, 3, 4, 6, 7, 8, 5] (by decide) rfl
          have hm9 : nm = wt := by omega
          have hd9 : D (nm - 1) = lim := by omega
          have hpz : pas n w q r lim = -1 := by rw [← hzp]; omega
          have hcc : z54 = cst w q r (n - 1) (n - 1) ∧ (lim ≠ -1 → ¬ givesUp n w q r lim) := by
            rcases r54 with h9 | h9
            · omega
            · exact h9
          rw [hcc.1] at hP hD
          subst hAe
          exact zw_retv (((min (nm + 1) wt, insF P (scn D (cst w q r (n - 1) (n - 1)) (min nm (wt - 1))) (min nm (wt - 1)) pl, insF D (scn D (cst w q r (n - 1) (n - 1)) (min nm (wt - 1))) (min nm (wt - 1)) (cst w q r (n - 1) (n - 1)), bmp T 3), u54)) hx hb hr hlocks hQ (⟨(wgh_4 (Or.inr ⟨by rw [hd9]; exact hpz, by rw [hd9]; exact hcc.2 (by omega), by omega⟩)).symm, hw54.1⟩) hP hK hD hS dX2_weigh_99
        · refine lv_iload hx hb dX2_weigh_83 (lv_at hl 0 rfl) ?_
          refine lv_iload_n hx hb dX2_weigh_85 rfl (lv_at hl 2 rfl) ?_
          refine z_icmp_ge (tgt := 99) hx hb dX2_weigh_86 (by decide) (by omega) (fun h86 => ?_) (fun h86 => ?_)
          · have hm9 : nm = wt := by omega
            have hd9 : D (nm - 1) = lim := by omega
            have hpz : pas n w q r lim = -1 := by rw [← hzp]; omega
            have hcc : z54 = cst w q r (n - 1) (n - 1) ∧ (lim ≠ -1 → ¬ givesUp n w q r lim) := by
              rcases r54 with h9 | h9
              · omega
              · exact h9
            subst hAe
            exact zw_retv (((nm, P, D, bmp T 3), u54)) hx hb hr hlocks hQ (⟨(wgh_3 hm9 hd9 hpz (hcc.2 h80) (by rw [← hcc.1]; exact h86)).symm, hw54.1⟩) hP hK hD hS dX2_weigh_99
          · refine lv_aload_n hx hb dX2_weigh_89 rfl (lv_at hl 3 rfl) ?_
            refine va_get (D := (dC, dI)) (ci := 2) (v := .ref hn0) (C := RX2) (T := TX2) (N := 11) hx hb hts in_X2 hown hK hP 0 rfl rfl 9 (by decide) fl_45 (fun _ h9 => h9) rfl dX2_weigh_90 ?_
            refine lv_iload_n hx hb dX2_weigh_93 rfl (lv_at hl 4 rfl) ?_
            refine lv_iload hx hb dX2_weigh_94 (lv_at hl 0 rfl) ?_
            refine zw_v (wr := [(x0, .inr (2, [.int (iI (n : Int)), .int (iI (w : Int)), .ref xq, .ref xr, .ref xl, .int (iI (rc : Int)), .ref xs, .int (iI (sc : Int)), .ref h0, .ref hn0, .ref xc])), (h0, .inr (0, [.ref aq, .ref ar, .ref ac, .ref ap, .int (iI ps), .int (iI (n : Int)), .int (iI (w : Int))])), (aq, .inl (cI, 16, .inl (iA q))), (ar, .inl (cI, 16, .inl (iA r))), (ac, .inl (cI, 256, .inl (iA u54))), (xc, .inl (cI, 5, .inl (iA (zU T 3 ((T 3) + (1 : Int))))))]) (va_runV (As := [.int (iI pl), .int (iI z54)]) (rest := []) ⟨hx, hb, hml, hown, hts⟩ (c_insert l dC dI cI hn0 al ad nm wt pl z54 P D _ hlk.1 hwt hrD (by omega)) (cwV 2 hts (ga_V wd_422 wd_423 wd_424 wd_30 wd_425) rfl rfl rfl (by decide +kernel) ⟨(show 1 + 1 ≤ R.frames by omega), (show 8 + (4 + 11) + 21 ≤ R.locals by omega)⟩) (wr_preV (q0 := 0) (ci := 1) hP hK hD [5, 6, 7] (by decide) rfl rfl rfl rfl) rfl rfl hl.1 rfl (lv_room (Nat.le_of_ble_eq_true rfl)) dX2_weigh_96 ⟨by omega, by omega⟩) hP hD hS hA [5, 6, 7] [0, 1, 2, 3, 4, 8] rfl rfl (by decide) (by decide) (fun u96 H locs hw96 hP hD hS => ?_)
            have hP := hP.sub (ws' := [(x0, .inr (2, [.int (iI (n : Int)), .int (iI (w : Int)), .ref xq, .ref xr, .ref xl, .int (iI (rc : Int)), .ref xs, .int (iI (sc : Int)), .ref h0, .ref hn0, .ref xc])), (h0, .inr (0, [.ref aq, .ref ar, .ref ac, .ref ap, .int (iI ps), .int (iI (n : Int)), .int (iI (w : Int))])), (aq, .inl (cI, 16, .inl (iA q))), (ar, .inl (cI, 16, .inl (iA r))), (ac, .inl (cI, 256, .inl (iA u54))), (hn0, .inr (1, [.ref al, .ref ad, .int (iI ((min (nm + 1) wt : Nat) : Int)), .int (iI (wt : Int))])), (al, .inl (cI, 12, .inl (iA (insF P (scn D z54 (min nm (wt - 1))) (min nm (wt - 1)) pl)))), (ad, .inl (cI, 12, .inl (iA (insF D (scn D z54 (min nm (wt - 1))) (min nm (wt - 1)) z54)))), (xc, .inl (cI, 5, .inl (iA (zU T 3 ((T 3) + (1 : Int))))))]) [0, 1, 2, 3, 4, 6, 7, 8, 5] rfl
            have hD := hD.sub (ws' := [(x0, .inr (2, [.int (iI (n : Int)), .int (iI (w : Int)), .ref xq, .ref xr, .ref xl, .int (iI (rc : Int)), .ref xs, .int (iI (sc : Int)), .ref h0, .ref hn0, .ref xc])), (h0, .inr (0, [.ref aq, .ref ar, .ref ac, .ref ap, .int (iI ps), .int (iI (n : Int)), .int (iI (w : Int))])), (aq, .inl (cI, 16, .inl (iA q))), (ar, .inl (cI, 16, .inl (iA r))), (ac, .inl (cI, 256, .inl (iA u54))), (hn0, .inr (1, [.ref al, .ref ad, .int (iI ((min (nm + 1) wt : Nat) : Int)), .int (iI (wt : Int))])), (al, .inl (cI, 12, .inl (iA (insF P (scn D z54 (min nm (wt - 1))) (min nm (wt - 1)) pl)))), (ad, .inl (cI, 12, .inl (iA (insF D (scn D z54 (min nm (wt - 1))) (min nm (wt - 1)) z54)))), (xc, .inl (cI, 5, .inl (iA (zU T 3 ((T 3) + (1 : Int))))))]) [0, 1, 2, 3, 4, 6, 7, 8, 5] (by decide) rfl
            have hm9 : nm = wt := by omega
            have hd9 : D (nm - 1) = lim := by omega
            have hpz : pas n w q r lim = -1 := by rw [← hzp]; omega
            have hcc : z54 = cst w q r (n - 1) (n - 1) ∧ (lim ≠ -1 → ¬ givesUp n w q r lim) := by
              rcases r54 with h9 | h9
              · omega
              · exact h9
            rw [hcc.1] at hP hD
            subst hAe
            exact zw_retv (((min (nm + 1) wt, insF P (scn D (cst w q r (n - 1) (n - 1)) (min nm (wt - 1))) (min nm (wt - 1)) pl, insF D (scn D (cst w q r (n - 1) (n - 1)) (min nm (wt - 1))) (min nm (wt - 1)) (cst w q r (n - 1) (n - 1)), bmp T 3), u54)) hx hb hr hlocks hQ (⟨(wgh_4 (Or.inr ⟨by rw [hd9]; exact hpz, by rw [hd9]; exact hcc.2 (by omega), by omega⟩)).symm, hw54.1⟩) hP hK hD hS dX2_weigh_99
      · refine lv_aload_n hx hb dX2_weigh_65 rfl (lv_at hl 3 rfl) ?_
        refine va_get (D := (dC, dI)) (ci := 2) (v := .ref xc) (C := RX2) (T := TX2) (N := 11) hx hb hts in_X2 hown hK hP 0 rfl rfl 10 (by decide) fl_49 (fun _ h9 => h9) rfl dX2_weigh_66 ?_
        refine lv_iconst (v := iI (4 : Int)) hx hb dX2_weigh_69 (by decide) ?_
        refine lv_dup2_11 hx hb dX2_weigh_70 rfl rfl ?_
        refine z_iald hx hb hK hP 8 0 rfl rfl 4 (by omega) dX2_weigh_71 ?_
        refine lv_iconst (v := iI (1 : Int)) hx hb dX2_weigh_72 (by decide) ?_
        refine z_iadd hx hb dX2_weigh_73 ?_
        refine z_iast hx hb hK hP hD hS 8 0 rfl rfl 4 (by omega) dX2_weigh_74 (fun H locs hP hD hS => ?_)
        have hP : va_P (dC, dI) vwCl [(x0, .inr (2, [.int (iI (n : Int)), .int (iI (w : Int)), .ref xq, .ref xr, .ref xl, .int (iI (rc : Int)), .ref xs, .int (iI (sc : Int)), .ref h0, .ref hn0, .ref xc])), (h0, .inr (0, [.ref aq, .ref ar, .ref ac, .ref ap, .int (iI ps), .int (iI (n : Int)), .int (iI (w : Int))])), (aq, .inl (cI, 16, .inl (iA q))), (ar, .inl (cI, 16, .inl (iA r))), (ac, .inl (cI, 256, .inl (iA u54))), (hn0, .inr (1, [.ref al, .ref ad, .int (iI (nm : Int)), .int (iI (wt : Int))])), (al, .inl (cI, 12, .inl (iA P))), (ad, .inl (cI, 12, .inl (iA D))), (xc, .inl (cI, 5, .inl (iA (zU (zU T 3 ((T 3) + (1 : Int))) 4 (((zU T 3 ((T 3) + (1 : Int))) 4) + (1 : Int))))))] H := hP
        have hD : va_D A [(x0, .inr (2, [.int (iI (n : Int)), .int (iI (w : Int)), .ref xq, .ref xr, .ref xl, .int (iI (rc : Int)), .ref xs, .int (iI (sc : Int)), .ref h0, .ref hn0, .ref xc])), (h0, .inr (0, [.ref aq, .ref ar, .ref ac, .ref ap, .int (iI ps), .int (iI (n : Int)), .int (iI (w : Int))])), (aq, .inl (cI, 16, .inl (iA q))), (ar, .inl (cI, 16, .inl (iA r))), (ac, .inl (cI, 256, .inl (iA u54))), (hn0, .inr (1, [.ref al, .ref ad, .int (iI (nm : Int)), .int (iI (wt : Int))])), (al, .inl (cI, 12, .inl (iA P))), (ad, .inl (cI, 12, .inl (iA D))), (xc, .inl (cI, 5, .inl (iA (zU (zU T 3 ((T 3) + (1 : Int))) 4 (((zU T 3 ((T 3) + (1 : Int))) 4) + (1 : Int))))))] := hD
        refine lv_goto (tgt := 99) hx hb dX2_weigh_75 (by decide) ?_
        have hm9 : nm = wt := by omega
        have hd9 : D (nm - 1) = lim := by omega
        have hpz : pas n w q r lim = -1 := by rw [← hzp]; omega
        have hgu : givesUp n w q r lim := by
          rcases r54 with h9 | h9
          · exact h9.2.2
          · omega
        subst hAe
        exact zw_retv (((nm, P, D, bmp (bmp T 3) 4), u54)) hx hb hr hlocks hQ (⟨(wgh_2 hm9 hd9 hpz hgu).symm, hw54.1⟩) hP hK hD hS dX2_weigh_99
    · refine lv_aload_n hx hb dX2_weigh_28 rfl (lv_at hl 2 rfl) ?_
      refine va_get (D := (dC, dI)) (ci := 2) (v := .ref xc) (C := RX2) (T := TX2) (N := 11) hx hb hts in_X2 hown hK hP 0 rfl rfl 10 (by decide) fl_49 (fun _ h9 => h9) rfl dX2_weigh_29 ?_
      refine lv_iload_n hx hb dX2_weigh_32 rfl (lv_at hl 0 rfl) ?_
      refine lv_dup2_11 hx hb dX2_weigh_33 rfl rfl ?_
      refine z_iald hx hb hK hP 8 0 rfl rfl zp.toNat (by omega) dX2_weigh_34 ?_
      refine lv_iconst (v := iI (1 : Int)) hx hb dX2_weigh_35 (by decide) ?_
      refine z_iadd hx hb dX2_weigh_36 ?_
      refine z_iast hx hb hK hP hD hS 8 0 rfl rfl zp.toNat (by omega) dX2_weigh_37 (fun H locs hP hD hS => ?_)
      have hP : va_P (dC, dI) vwCl [(x0, .inr (2, [.int (iI (n : Int)), .int (iI (w : Int)), .ref xq, .ref xr, .ref xl, .int (iI (rc : Int)), .ref xs, .int (iI (sc : Int)), .ref h0, .ref hn0, .ref xc])), (h0, .inr (0, [.ref aq, .ref ar, .ref ac, .ref ap, .int (iI ps), .int (iI (n : Int)), .int (iI (w : Int))])), (aq, .inl (cI, 16, .inl (iA q))), (ar, .inl (cI, 16, .inl (iA r))), (ac, .inl (cI, 256, .inl (iA G))), (hn0, .inr (1, [.ref al, .ref ad, .int (iI (nm : Int)), .int (iI (wt : Int))])), (al, .inl (cI, 12, .inl (iA P))), (ad, .inl (cI, 12, .inl (iA D))), (xc, .inl (cI, 5, .inl (iA (zU T zp.toNat ((T zp.toNat) + (1 : Int))))))] H := hP
      have hD : va_D A [(x0, .inr (2, [.int (iI (n : Int)), .int (iI (w : Int)), .ref xq, .ref xr, .ref xl, .int (iI (rc : Int)), .ref xs, .int (iI (sc : Int)), .ref h0, .ref hn0, .ref xc])), (h0, .inr (0, [.ref aq, .ref ar, .ref ac, .ref ap, .int (iI ps), .int (iI (n : Int)), .int (iI (w : Int))])), (aq, .inl (cI, 16, .inl (iA q))), (ar, .inl (cI, 16, .inl (iA r))), (ac, .inl (cI, 256, .inl (iA G))), (hn0, .inr (1, [.ref al, .ref ad, .int (iI (nm : Int)), .int (iI (wt : Int))])), (al, .inl (cI, 12, .inl (iA P))), (ad, .inl (cI, 12, .inl (iA D))), (xc, .inl (cI, 5, .inl (iA (zU T zp.toNat ((T zp.toNat) + (1 : Int))))))] := hD
      have hm9 : nm = wt := by omega
      have hd9 : D (nm - 1) = lim := by omega
      subst hAe
      exact zw_retv (((nm, P, D, bmp T zp.toNat), G)) hx hb hr hlocks hQ (⟨(wgh_1 hm9 hd9 hzp.symm h25).symm, hG⟩) hP hK hD hS dX2_weigh_38
  · refine lv_iconst (v := iI (-1 : Int)) hx hb dX2_weigh_13 (by decide) ?_
    refine lv_goto (tgt := 22) hx hb dX2_weigh_14 (by decide) ?_
    refine lv_istore_n (lv' := [(3, .int (iI (-1 : Int))), (2, .int (iI lim)), (0, .ref x0), (1, .int (iI pl))]) hx hb dX2_weigh_22 rfl hl (by decide) rfl (fun ls hl => ?_)
    refine lv_iload_n hx hb dX2_weigh_23 rfl (lv_at hl 0 rfl) ?_
    refine lv_iconst (v := iI (-1 : Int)) hx hb dX2_weigh_24 (by decide) ?_
    refine z_icmp_eq (tgt := 39) hx hb dX2_weigh_25 (by decide) (by decide) (fun _ => ?_) (fun h9 => absurd h9 (by decide))
    refine lv_aload_n hx hb dX2_weigh_39 rfl (lv_at hl 2 rfl) ?_
    refine va_get (D := (dC, dI)) (ci := 2) (v := .ref xc) (C := RX2) (T := TX2) (N := 11) hx hb hts in_X2 hown hK hP 0 rfl rfl 10 (by decide) fl_49 (fun _ h9 => h9) rfl dX2_weigh_40 ?_
    refine lv_iconst (v := iI (3 : Int)) hx hb dX2_weigh_43 (by decide) ?_
    refine lv_dup2_11 hx hb dX2_weigh_44 rfl rfl ?_
    refine z_iald hx hb hK hP 8 0 rfl rfl 3 (by omega) dX2_weigh_45 ?_
    refine lv_iconst (v := iI (1 : Int)) hx hb dX2_weigh_46 (by decide) ?_
    refine z_iadd hx hb dX2_weigh_47 ?_
    refine z_iast hx hb hK hP hD hS 8 0 rfl rfl 3 (by omega) dX2_weigh_48 (fun H locs hP hD hS => ?_)
    have hP : va_P (dC, dI) vwCl [(x0, .inr (2, [.int (iI (n : Int)), .int (iI (w : Int)), .ref xq, .ref xr, .ref xl, .int (iI (rc : Int)), .ref xs, .int (iI (sc : Int)), .ref h0, .ref hn0, .ref xc])), (h0, .inr (0, [.ref aq, .ref ar, .ref ac, .ref ap, .int (iI ps), .int (iI (n : Int)), .int (iI (w : Int))])), (aq, .inl (cI, 16, .inl (iA q))), (ar, .inl (cI, 16, .inl (iA r))), (ac, .inl (cI, 256, .inl (iA G))), (hn0, .inr (1, [.ref al, .ref ad, .int (iI (nm : Int)), .int (iI (wt : Int))])), (al, .inl (cI, 12, .inl (iA P))), (ad, .inl (cI, 12, .inl (iA D))), (xc, .inl (cI, 5, .inl (iA (zU T 3 ((T 3) + (1 : Int))))))] H := hP
    have hD : va_D A [(x0, .inr (2, [.int (iI (n : Int)), .int (iI (w : Int)), .ref xq, .ref xr, .ref xl, .int (iI (rc : Int)), .ref xs, .int (iI (sc : Int)), .ref h0, .ref hn0, .ref xc])), (h0, .inr (0, [.ref aq, .ref ar, .ref ac, .ref ap, .int (iI ps), .int (iI (n : Int)), .int (iI (w : Int))])), (aq, .inl (cI, 16, .inl (iA q))), (ar, .inl (cI, 16, .inl (iA r))), (ac, .inl (cI, 256, .inl (iA G))), (hn0, .inr (1, [.ref al, .ref ad, .int (iI (nm : Int)), .int (iI (wt : Int))])), (al, .inl (cI, 12, .inl (iA P))), (ad, .inl (cI, 12, .inl (iA D))), (xc, .inl (cI, 5, .inl (iA (zU T 3 ((T 3) + (1 : Int))))))] := hD
    refine lv_aload_n hx hb dX2_weigh_49 rfl (lv_at hl 2 rfl) ?_
    refine va_get (D := (dC, dI)) (ci := 2) (v := .ref h0) (C := RX2) (T := TX2) (N := 11) hx hb hts in_X2 hown hK hP 0 rfl rfl 8 (by decide) fl_38 (fun _ h9 => h9) rfl dX2_weigh_50 ?_
    refine lv_iload_n hx hb dX2_weigh_53 rfl (lv_at hl 1 rfl) ?_
    refine zw_i (wr := [(x0, .inr (2, [.int (iI (n : Int)), .int (iI (w : Int)), .ref xq, .ref xr, .ref xl, .int (iI (rc : Int)), .ref xs, .int (iI (sc : Int)), .ref h0, .ref hn0, .ref xc])), (hn0, .inr (1, [.ref al, .ref ad, .int (iI (nm : Int)), .int (iI (wt : Int))])), (al, .inl (cI, 12, .inl (iA P))), (ad, .inl (cI, 12, .inl (iA D))), (xc, .inl (cI, 5, .inl (iA (zU T 3 ((T 3) + (1 : Int))))))]) (va_runV (As := [.int (iI lim)]) (rest := []) ⟨hx, hb, hml, hown, hts⟩ (c_leastCost l dC dI cI h0 aq ar ac ap ps n w lim q r G _ hn hw hvq hvr (by omega) hG) (cwV 1 hts (ga_V wd_313 wd_314 wd_315 wd_29 wd_316) rfl rfl rfl (by decide +kernel) ⟨(show 3 + 1 ≤ R.frames by omega), (show 8 + (4 + 11) + 70 ≤ R.locals by omega)⟩) (wr_preV (q0 := 0) (ci := 0) hP hK hD [1, 2, 3, 4] (by decide) rfl rfl rfl rfl) rfl rfl hl.1 rfl (lv_room (Nat.le_of_ble_eq_true rfl)) dX2_weigh_54 ⟨by omega, by omega⟩) hP hD hS hA [1, 2, 3, 4] [0, 5, 6, 7, 8] rfl rfl (by decide) (by decide) (fun z54 u54 H locs hw54 hP hD hS => ?_)
    have hP := hP.sub (ws' := [(x0, .inr (2, [.int (iI (n : Int)), .int (iI (w : Int)), .ref xq, .ref xr, .ref xl, .int (iI (rc : Int)), .ref xs, .int (iI (sc : Int)), .ref h0, .ref hn0, .ref xc])), (h0, .inr (0, [.ref aq, .ref ar, .ref ac, .ref ap, .int (iI ps), .int (iI (n : Int)), .int (iI (w : Int))])), (aq, .inl (cI, 16, .inl (iA q))), (ar, .inl (cI, 16, .inl (iA r))), (ac, .inl (cI, 256, .inl (iA u54))), (hn0, .inr (1, [.ref al, .ref ad, .int (iI (nm : Int)), .int (iI (wt : Int))])), (al, .inl (cI, 12, .inl (iA P))), (ad, .inl (cI, 12, .inl (iA D))), (xc, .inl (cI, 5, .inl (iA (zU T 3 ((T 3) + (1 : Int))))))]) [0, 5, 6, 7, 8, 1, 2, 3, 4] rfl
    have hD := hD.sub (ws' := [(x0, .inr (2, [.int (iI (n : Int)), .int (iI (w : Int)), .ref xq, .ref xr, .ref xl, .int (iI (rc : Int)), .ref xs, .int (iI (sc : Int)), .ref h0, .ref hn0, .ref xc])), (h0, .inr (0, [.ref aq, .ref ar, .ref ac, .ref ap, .int (iI ps), .int (iI (n : Int)), .int (iI (w : Int))])), (aq, .inl (cI, 16, .inl (iA q))), (ar, .inl (cI, 16, .inl (iA r))), (ac, .inl (cI, 256, .inl (iA u54))), (hn0, .inr (1, [.ref al, .ref ad, .int (iI (nm : Int)), .int (iI (wt : Int))])), (al, .inl (cI, 12, .inl (iA P))), (ad, .inl (cI, 12, .inl (iA D))), (xc, .inl (cI, 5, .inl (iA (zU T 3 ((T 3) + (1 : Int))))))]) [0, 5, 6, 7, 8, 1, 2, 3, 4] (by decide) rfl
    have hcr := cst_rg hvq hvr hn.2 (w := w) (i := n - 1) (j := n - 1) (by omega) (by omega) (by omega)
    have r54 : (z54 = -1 ∧ lim ≠ -1 ∧ givesUp n w q r lim) ∨ (z54 = cst w q r (n - 1) (n - 1) ∧ (lim ≠ -1 → ¬ givesUp n w q r lim)) := by
      rcases hw54.2 with h9 | h9
      · exact Or.inl h9
      · exact Or.inr ⟨h9.1, h9.2.1⟩
    have r54b : -1 ≤ z54 ∧ z54 ≤ 124000000 := by
      rcases r54 with h9 | h9
      · omega
      · omega
    refine lv_istore (lv' := [(4, .int (iI z54)), (3, .int (iI (-1 : Int))), (2, .int (iI lim)), (0, .ref x0), (1, .int (iI pl))]) hx hb dX2_weigh_57 hl (by decide) rfl (fun ls hl => ?_)
    refine lv_iload hx hb dX2_weigh_59 (lv_at hl 0 rfl) ?_
    refine lv_iconst (v := iI (-1 : Int)) hx hb dX2_weigh_61 (by decide) ?_
    refine z_icmp_ne (tgt := 78) hx hb dX2_weigh_62 (by decide) (by omega) (fun h62 => ?_) (fun h62 => ?_)
    · refine lv_iload_n hx hb dX2_weigh_78 rfl (lv_at hl 2 rfl) ?_
      refine lv_iconst (v := iI (-1 : Int)) hx hb dX2_weigh_79 (by decide) ?_
      refine z_icmp_eq (tgt := 89) hx hb dX2_weigh_80 (by decide) (by omega) (fun h80 => ?_) (fun h80 => ?_)
      · refine lv_aload_n hx hb dX2_weigh_89 rfl (lv_at hl 3 rfl) ?_
        refine va_get (D := (dC, dI)) (ci := 2) (v := .ref hn0) (C := RX2) (T := TX2) (N := 11) hx hb hts in_X2 hown hK hP 0 rfl rfl 9 (by decide) fl_45 (fun _ h9 => h9) rfl dX2_weigh_90 ?_
        refine lv_iload_n hx hb dX2_weigh_93 rfl (lv_at hl 4 rfl) ?_
        refine lv_iload hx hb dX2_weigh_94 (lv_at hl 0 rfl) ?_
        refine zw_v (wr := [(x0, .inr (2, [.int (iI (n : Int)), .int (iI (w : Int)), .ref xq, .ref xr, .ref xl, .int (iI (rc : Int)), .ref xs, .int (iI (sc : Int)), .ref h0, .ref hn0, .ref xc])), (h0, .inr (0, [.ref aq, .ref ar, .ref ac, .ref ap, .int (iI ps), .int (iI (n : Int)), .int (iI (w : Int))])), (aq, .inl (cI, 16, .inl (iA q))), (ar, .inl (cI, 16, .inl (iA r))), (ac, .inl (cI, 256, .inl (iA u54))), (xc, .inl (cI, 5, .inl (iA (zU T 3 ((T 3) + (1 : Int))))))]) (va_runV (As := [.int (iI pl), .int (iI z54)]) (rest := []) ⟨hx, hb, hml, hown, hts⟩ (c_insert l dC dI cI hn0 al ad nm wt pl z54 P D _ hlk.1 hwt hrD (by omega)) (cwV 2 hts (ga_V wd_422 wd_423 wd_424 wd_30 wd_425) rfl rfl rfl (by decide +kernel) ⟨(show 1 + 1 ≤ R.frames by omega), (show 8 + (4 + 11) + 21 ≤ R.locals by omega)⟩) (wr_preV (q0 := 0) (ci := 1) hP hK hD [5, 6, 7] (by decide) rfl rfl rfl rfl) rfl rfl hl.1 rfl (lv_room (Nat.le_of_ble_eq_true rfl)) dX2_weigh_96 ⟨by omega, by omega⟩) hP hD hS hA [5, 6, 7] [0, 1, 2, 3, 4, 8] rfl rfl (by decide) (by decide) (fun u96 H locs hw96 hP hD hS => ?_)
        have hP := hP.sub (ws' := [(x0, .inr (2, [.int (iI (n : Int)), .int (iI (w : Int)), .ref xq, .ref xr, .ref xl, .int (iI (rc : Int)), .ref xs, .int (iI (sc : Int)), .ref h0, .ref hn0, .ref xc])), (h0, .inr (0, [.ref aq, .ref ar, .ref ac, .ref ap, .int (iI ps), .int (iI (n : Int)), .int (iI (w : Int))])), (aq, .inl (cI, 16, .inl (iA q))), (ar, .inl (cI, 16, .inl (iA r))), (ac, .inl (cI, 256, .inl (iA u54))), (hn0, .inr (1, [.ref al, .ref ad, .int (iI ((min (nm + 1) wt : Nat) : Int)), .int (iI (wt : Int))])), (al, .inl (cI, 12, .inl (iA (insF P (scn D z54 (min nm (wt - 1))) (min nm (wt - 1)) pl)))), (ad, .inl (cI, 12, .inl (iA (insF D (scn D z54 (min nm (wt - 1))) (min nm (wt - 1)) z54)))), (xc, .inl (cI, 5, .inl (iA (zU T 3 ((T 3) + (1 : Int))))))]) [0, 1, 2, 3, 4, 6, 7, 8, 5] rfl
        have hD := hD.sub (ws' := [(x0, .inr (2, [.int (iI (n : Int)), .int (iI (w : Int)), .ref xq, .ref xr, .ref xl, .int (iI (rc : Int)), .ref xs, .int (iI (sc : Int)), .ref h0, .ref hn0, .ref xc])), (h0, .inr (0, [.ref aq, .ref ar, .ref ac, .ref ap, .int (iI ps), .int (iI (n : Int)), .int (iI (w : Int))])), (aq, .inl (cI, 16, .inl (iA q))), (ar, .inl (cI, 16, .inl (iA r))), (ac, .inl (cI, 256, .inl (iA u54))), (hn0, .inr (1, [.ref al, .ref ad, .int (iI ((min (nm + 1) wt : Nat) : Int)), .int (iI (wt : Int))])), (al, .inl (cI, 12, .inl (iA (insF P (scn D z54 (min nm (wt - 1))) (min nm (wt - 1)) pl)))), (ad, .inl (cI, 12, .inl (iA (insF D (scn D z54 (min nm (wt - 1))) (min nm (wt - 1)) z54)))), (xc, .inl (cI, 5, .inl (iA (zU T 3 ((T 3) + (1 : Int))))))]) [0, 1, 2, 3, 4, 6, 7, 8, 5] (by decide) rfl
        have hcc : z54 = cst w q r (n - 1) (n - 1) ∧ (lim ≠ -1 → ¬ givesUp n w q r lim) := by
          rcases r54 with h9 | h9
          · omega
          · exact h9
        have hm8 : nm ≠ wt := by omega
        rw [hcc.1] at hP hD
        subst hAe
        exact zw_retv (((min (nm + 1) wt, insF P (scn D (cst w q r (n - 1) (n - 1)) (min nm (wt - 1))) (min nm (wt - 1)) pl, insF D (scn D (cst w q r (n - 1) (n - 1)) (min nm (wt - 1))) (min nm (wt - 1)) (cst w q r (n - 1) (n - 1)), bmp T 3), u54)) hx hb hr hlocks hQ (⟨(wgh_4 (Or.inl hm8)).symm, hw54.1⟩) hP hK hD hS dX2_weigh_99
      · refine lv_iload hx hb dX2_weigh_83 (lv_at hl 0 rfl) ?_
        refine lv_iload_n hx hb dX2_weigh_85 rfl (lv_at hl 2 rfl) ?_
        refine z_icmp_ge (tgt := 99) hx hb dX2_weigh_86 (by decide) (by omega) (fun h86 => ?_) (fun h86 => ?_)
        · exfalso
          rcases r54 with h9 | h9 <;> omega
        · refine lv_aload_n hx hb dX2_weigh_89 rfl (lv_at hl 3 rfl) ?_
          refine va_get (D := (dC, dI)) (ci := 2) (v := .ref hn0) (C := RX2) (T := TX2) (N := 11) hx hb hts in_X2 hown hK hP 0 rfl rfl 9 (by decide) fl_45 (fun _ h9 => h9) rfl dX2_weigh_90 ?_
          refine lv_iload_n hx hb dX2_weigh_93 rfl (lv_at hl 4 rfl) ?_
          refine lv_iload hx hb dX2_weigh_94 (lv_at hl 0 rfl) ?_
          refine zw_v (wr := [(x0, .inr (2, [.int (iI (n : Int)), .int (iI (w : Int)), .ref xq, .ref xr, .ref xl, .int (iI (rc : Int)), .ref xs, .int (iI (sc : Int)), .ref h0, .ref hn0, .ref xc])), (h0, .inr (0, [.ref aq, .ref ar, .ref ac, .ref ap, .int (iI ps), .int (iI (n : Int)), .int (iI (w : Int))])), (aq, .inl (cI, 16, .inl (iA q))), (ar, .inl (cI, 16, .inl (iA r))), (ac, .inl (cI, 256, .inl (iA u54))), (xc, .inl (cI, 5, .inl (iA (zU T 3 ((T 3) + (1 : Int))))))]) (va_runV (As := [.int (iI pl), .int (iI z54)]) (rest := []) ⟨hx, hb, hml, hown, hts⟩ (c_insert l dC dI cI hn0 al ad nm wt pl z54 P D _ hlk.1 hwt hrD (by omega)) (cwV 2 hts (ga_V wd_422 wd_423 wd_424 wd_30 wd_425) rfl rfl rfl (by decide +kernel) ⟨(show 1 + 1 ≤ R.frames by omega), (show 8 + (4 + 11) + 21 ≤ R.locals by omega)⟩) (wr_preV (q0 := 0) (ci := 1) hP hK hD [5, 6, 7] (by decide) rfl rfl rfl rfl) rfl rfl hl.1 rfl (lv_room (Nat.le_of_ble_eq_true rfl)) dX2_weigh_96 ⟨by omega, by omega⟩) hP hD hS hA [5, 6, 7] [0, 1, 2, 3, 4, 8] rfl rfl (by decide) (by decide) (fun u96 H locs hw96 hP hD hS => ?_)
          have hP := hP.sub (ws' := [(x0, .inr (2, [.int (iI (n : Int)), .int (iI (w : Int)), .ref xq, .ref xr, .ref xl, .int (iI (rc : Int)), .ref xs, .int (iI (sc : Int)), .ref h0, .ref hn0, .ref xc])), (h0, .inr (0, [.ref aq, .ref ar, .ref ac, .ref ap, .int (iI ps), .int (iI (n : Int)), .int (iI (w : Int))])), (aq, .inl (cI, 16, .inl (iA q))), (ar, .inl (cI, 16, .inl (iA r))), (ac, .inl (cI, 256, .inl (iA u54))), (hn0, .inr (1, [.ref al, .ref ad, .int (iI ((min (nm + 1) wt : Nat) : Int)), .int (iI (wt : Int))])), (al, .inl (cI, 12, .inl (iA (insF P (scn D z54 (min nm (wt - 1))) (min nm (wt - 1)) pl)))), (ad, .inl (cI, 12, .inl (iA (insF D (scn D z54 (min nm (wt - 1))) (min nm (wt - 1)) z54)))), (xc, .inl (cI, 5, .inl (iA (zU T 3 ((T 3) + (1 : Int))))))]) [0, 1, 2, 3, 4, 6, 7, 8, 5] rfl
          have hD := hD.sub (ws' := [(x0, .inr (2, [.int (iI (n : Int)), .int (iI (w : Int)), .ref xq, .ref xr, .ref xl, .int (iI (rc : Int)), .ref xs, .int (iI (sc : Int)), .ref h0, .ref hn0, .ref xc])), (h0, .inr (0, [.ref aq, .ref ar, .ref ac, .ref ap, .int (iI ps), .int (iI (n : Int)), .int (iI (w : Int))])), (aq, .inl (cI, 16, .inl (iA q))), (ar, .inl (cI, 16, .inl (iA r))), (ac, .inl (cI, 256, .inl (iA u54))), (hn0, .inr (1, [.ref al, .ref ad, .int (iI ((min (nm + 1) wt : Nat) : Int)), .int (iI (wt : Int))])), (al, .inl (cI, 12, .inl (iA (insF P (scn D z54 (min nm (wt - 1))) (min nm (wt - 1)) pl)))), (ad, .inl (cI, 12, .inl (iA (insF D (scn D z54 (min nm (wt - 1))) (min nm (wt - 1)) z54)))), (xc, .inl (cI, 5, .inl (iA (zU T 3 ((T 3) + (1 : Int))))))]) [0, 1, 2, 3, 4, 6, 7, 8, 5] (by decide) rfl
          have hcc : z54 = cst w q r (n - 1) (n - 1) ∧ (lim ≠ -1 → ¬ givesUp n w q r lim) := by
            rcases r54 with h9 | h9
            · omega
            · exact h9
          have hm8 : nm ≠ wt := by omega
          rw [hcc.1] at hP hD
          subst hAe
          exact zw_retv (((min (nm + 1) wt, insF P (scn D (cst w q r (n - 1) (n - 1)) (min nm (wt - 1))) (min nm (wt - 1)) pl, insF D (scn D (cst w q r (n - 1) (n - 1)) (min nm (wt - 1))) (min nm (wt - 1)) (cst w q r (n - 1) (n - 1)), bmp T 3), u54)) hx hb hr hlocks hQ (⟨(wgh_4 (Or.inl hm8)).symm, hw54.1⟩) hP hK hD hS dX2_weigh_99
    · refine lv_aload_n hx hb dX2_weigh_65 rfl (lv_at hl 3 rfl) ?_
      refine va_get (D := (dC, dI)) (ci := 2) (v := .ref xc) (C := RX2) (T := TX2) (N := 11) hx hb hts in_X2 hown hK hP 0 rfl rfl 10 (by decide) fl_49 (fun _ h9 => h9) rfl dX2_weigh_66 ?_
      refine lv_iconst (v := iI (4 : Int)) hx hb dX2_weigh_69 (by decide) ?_
      refine lv_dup2_11 hx hb dX2_weigh_70 rfl rfl ?_
      refine z_iald hx hb hK hP 8 0 rfl rfl 4 (by omega) dX2_weigh_71 ?_
      refine lv_iconst (v := iI (1 : Int)) hx hb dX2_weigh_72 (by decide) ?_
      refine z_iadd hx hb dX2_weigh_73 ?_
      refine z_iast hx hb hK hP hD hS 8 0 rfl rfl 4 (by omega) dX2_weigh_74 (fun H locs hP hD hS => ?_)
      have hP : va_P (dC, dI) vwCl [(x0, .inr (2, [.int (iI (n : Int)), .int (iI (w : Int)), .ref xq, .ref xr, .ref xl, .int (iI (rc : Int)), .ref xs, .int (iI (sc : Int)), .ref h0, .ref hn0, .ref xc])), (h0, .inr (0, [.ref aq, .ref ar, .ref ac, .ref ap, .int (iI ps), .int (iI (n : Int)), .int (iI (w : Int))])), (aq, .inl (cI, 16, .inl (iA q))), (ar, .inl (cI, 16, .inl (iA r))), (ac, .inl (cI, 256, .inl (iA u54))), (hn0, .inr (1, [.ref al, .ref ad, .int (iI (nm : Int)), .int (iI (wt : Int))])), (al, .inl (cI, 12, .inl (iA P))), (ad, .inl (cI, 12, .inl (iA D))), (xc, .inl (cI, 5, .inl (iA (zU (zU T 3 ((T 3) + (1 : Int))) 4 (((zU T 3 ((T 3) + (1 : Int))) 4) + (1 : Int))))))] H := hP
      have hD : va_D A [(x0, .inr (2, [.int (iI (n : Int)), .int (iI (w : Int)), .ref xq, .ref xr, .ref xl, .int (iI (rc : Int)), .ref xs, .int (iI (sc : Int)), .ref h0, .ref hn0, .ref xc])), (h0, .inr (0, [.ref aq, .ref ar, .ref ac, .ref ap, .int (iI ps), .int (iI (n : Int)), .int (iI (w : Int))])), (aq, .inl (cI, 16, .inl (iA q))), (ar, .inl (cI, 16, .inl (iA r))), (ac, .inl (cI, 256, .inl (iA u54))), (hn0, .inr (1, [.ref al, .ref ad, .int (iI (nm : Int)), .int (iI (wt : Int))])), (al, .inl (cI, 12, .inl (iA P))), (ad, .inl (cI, 12, .inl (iA D))), (xc, .inl (cI, 5, .inl (iA (zU (zU T 3 ((T 3) + (1 : Int))) 4 (((zU T 3 ((T 3) + (1 : Int))) 4) + (1 : Int))))))] := hD
      refine lv_goto (tgt := 99) hx hb dX2_weigh_75 (by decide) ?_
      exfalso
      rcases r54 with h9 | h9 <;> omega
end
section
set_option maxRecDepth 100000 in
set_option maxHeartbeats 4000000 in
theorem c_within (l : Launch) (dC : Nat → ClassId) (dI : Nat → Nat → Nat) (cI : ClassId) (v lo hi : Int) (h1 : -2147483648 ≤ v ∧ v ≤ 2147483647) (h2 : -2147483648 ≤ lo ∧ lo ≤ 2147483647) (h3 : -2147483648 ≤ hi ∧ hi ≤ 2147483647) : Met l yX3_within wsX3_within ({ frames := 0, cells := 0, slots := 0, locals := 0 }) (rdP dC dI [(cI, .int)] [] [.int (iI v), .int (iI lo), .int (iI hi)]) (rdQ (fun z => (lo ≤ v ∧ v ≤ hi ∧ z = 1) ∨ ((v < lo ∨ hi < v) ∧ z = 0))) 0 0 (fun _ => False) := by
  refine Met.ofW (cc := cX3_within) (maxL := 3) (ret := (some .boolean)) (by decide) rfl ?_
  intro p e s m args below meth c s₁ B hml hv
  obtain ⟨rfl, hP, hK⟩ := hv
  have hx := B.exec
  have hb := B.bytes
  have hr := B.returns
  have hts : ∀ w ∈ wsX3_within, w.before _ s = true := atoms_spec (ws := wsX3_within) B.pre
  have hown : s.vm.findClass RX3 = some m.cls := findClass_of_methodNamed B.named
  have hlocks := B.notSynchronized
  have hl := lv_entry ([.int (iI v), .int (iI lo), .int (iI hi)]) (n := 3) (Nat.le_of_ble_eq_true rfl)
  rw [lg_entry_eq]
  generalize (lg_sl ([.int (iI v), .int (iI lo), .int (iI hi)]) ++ List.replicate (3 - (lg_sl ([.int (iI v), .int (iI lo), .int (iI hi)])).length) Slot.unset).toArray = ls at hl ⊢
  have hl : lv_has ls 3 [(0, .int (iI v)), (1, .int (iI lo)), (2, .int (iI hi))] := hl
  generalize hargs : ([.int (iI v), .int (iI lo), .int (iI hi)] : List Value).toArray = args at hts ⊢
  refine z_intro (fun R Q hR hQ => ?_)
  have hRf : R.frames = 0 := by rw [hR]; rfl
  have hRl : R.locals = 0 := by rw [hR]; rfl
  have hRc : R.cells = 0 := by rw [hR]; rfl
  have hRs : R.slots = 0 := by rw [hR]; rfl
  clear hR hargs B
  refine lv_iload_n hx hb dX3_within_0 rfl (lv_at hl 0 rfl) ?_
  refine lv_iload_n hx hb dX3_within_1 rfl (lv_at hl 1 rfl) ?_
  refine z_icmp_lt (tgt := 14) hx hb dX3_within_2 (by decide) (by omega) (fun h2 => ?_) (fun h2 => ?_)
  · refine lv_iconst (v := iI (0 : Int)) hx hb dX3_within_14 (by decide) ?_
    exact zr_retz (z := (0 : Int)) hx hb hr hlocks hQ (by omega) (by omega) dX3_within_15
  · refine lv_iload_n hx hb dX3_within_5 rfl (lv_at hl 0 rfl) ?_
    refine lv_iload_n hx hb dX3_within_6 rfl (lv_at hl 2 rfl) ?_
    refine z_icmp_gt (tgt := 14) hx hb dX3_within_7 (by decide) (by omega) (fun h7 => ?_) (fun h7 => ?_)
    · refine lv_iconst (v := iI (0 : Int)) hx hb dX3_within_14 (by decide) ?_
      exact zr_retz (z := (0 : Int)) hx hb hr hlocks hQ (by omega) (by omega) dX3_within_15
    · refine lv_iconst (v := iI (1 : Int)) hx hb dX3_within_10 (by decide) ?_
      refine lv_goto (tgt := 15) hx hb dX3_within_11 (by decide) ?_
      exact zr_retz (z := (1 : Int)) hx hb hr hlocks hQ (by omega) (by omega) dX3_within_15
set_option maxRecDepth 100000 in
set_option maxHeartbeats 4000000 in
theorem c_inBand (l : Launch) (dC : Nat → ClassId) (dI : Nat → Nat → Nat) (cI : ClassId) (m0 mq mn ml ms mr mg mp mpl mdi mc : Nat) (cd : Int) (n w rc sc mo fo : Nat) (i j : Int) (hn : 2 ≤ n ∧ n ≤ 16) (hw : w ≤ 15) (hi : -1 ≤ i ∧ i ≤ 16) (hj : -1 ≤ j ∧ j ≤ 16) : Met l yX3_inBand wsX3_inBand ({ frames := 1, cells := 0, slots := 0, locals := 22 }) (rdP dC dI [(cI, .int)] [(m0, .inr (3, [.int (iI cd), .int (iI (n : Int)), .int (iI (w : Int)), .ref mq, .int (iI (rc : Int)), .ref mn, .ref ml, .int (iI (sc : Int)), .ref ms, .ref mr, .ref mg, .ref mp, .int (iI (mo : Int)), .int (iI (fo : Int)), .ref mpl, .ref mdi, .ref mc]))] [.ref m0, .int (iI i), .int (iI j)]) (rdQ (fun z => (0 ≤ i ∧ i < (n : Int) ∧ 0 ≤ j ∧ j < (n : Int) ∧ i - j ≤ (w : Int) ∧ j - i ≤ (w : Int) ∧ z = 1) ∨ ((i < 0 ∨ (n : Int) ≤ i ∨ j < 0 ∨ (n : Int) ≤ j ∨ (w : Int) < i - j ∨ (w : Int) < j - i) ∧ z = 0))) 0 0 (fun _ => False) := by
  refine Met.ofW (cc := cX3_inBand) (maxL := 3) (ret := (some .boolean)) (by decide) rfl ?_
  intro p e s m args below meth c s₁ B hml hv
  obtain ⟨rfl, hP, hK⟩ := hv
  have hx := B.exec
  have hb := B.bytes
  have hr := B.returns
  have hts : ∀ w ∈ wsX3_inBand, w.before _ s = true := atoms_spec (ws := wsX3_inBand) B.pre
  have hown : s.vm.findClass RX3 = some m.cls := findClass_of_methodNamed B.named
  have hlocks := B.notSynchronized
  have hl := lv_entry ([.ref m0, .int (iI i), .int (iI j)]) (n := 3) (Nat.le_of_ble_eq_true rfl)
  rw [lg_entry_eq]
  generalize (lg_sl ([.ref m0, .int (iI i), .int (iI j)]) ++ List.replicate (3 - (lg_sl ([.ref m0, .int (iI i), .int (iI j)])).length) Slot.unset).toArray = ls at hl ⊢
  have hl : lv_has ls 3 [(0, .ref m0), (1, .int (iI i)), (2, .int (iI j))] := hl
  generalize hargs : ([.ref m0, .int (iI i), .int (iI j)] : List Value).toArray = args at hts ⊢
  refine z_intro (fun R Q hR hQ => ?_)
  have hRf : R.frames = 1 := by rw [hR]; rfl
  have hRl : R.locals = 22 := by rw [hR]; rfl
  have hRc : R.cells = 0 := by rw [hR]; rfl
  have hRs : R.slots = 0 := by rw [hR]; rfl
  have in_X3 : ∀ w ∈ u_ws RX3 TX3 17, w ∈ wsX3_inBand := fun w h => List.mem_cons_of_mem _ (inW_X3 w h)
  have fl_7 := wa_hts hts wd_485
  have fl_61 := wa_hts hts wd_486
  clear hR hargs B
  refine lv_iload_n hx hb dX3_inBand_0 rfl (lv_at hl 1 rfl) ?_
  refine lv_iconst (v := iI (0 : Int)) hx hb dX3_inBand_1 (by decide) ?_
  refine lv_aload_n hx hb dX3_inBand_2 rfl (lv_at hl 0 rfl) ?_
  refine va_get (D := (dC, dI)) (ci := 3) (v := .int (iI (n : Int))) (C := RX3) (T := TX3) (N := 17) hx hb hts in_X3 hown hK hP 0 rfl rfl 1 (by decide) fl_7 (fun _ h9 => h9) rfl dX3_inBand_3 ?_
  refine lv_iconst (v := iI (1 : Int)) hx hb dX3_inBand_6 (by decide) ?_
  refine z_isub hx hb dX3_inBand_7 ?_
  refine zr_i (va_runS (As := [.int (iI i), .int (iI (0 : Int)), .int (iI ((n : Int) - (1 : Int)))]) (rest := []) ⟨hx, hb, hml, hown, hts⟩ (c_within l dC dI cI i (0 : Int) ((n : Int) - (1 : Int)) (by omega) (by omega) (by omega)) (cwS 3 hts (ga_S wd_544 wd_545 wd_31 wd_546) rfl rfl rfl (by decide +kernel) ⟨(show 0 + 1 ≤ R.frames by omega), (show 8 + (3 + 11) + 0 ≤ R.locals by omega)⟩) (rd_preS hP hK [] rfl) rfl rfl hl.1 rfl (lv_room (Nat.le_of_ble_eq_true rfl)) dX3_inBand_8 ⟨by omega, by omega⟩) (fun z8 hz8 => ?_)
  refine z_if_eq (tgt := 50) hx hb dX3_inBand_11 (by decide) (by omega) (fun h11 => ?_) (fun h11 => ?_)
  · refine lv_iconst (v := iI (0 : Int)) hx hb dX3_inBand_50 (by decide) ?_
    exact zr_retz (z := (0 : Int)) hx hb hr hlocks hQ (by omega) (by omega) dX3_inBand_51
  · refine lv_iload_n hx hb dX3_inBand_14 rfl (lv_at hl 2 rfl) ?_
    refine lv_iconst (v := iI (0 : Int)) hx hb dX3_inBand_15 (by decide) ?_
    refine lv_aload_n hx hb dX3_inBand_16 rfl (lv_at hl 0 rfl) ?_
    refine va_get (D := (dC, dI)) (ci := 3) (v := .int (iI (n : Int))) (C := RX3) (T := TX3) (N := 17) hx hb hts in_X3 hown hK hP 0 rfl rfl 1 (by decide) fl_7 (fun _ h9 => h9) rfl dX3_inBand_17 ?_
    refine lv_iconst (v := iI (1 : Int)) hx hb dX3_inBand_20 (by decide) ?_
    refine z_isub hx hb dX3_inBand_21 ?_
    refine zr_i (va_runS (As := [.int (iI j), .int (iI (0 : Int)), .int (iI ((n : Int) - (1 : Int)))]) (rest := []) ⟨hx, hb, hml, hown, hts⟩ (c_within l dC dI cI j (0 : Int) ((n : Int) - (1 : Int)) (by omega) (by omega) (by omega)) (cwS 3 hts (ga_S wd_544 wd_545 wd_31 wd_546) rfl rfl rfl (by decide +kernel) ⟨(show 0 + 1 ≤ R.frames by omega), (show 8 + (3 + 11) + 0 ≤ R.locals by omega)⟩) (rd_preS hP hK [] rfl) rfl rfl hl.1 rfl (lv_room (Nat.le_of_ble_eq_true rfl)) dX3_inBand_22 ⟨by omega, by omega⟩) (fun z22 hz22 => ?_)
    refine z_if_eq (tgt := 50) hx hb dX3_inBand_25 (by decide) (by omega) (fun h25 => ?_) (fun h25 => ?_)
    · refine lv_iconst (v := iI (0 : Int)) hx hb dX3_inBand_50 (by decide) ?_
      exact zr_retz (z := (0 : Int)) hx hb hr hlocks hQ (by omega) (by omega) dX3_inBand_51
    · refine lv_iload_n hx hb dX3_inBand_28 rfl (lv_at hl 1 rfl) ?_
      refine lv_iload_n hx hb dX3_inBand_29 rfl (lv_at hl 2 rfl) ?_
      refine z_isub hx hb dX3_inBand_30 ?_
      refine lv_aload_n hx hb dX3_inBand_31 rfl (lv_at hl 0 rfl) ?_
      refine va_get (D := (dC, dI)) (ci := 3) (v := .int (iI (w : Int))) (C := RX3) (T := TX3) (N := 17) hx hb hts in_X3 hown hK hP 0 rfl rfl 2 (by decide) fl_61 (fun _ h9 => h9) rfl dX3_inBand_32 ?_
      refine z_ineg hx hb dX3_inBand_35 ?_
      refine lv_aload_n hx hb dX3_inBand_36 rfl (lv_at hl 0 rfl) ?_
      refine va_get (D := (dC, dI)) (ci := 3) (v := .int (iI (w : Int))) (C := RX3) (T := TX3) (N := 17) hx hb hts in_X3 hown hK hP 0 rfl rfl 2 (by decide) fl_61 (fun _ h9 => h9) rfl dX3_inBand_37 ?_
      refine zr_i (va_runS (As := [.int (iI (i - j)), .int (iI (-(w : Int))), .int (iI (w : Int))]) (rest := []) ⟨hx, hb, hml, hown, hts⟩ (c_within l dC dI cI (i - j) (-(w : Int)) (w : Int) (by omega) (by omega) (by omega)) (cwS 3 hts (ga_S wd_544 wd_545 wd_31 wd_546) rfl rfl rfl (by decide +kernel) ⟨(show 0 + 1 ≤ R.frames by omega), (show 8 + (3 + 11) + 0 ≤ R.locals by omega)⟩) (rd_preS hP hK [] rfl) rfl rfl hl.1 rfl (lv_room (Nat.le_of_ble_eq_true rfl)) dX3_inBand_40 ⟨by omega, by omega⟩) (fun z40 hz40 => ?_)
      refine z_if_eq (tgt := 50) hx hb dX3_inBand_43 (by decide) (by omega) (fun h43 => ?_) (fun h43 => ?_)
      · refine lv_iconst (v := iI (0 : Int)) hx hb dX3_inBand_50 (by decide) ?_
        exact zr_retz (z := (0 : Int)) hx hb hr hlocks hQ (by omega) (by omega) dX3_inBand_51
      · refine lv_iconst (v := iI (1 : Int)) hx hb dX3_inBand_46 (by decide) ?_
        refine lv_goto (tgt := 51) hx hb dX3_inBand_47 (by decide) ?_
        exact zr_retz (z := (1 : Int)) hx hb hr hlocks hQ (by omega) (by omega) dX3_inBand_51
set_option maxRecDepth 100000 in
set_option maxHeartbeats 4000000 in
theorem c_mCostAt (l : Launch) (dC : Nat → ClassId) (dI : Nat → Nat → Nat) (cI : ClassId) (m0 mq mn ml ms mr mg mp mpl mdi mc : Nat) (cd : Int) (n w rc sc mo fo : Nat) (G : Nat → Int) (i j : Int) (hn : 2 ≤ n ∧ n ≤ 16) (hw : w ≤ 15) (hi : -1 ≤ i ∧ i ≤ 16) (hj : -1 ≤ j ∧ j ≤ 16) : Met l yX3_costAt wsX3_costAt ({ frames := 2, cells := 0, slots := 0, locals := 44 }) (rdP dC dI [(cI, .int)] [(m0, .inr (3, [.int (iI cd), .int (iI (n : Int)), .int (iI (w : Int)), .ref mq, .int (iI (rc : Int)), .ref mn, .ref ml, .int (iI (sc : Int)), .ref ms, .ref mr, .ref mg, .ref mp, .int (iI (mo : Int)), .int (iI (fo : Int)), .ref mpl, .ref mdi, .ref mc])), (mg, .inl (cI, 256, .inl (iA G)))] [.ref m0, .int (iI i), .int (iI j)]) (rdQ (fun z => z = mAt n w G i j)) 0 0 (fun _ => False) := by
  refine Met.ofW (cc := cX3_costAt) (maxL := 3) (ret := (some .int)) (by decide) rfl ?_
  intro p e s m args below meth c s₁ B hml hv
  obtain ⟨rfl, hP, hK⟩ := hv
  have hx := B.exec
  have hb := B.bytes
  have hr := B.returns
  have hts : ∀ w ∈ wsX3_costAt, w.before _ s = true := atoms_spec (ws := wsX3_costAt) B.pre
  have hown : s.vm.findClass RX3 = some m.cls := findClass_of_methodNamed B.named
  have hlocks := B.notSynchronized
  have hl := lv_entry ([.ref m0, .int (iI i), .int (iI j)]) (n := 3) (Nat.le_of_ble_eq_true rfl)
  rw [lg_entry_eq]
  generalize (lg_sl ([.ref m0, .int (iI i), .int (iI j)]) ++ List.replicate (3 - (lg_sl ([.ref m0, .int (iI i), .int (iI j)])).length) Slot.unset).toArray = ls at hl ⊢
  have hl : lv_has ls 3 [(0, .ref m0), (1, .int (iI i)), (2, .int (iI j))] := hl
  generalize hargs : ([.ref m0, .int (iI i), .int (iI j)] : List Value).toArray = args at hts ⊢
  refine z_intro (fun R Q hR hQ => ?_)
  have hRf : R.frames = 2 := by rw [hR]; rfl
  have hRl : R.locals = 44 := by rw [hR]; rfl
  have hRc : R.cells = 0 := by rw [hR]; rfl
  have hRs : R.slots = 0 := by rw [hR]; rfl
  have in_X3 : ∀ w ∈ u_ws RX3 TX3 17, w ∈ wsX3_costAt := fun w h => List.mem_cons_of_mem _ (inW_X3 w h)
  have fl_29 := wa_hts hts wd_494
  clear hR hargs B
  refine lv_aload_n hx hb dX3_costAt_0 rfl (lv_at hl 0 rfl) ?_
  refine lv_iload_n hx hb dX3_costAt_1 rfl (lv_at hl 1 rfl) ?_
  refine lv_iload_n hx hb dX3_costAt_2 rfl (lv_at hl 2 rfl) ?_
  refine zr_i (va_runV (As := [.int (iI i), .int (iI j)]) (rest := []) ⟨hx, hb, hml, hown, hts⟩ (c_inBand l dC dI cI m0 mq mn ml ms mr mg mp mpl mdi mc cd n w rc sc mo fo i j hn hw (by omega) (by omega)) (cwV 2 hts (ga_V wd_579 wd_581 wd_17 wd_31 wd_582) rfl rfl rfl (by decide +kernel) ⟨(show 1 + 1 ≤ R.frames by omega), (show 8 + (3 + 11) + 22 ≤ R.locals by omega)⟩) (rd_preV (q0 := 0) (ci := 3) hP hK [0] rfl rfl rfl) rfl rfl hl.1 rfl (lv_room (Nat.le_of_ble_eq_true rfl)) dX3_costAt_3 ⟨by omega, by omega⟩) (fun z3 hz3 => ?_)
  refine z_if_eq (tgt := 23) hx hb dX3_costAt_6 (by decide) (by omega) (fun h6 => ?_) (fun h6 => ?_)
  · refine lv_iconst (v := iI (-1 : Int)) hx hb dX3_costAt_23 (by decide) ?_
    exact zr_ret (z := (-1 : Int)) hx hb hr hlocks hQ (by unfold mAt; rw [if_neg (by omega)]) dX3_costAt_24
  · refine lv_aload_n hx hb dX3_costAt_9 rfl (lv_at hl 0 rfl) ?_
    refine va_get (D := (dC, dI)) (ci := 3) (v := .ref mg) (C := RX3) (T := TX3) (N := 17) hx hb hts in_X3 hown hK hP 0 rfl rfl 10 (by decide) fl_29 (fun _ h9 => h9) rfl dX3_costAt_10 ?_
    refine lv_bipush (v := iI (16 : Int)) hx hb dX3_costAt_13 (by decide) ?_
    refine lv_iload_n hx hb dX3_costAt_15 rfl (lv_at hl 1 rfl) ?_
    refine z_imul hx hb dX3_costAt_16 ?_
    refine lv_iload_n hx hb dX3_costAt_17 rfl (lv_at hl 2 rfl) ?_
    refine z_iadd hx hb dX3_costAt_18 ?_
    refine z_iald hx hb hK hP 1 0 rfl rfl ((16 * i + j).toNat) (by omega) dX3_costAt_19 ?_
    refine lv_goto (tgt := 24) hx hb dX3_costAt_20 (by decide) ?_
    exact zr_ret (z := G ((16 * i + j).toNat)) hx hb hr hlocks hQ (by unfold mAt; rw [if_pos (by omega)]) dX3_costAt_24
set_option maxRecDepth 100000 in
set_option maxHeartbeats 4000000 in
theorem c_lesser (l : Launch) (dC : Nat → ClassId) (dI : Nat → Nat → Nat) (cI : ClassId) (v b9 : Int) (h1 : -2147483648 ≤ v ∧ v ≤ 2147483647) (h2 : -2147483648 ≤ b9 ∧ b9 ≤ 2147483647) : Met l yX3_lesser wsX3_lesser ({ frames := 0, cells := 0, slots := 0, locals := 0 }) (rdP dC dI [(cI, .int)] [] [.int (iI v), .int (iI b9)]) (rdQ (fun z => z = lsr v b9)) 0 0 (fun _ => False) := by
  refine Met.ofW (cc := cX3_lesser) (maxL := 2) (ret := (some .int)) (by decide) rfl ?_
  intro p e s m args below meth c s₁ B hml hv
  obtain ⟨rfl, hP, hK⟩ := hv
  have hx := B.exec
  have hb := B.bytes
  have hr := B.returns
  have hts : ∀ w ∈ wsX3_lesser, w.before _ s = true := atoms_spec (ws := wsX3_lesser) B.pre
  have hown : s.vm.findClass RX3 = some m.cls := findClass_of_methodNamed B.named
  have hlocks := B.notSynchronized
  have hl := lv_entry ([.int (iI v), .int (iI b9)]) (n := 2) (Nat.le_of_ble_eq_true rfl)
  rw [lg_entry_eq]
  generalize (lg_sl ([.int (iI v), .int (iI b9)]) ++ List.replicate (2 - (lg_sl ([.int (iI v), .int (iI b9)])).length) Slot.unset).toArray = ls at hl ⊢
  have hl : lv_has ls 2 [(0, .int (iI v)), (1, .int (iI b9))] := hl
  generalize hargs : ([.int (iI v), .int (iI b9)] : List Value).toArray = args at hts ⊢
  refine z_intro (fun R Q hR hQ => ?_)
  have hRf : R.frames = 0 := by rw [hR]; rfl
  have hRl : R.locals = 0 := by rw [hR]; rfl
  have hRc : R.cells = 0 := by rw [hR]; rfl
  have hRs : R.slots = 0 := by rw [hR]; rfl
  clear hR hargs B
  refine lv_iload_n hx hb dX3_lesser_0 rfl (lv_at hl 0 rfl) ?_
  refine z_if_ge (tgt := 8) hx hb dX3_lesser_1 (by decide) (by omega) (fun h1 => ?_) (fun h1 => ?_)
  · refine lv_iload_n hx hb dX3_lesser_8 rfl (lv_at hl 1 rfl) ?_
    refine z_if_lt (tgt := 17) hx hb dX3_lesser_9 (by decide) (by omega) (fun h9 => ?_) (fun h9 => ?_)
    · refine lv_iload_n hx hb dX3_lesser_17 rfl (lv_at hl 0 rfl) ?_
      refine lv_goto (tgt := 22) hx hb dX3_lesser_18 (by decide) ?_
      exact zr_ret (z := v) hx hb hr hlocks hQ (by unfold lsr; split <;> first | omega | (split <;> omega)) dX3_lesser_22
    · refine lv_iload_n hx hb dX3_lesser_12 rfl (lv_at hl 0 rfl) ?_
      refine lv_iload_n hx hb dX3_lesser_13 rfl (lv_at hl 1 rfl) ?_
      refine z_icmp_ge (tgt := 21) hx hb dX3_lesser_14 (by decide) (by omega) (fun h14 => ?_) (fun h14 => ?_)
      · refine lv_iload_n hx hb dX3_lesser_21 rfl (lv_at hl 1 rfl) ?_
        exact zr_ret (z := b9) hx hb hr hlocks hQ (by unfold lsr; split <;> first | omega | (split <;> omega)) dX3_lesser_22
      · refine lv_iload_n hx hb dX3_lesser_17 rfl (lv_at hl 0 rfl) ?_
        refine lv_goto (tgt := 22) hx hb dX3_lesser_18 (by decide) ?_
        exact zr_ret (z := v) hx hb hr hlocks hQ (by unfold lsr; split <;> first | omega | (split <;> omega)) dX3_lesser_22
  · refine lv_iload_n hx hb dX3_lesser_4 rfl (lv_at hl 1 rfl) ?_
    refine lv_goto (tgt := 22) hx hb dX3_lesser_5 (by decide) ?_
    exact zr_ret (z := b9) hx hb hr hlocks hQ (by unfold lsr; split <;> first | omega | (split <;> omega)) dX3_lesser_22
set_option maxRecDepth 100000 in
set_option maxHeartbeats 4000000 in
theorem c_thrown (l : Launch) (dC : Nat → ClassId) (dI : Nat → Nat → Nat) (cI : ClassId) (m0 mq mn ml ms mr mg mp mpl mdi mc : Nat) (cd : Int) (n w rc sc mo fo : Nat)  : Met l yX3_thrown wsX3_thrown ({ frames := 0, cells := 0, slots := 0, locals := 0 }) (rdP dC dI [(cI, .int)] [(m0, .inr (3, [.int (iI cd), .int (iI (n : Int)), .int (iI (w : Int)), .ref mq, .int (iI (rc : Int)), .ref mn, .ref ml, .int (iI (sc : Int)), .ref ms, .ref mr, .ref mg, .ref mp, .int (iI (mo : Int)), .int (iI (fo : Int)), .ref mpl, .ref mdi, .ref mc]))] [.ref m0]) (rdQ (fun z => z = cd)) 0 0 (fun _ => False) := by
  refine Met.ofW (cc := cX3_thrown) (maxL := 1) (ret := (some .int)) (by decide) rfl ?_
  intro p e s m args below meth c s₁ B hml hv
  obtain ⟨rfl, hP, hK⟩ := hv
  have hx := B.exec
  have hb := B.bytes
  have hr := B.returns
  have hts : ∀ w ∈ wsX3_thrown, w.before _ s = true := atoms_spec (ws := wsX3_thrown) B.pre
  have hown : s.vm.findClass RX3 = some m.cls := findClass_of_methodNamed B.named
  have hlocks := B.notSynchronized
  have hl := lv_entry ([.ref m0]) (n := 1) (Nat.le_of_ble_eq_true rfl)
  rw [lg_entry_eq]
  generalize (lg_sl ([.ref m0]) ++ List.replicate (1 - (lg_sl ([.ref m0])).length) Slot.unset).toArray = ls at hl ⊢
  have hl : lv_has ls 1 [(0, .ref m0)] := hl
  generalize hargs : ([.ref m0] : List Value).toArray = args at hts ⊢
  refine z_intro (fun R Q hR hQ => ?_)
  have hRf : R.frames = 0 := by rw [hR]; rfl
  have hRl : R.locals = 0 := by rw [hR]; rfl
  have hRc : R.cells = 0 := by rw [hR]; rfl
  have hRs : R.slots = 0 := by rw [hR]; rfl
  have in_X3 : ∀ w ∈ u_ws RX3 TX3 17, w ∈ wsX3_thrown := fun w h => List.mem_cons_of_mem _ (inW_X3 w h)
  have fl_44 := wa_hts hts wd_484
  clear hR hargs B
  refine lv_aload_n hx hb dX3_thrown_0 rfl (lv_at hl 0 rfl) ?_
  refine va_get (D := (dC, dI)) (ci := 3) (v := .int (iI cd)) (C := RX3) (T := TX3) (N := 17) hx hb hts in_X3 hown hK hP 0 rfl rfl 0 (by decide) fl_44 (fun _ h9 => h9) rfl dX3_thrown_1 ?_
  exact zr_ret (z := cd) hx hb hr hlocks hQ (rfl) dX3_thrown_4
set_option maxRecDepth 100000 in
set_option maxHeartbeats 4000000 in
theorem c_takeRow (l : Launch) (dC : Nat → ClassId) (dI : Nat → Nat → Nat) (cI : ClassId) (m0 mq mn ml ms mr mg mp mpl mdi mc : Nat) (cd : Int) (n w rc sc mo fo : Nat) (r9 : Nat) (R0 X : Nat → Int) (sz : Nat) (hn : 2 ≤ n ∧ n ≤ 16) (hw : w ≤ 15) (hr9 : r9 < 12) : Met l yX3_takeRow wsX3_takeRow ({ frames := 0, cells := 0, slots := 0, locals := 0 }) (wrP dC dI [(cI, .int)] [(m0, .inr (3, [.int (iI cd), .int (iI (n : Int)), .int (iI (w : Int)), .ref mq, .int (iI (rc : Int)), .ref mn, .ref ml, .int (iI (sc : Int)), .ref ms, .ref mr, .ref mg, .ref mp, .int (iI (mo : Int)), .int (iI (fo : Int)), .ref mpl, .ref mdi, .ref mc])), (mr, .inl (cI, 16, .inl (iA R0))), (mn, .inl (cI, 192, .inl (iA X)))] sz [.ref m0, .int (iI (r9 : Int))]) (wrQv dC dI [(cI, .int)] [(m0, .inr (3, [.int (iI cd), .int (iI (n : Int)), .int (iI (w : Int)), .ref mq, .int (iI (rc : Int)), .ref mn, .ref ml, .int (iI (sc : Int)), .ref ms, .ref mr, .ref mg, .ref mp, .int (iI (mo : Int)), .int (iI (fo : Int)), .ref mpl, .ref mdi, .ref mc])), (mr, .inl (cI, 16, .inl (iA R0))), (mn, .inl (cI, 192, .inl (iA X)))] sz (S := Unit) (fun _ => True) (fun _ => [(m0, .inr (3, [.int (iI cd), .int (iI (n : Int)), .int (iI (w : Int)), .ref mq, .int (iI (rc : Int)), .ref mn, .ref ml, .int (iI (sc : Int)), .ref ms, .ref mr, .ref mg, .ref mp, .int (iI (mo : Int)), .int (iI (fo : Int)), .ref mpl, .ref mdi, .ref mc])), (mr, .inl (cI, 16, .inl (iA (zC X R0 (16 * r9) 0 n)))), (mn, .inl (cI, 192, .inl (iA X)))])) 0 0 (va_A [(m0, .inr (3, [.int (iI cd), .int (iI (n : Int)), .int (iI (w : Int)), .ref mq, .int (iI (rc : Int)), .ref mn, .ref ml, .int (iI (sc : Int)), .ref ms, .ref mr, .ref mg, .ref mp, .int (iI (mo : Int)), .int (iI (fo : Int)), .ref mpl, .ref mdi, .ref mc])), (mr, .inl (cI, 16, .inl (iA R0))), (mn, .inl (cI, 192, .inl (iA X)))] sz) := by
  refine Met.ofW (cc := cX3_takeRow) (maxL := 3) (ret := none) (by decide) rfl ?_
  intro p e s m args below meth c s₁ B hml hv
  obtain ⟨rfl, hsz, hP, hK, hD0⟩ := hv
  have hx := B.exec
  have hb := B.bytes
  have hr := B.returns
  have hts : ∀ w ∈ wsX3_takeRow, w.before _ s = true := atoms_spec (ws := wsX3_takeRow) B.pre
  have hown : s.vm.findClass RX3 = some m.cls := findClass_of_methodNamed B.named
  have hlocks := B.notSynchronized
  subst hsz
  have hD := hD0.self (sz := s.heap.size)
  have hA : ∀ q9 : Nat, s.heap.size ≤ q9 → va_A [(m0, .inr (3, [.int (iI cd), .int (iI (n : Int)), .int (iI (w : Int)), .ref mq, .int (iI (rc : Int)), .ref mn, .ref ml, .int (iI (sc : Int)), .ref ms, .ref mr, .ref mg, .ref mp, .int (iI (mo : Int)), .int (iI (fo : Int)), .ref mpl, .ref mdi, .ref mc])), (mr, .inl (cI, 16, .inl (iA R0))), (mn, .inl (cI, 192, .inl (iA X)))] s.heap.size q9 := fun q9 h => Or.inr h
  have hS : va_S (va_A [(m0, .inr (3, [.int (iI cd), .int (iI (n : Int)), .int (iI (w : Int)), .ref mq, .int (iI (rc : Int)), .ref mn, .ref ml, .int (iI (sc : Int)), .ref ms, .ref mr, .ref mg, .ref mp, .int (iI (mo : Int)), .int (iI (fo : Int)), .ref mpl, .ref mdi, .ref mc])), (mr, .inl (cI, 16, .inl (iA R0))), (mn, .inl (cI, 192, .inl (iA X)))] s.heap.size) s.heap s.heap [] := va_S.rf
  generalize hAe : va_A [(m0, .inr (3, [.int (iI cd), .int (iI (n : Int)), .int (iI (w : Int)), .ref mq, .int (iI (rc : Int)), .ref mn, .ref ml, .int (iI (sc : Int)), .ref ms, .ref mr, .ref mg, .ref mp, .int (iI (mo : Int)), .int (iI (fo : Int)), .ref mpl, .ref mdi, .ref mc])), (mr, .inl (cI, 16, .inl (iA R0))), (mn, .inl (cI, 192, .inl (iA X)))] s.heap.size = A at hD hA hS
  have hP : va_P (dC, dI) vwCl [(m0, .inr (3, [.int (iI cd), .int (iI (n : Int)), .int (iI (w : Int)), .ref mq, .int (iI (rc : Int)), .ref mn, .ref ml, .int (iI (sc : Int)), .ref ms, .ref mr, .ref mg, .ref mp, .int (iI (mo : Int)), .int (iI (fo : Int)), .ref mpl, .ref mdi, .ref mc])), (mr, .inl (cI, 16, .inl (iA R0))), (mn, .inl (cI, 192, .inl (iA X)))] s.heap := hP
  have hl := lv_entry ([.ref m0, .int (iI (r9 : Int))]) (n := 3) (Nat.le_of_ble_eq_true rfl)
  rw [lg_entry_eq]
  generalize (lg_sl ([.ref m0, .int (iI (r9 : Int))]) ++ List.replicate (3 - (lg_sl ([.ref m0, .int (iI (r9 : Int))])).length) Slot.unset).toArray = ls at hl ⊢
  have hl : lv_has ls 3 [(0, .ref m0), (1, .int (iI (r9 : Int)))] := hl
  generalize hargs : ([.ref m0, .int (iI (r9 : Int))] : List Value).toArray = args at hts ⊢
  refine z_intro (fun R Q hR hQ => ?_)
  have hRf : R.frames = 0 := by rw [hR]; rfl
  have hRl : R.locals = 0 := by rw [hR]; rfl
  have hRc : R.cells = 0 := by rw [hR]; rfl
  have hRs : R.slots = 0 := by rw [hR]; rfl
  have in_X3 : ∀ w ∈ u_ws RX3 TX3 17, w ∈ wsX3_takeRow := fun w h => List.mem_cons_of_mem _ (inW_X3 w h)
  have fl_7 := wa_hts hts wd_485
  have fl_17 := wa_hts hts wd_489
  have fl_26 := wa_hts hts wd_493
  clear hR hargs B
  refine lv_iconst (v := iI (0 : Int)) hx hb dX3_takeRow_0 (by decide) ?_
  refine lv_istore_n (lv' := [(2, .int (iI (0 : Int))), (0, .ref m0), (1, .int (iI (r9 : Int)))]) hx hb dX3_takeRow_1 rfl hl (by decide) rfl (fun ls hl => ?_)
  have lp : ∀ (k9 : Nat) (i : Nat) (R9 : Nat → Int) (H : Heap) (locs : List Loc) (ls : Array Slot), (i ≤ n) → (R9 = zC X R0 (16 * r9) 0 i) → n - i = k9 → va_P (dC, dI) vwCl [(m0, .inr (3, [.int (iI cd), .int (iI (n : Int)), .int (iI (w : Int)), .ref mq, .int (iI (rc : Int)), .ref mn, .ref ml, .int (iI (sc : Int)), .ref ms, .ref mr, .ref mg, .ref mp, .int (iI (mo : Int)), .int (iI (fo : Int)), .ref mpl, .ref mdi, .ref mc])), (mr, .inl (cI, 16, .inl (iA R9))), (mn, .inl (cI, 192, .inl (iA X)))] H → va_D A [(m0, .inr (3, [.int (iI cd), .int (iI (n : Int)), .int (iI (w : Int)), .ref mq, .int (iI (rc : Int)), .ref mn, .ref ml, .int (iI (sc : Int)), .ref ms, .ref mr, .ref mg, .ref mp, .int (iI (mo : Int)), .int (iI (fo : Int)), .ref mpl, .ref mdi, .ref mc])), (mr, .inl (cI, 16, .inl (iA R9))), (mn, .inl (cI, 192, .inl (iA X)))] → va_S A s.heap H locs → lv_has ls 3 [(0, .ref m0), (1, .int (iI (r9 : Int))), (2, .int (iI (i : Int)))] → W p l e R s m args below meth c H locs 0 0 Q (F0 m 2 ls []) := by
    intro k9
    induction k9 using Nat.strongRecOn with
    | ind k9 ih_lp =>
      intro i R9 H locs ls hi hR9 hk9 hP hD hS hl
      refine lv_iload_n hx hb dX3_takeRow_2 rfl (lv_at hl 2 rfl) ?_
      refine lv_aload_n hx hb dX3_takeRow_3 rfl (lv_at hl 0 rfl) ?_
      refine va_get (D := (dC, dI)) (ci := 3) (v := .int (iI (n : Int))) (C := RX3) (T := TX3) (N := 17) hx hb hts in_X3 hown hK hP 0 rfl rfl 1 (by decide) fl_7 (fun _ h9 => h9) rfl dX3_takeRow_4 ?_
      refine z_icmp_ge (tgt := 33) hx hb dX3_takeRow_7 (by decide) (by omega) (fun h7 => ?_) (fun h7 => ?_)
      · have ein : i = n := by omega
        rw [hR9, ein] at hP hD
        subst hAe
        exact zw_retv (()) hx hb hr hlocks hQ (trivial) hP hK hD hS dX3_takeRow_33
      · refine lv_aload_n hx hb dX3_takeRow_10 rfl (lv_at hl 0 rfl) ?_
        refine va_get (D := (dC, dI)) (ci := 3) (v := .ref mr) (C := RX3) (T := TX3) (N := 17) hx hb hts in_X3 hown hK hP 0 rfl rfl 9 (by decide) fl_26 (fun _ h9 => h9) rfl dX3_takeRow_11 ?_
        refine lv_iload_n hx hb dX3_takeRow_14 rfl (lv_at hl 2 rfl) ?_
        refine lv_aload_n hx hb dX3_takeRow_15 rfl (lv_at hl 0 rfl) ?_
        refine va_get (D := (dC, dI)) (ci := 3) (v := .ref mn) (C := RX3) (T := TX3) (N := 17) hx hb hts in_X3 hown hK hP 0 rfl rfl 5 (by decide) fl_17 (fun _ h9 => h9) rfl dX3_takeRow_16 ?_
        refine lv_bipush (v := iI (16 : Int)) hx hb dX3_takeRow_19 (by decide) ?_
        refine lv_iload_n hx hb dX3_takeRow_21 rfl (lv_at hl 1 rfl) ?_
        refine z_imul hx hb dX3_takeRow_22 ?_
        refine lv_iload_n hx hb dX3_takeRow_23 rfl (lv_at hl 2 rfl) ?_
        refine z_iadd hx hb dX3_takeRow_24 ?_
        refine z_iald hx hb hK hP 2 0 rfl rfl ((16 * r9) + i) (by omega) dX3_takeRow_25 ?_
        refine z_iast hx hb hK hP hD hS 1 0 rfl rfl i (by omega) dX3_takeRow_26 (fun H locs hP hD hS => ?_)
        have hP : va_P (dC, dI) vwCl [(m0, .inr (3, [.int (iI cd), .int (iI (n : Int)), .int (iI (w : Int)), .ref mq, .int (iI (rc : Int)), .ref mn, .ref ml, .int (iI (sc : Int)), .ref ms, .ref mr, .ref mg, .ref mp, .int (iI (mo : Int)), .int (iI (fo : Int)), .ref mpl, .ref mdi, .ref mc])), (mr, .inl (cI, 16, .inl (iA (zU R9 i (X ((16 * r9) + i)))))), (mn, .inl (cI, 192, .inl (iA X)))] H := hP
        have hD : va_D A [(m0, .inr (3, [.int (iI cd), .int (iI (n : Int)), .int (iI (w : Int)), .ref mq, .int (iI (rc : Int)), .ref mn, .ref ml, .int (iI (sc : Int)), .ref ms, .ref mr, .ref mg, .ref mp, .int (iI (mo : Int)), .int (iI (fo : Int)), .ref mpl, .ref mdi, .ref mc])), (mr, .inl (cI, 16, .inl (iA (zU R9 i (X ((16 * r9) + i)))))), (mn, .inl (cI, 192, .inl (iA X)))] := hD
        refine z_iinc (k := 2) (b := ((i + 1 : Nat) : Int)) (lv' := [(2, .int (iI ((i + 1 : Nat) : Int))), (0, .ref m0), (1, .int (iI (r9 : Int)))]) hx hb dX3_takeRow_27 hl rfl (by omega) (by decide) rfl (fun ls hl => ?_)
        refine lv_goto (tgt := 2) hx hb dX3_takeRow_30 (by decide) ?_
        exact ih_lp _ (by omega) (i + 1) (zU R9 i (X (16 * r9 + i))) H locs ls (by omega) (by rw [hR9]; exact zC_step0) rfl hP hD hS (lv_sub hl [1, 2, 0] rfl)
  exact lp _ 0 R0 _ _ ls (by omega) ((zC_0 _ _ _ _).symm) rfl hP hD hS (lv_sub hl [1, 2, 0] rfl)
set_option maxRecDepth 100000 in
set_option maxHeartbeats 4000000 in
theorem c_takeWindow (l : Launch) (dC : Nat → ClassId) (dI : Nat → Nat → Nat) (cI : ClassId) (m0 mq mn ml ms mr mg mp mpl mdi mc : Nat) (cd : Int) (n w rc sc mo fo : Nat) (r9 : Nat) (R0 X : Nat → Int) (sz : Nat) (hn : 2 ≤ n ∧ n ≤ 16) (hw : w ≤ 15) (hr9 : r9 + n ≤ 64) : Met l yX3_takeWindow wsX3_takeWindow ({ frames := 0, cells := 0, slots := 0, locals := 0 }) (wrP dC dI [(cI, .int)] [(m0, .inr (3, [.int (iI cd), .int (iI (n : Int)), .int (iI (w : Int)), .ref mq, .int (iI (rc : Int)), .ref mn, .ref ml, .int (iI (sc : Int)), .ref ms, .ref mr, .ref mg, .ref mp, .int (iI (mo : Int)), .int (iI (fo : Int)), .ref mpl, .ref mdi, .ref mc])), (mr, .inl (cI, 16, .inl (iA R0))), (ms, .inl (cI, 64, .inl (iA X)))] sz [.ref m0, .int (iI (r9 : Int))]) (wrQv dC dI [(cI, .int)] [(m0, .inr (3, [.int (iI cd), .int (iI (n : Int)), .int (iI (w : Int)), .ref mq, .int (iI (rc : Int)), .ref mn, .ref ml, .int (iI (sc : Int)), .ref ms, .ref mr, .ref mg, .ref mp, .int (iI (mo : Int)), .int (iI (fo : Int)), .ref mpl, .ref mdi, .ref mc])), (mr, .inl (cI, 16, .inl (iA R0))), (ms, .inl (cI, 64, .inl (iA X)))] sz (S := Unit) (fun _ => True) (fun _ => [(m0, .inr (3, [.int (iI cd), .int (iI (n : Int)), .int (iI (w : Int)), .ref mq, .int (iI (rc : Int)), .ref mn, .ref ml, .int (iI (sc : Int)), .ref ms, .ref mr, .ref mg, .ref mp, .int (iI (mo : Int)), .int (iI (fo : Int)), .ref mpl, .ref mdi, .ref mc])), (mr, .inl (cI, 16, .inl (iA (zC X R0 r9 0 n)))), (ms, .inl (cI, 64, .inl (iA X)))])) 0 0 (va_A [(m0, .inr (3, [.int (iI cd), .int (iI (n : Int)), .int (iI (w : Int)), .ref mq, .int (iI (rc : Int)), .ref mn, .ref ml, .int (iI (sc : Int)), .ref ms, .ref mr, .ref mg, .ref mp, .int (iI (mo : Int)), .int (iI (fo : Int)), .ref mpl, .ref mdi, .ref mc])), (mr, .inl (cI, 16, .inl (iA R0))), (ms, .inl (cI, 64, .inl (iA X)))] sz) := by
  refine Met.ofW (cc := cX3_takeWindow) (maxL := 3) (ret := none) (by decide) rfl ?_
  intro p e s m args below meth c s₁ B hml hv
  obtain ⟨rfl, hsz, hP, hK, hD0⟩ := hv
  have hx := B.exec
  have hb := B.bytes
  have hr := B.returns
  have hts : ∀ w ∈ wsX3_takeWindow, w.before _ s = true := atoms_spec (ws := wsX3_takeWindow) B.pre
  have hown : s.vm.findClass RX3 = some m.cls := findClass_of_methodNamed B.named
  have hlocks := B.notSynchronized
  subst hsz
  have hD := hD0.self (sz := s.heap.size)
  have hA : ∀ q9 : Nat, s.heap.size ≤ q9 → va_A [(m0, .inr (3, [.int (iI cd), .int (iI (n : Int)), .int (iI (w : Int)), .ref mq, .int (iI (rc : Int)), .ref mn, .ref ml, .int (iI (sc : Int)), .ref ms, .ref mr, .ref mg, .ref mp, .int (iI (mo : Int)), .int (iI (fo : Int)), .ref mpl, .ref mdi, .ref mc])), (mr, .inl (cI, 16, .inl (iA R0))), (ms, .inl (cI, 64, .inl (iA X)))] s.heap.size q9 := fun q9 h => Or.inr h
  have hS : va_S (va_A [(m0, .inr (3, [.int (iI cd), .int (iI (n : Int)), .int (iI (w : Int)), .ref mq, .int (iI (rc : Int)), .ref mn, .ref ml, .int (iI (sc : Int)), .ref ms, .ref mr, .ref mg, .ref mp, .int (iI (mo : Int)), .int (iI (fo : Int)), .ref mpl, .ref mdi, .ref mc])), (mr, .inl (cI, 16, .inl (iA R0))), (ms, .inl (cI, 64, .inl (iA X)))] s.heap.size) s.heap s.heap [] := va_S.rf
  generalize hAe : va_A [(m0, .inr (3, [.int (iI cd), .int (iI (n : Int)), .int (iI (w : Int)), .ref mq, .int (iI (rc : Int)), .ref mn, .ref ml, .int (iI (sc : Int)), .ref ms, .ref mr, .ref mg, .ref mp, .int (iI (mo : Int)), .int (iI (fo : Int)), .ref mpl, .ref mdi, .ref mc])), (mr, .inl (cI, 16, .inl (iA R0))), (ms, .inl (cI, 64, .inl (iA X)))] s.heap.size = A at hD hA hS
  have hP : va_P (dC, dI) vwCl [(m0, .inr (3, [.int (iI cd), .int (iI (n : Int)), .int (iI (w : Int)), .ref mq, .int (iI (rc : Int)), .ref mn, .ref ml, .int (iI (sc : Int)), .ref ms, .ref mr, .ref mg, .ref mp, .int (iI (mo : Int)), .int (iI (fo : Int)), .ref mpl, .ref mdi, .ref mc])), (mr, .inl (cI, 16, .inl (iA R0))), (ms, .inl (cI, 64, .inl (iA X)))] s.heap := hP
  have hl := lv_entry ([.ref m0, .int (iI (r9 : Int))]) (n := 3) (Nat.le_of_ble_eq_true rfl)
  rw [lg_entry_eq]
  generalize (lg_sl ([.ref m0, .int (iI (r9 : Int))]) ++ List.replicate (3 - (lg_sl ([.ref m0, .int (iI (r9 : Int))])).length) Slot.unset).toArray = ls at hl ⊢
  have hl : lv_has ls 3 [(0, .ref m0), (1, .int (iI (r9 : Int)))] := hl
  generalize hargs : ([.ref m0, .int (iI (r9 : Int))] : List Value).toArray = args at hts ⊢
  refine z_intro (fun R Q hR hQ => ?_)
  have hRf : R.frames = 0 := by rw [hR]; rfl
  have hRl : R.locals = 0 := by rw [hR]; rfl
  have hRc : R.cells = 0 := by rw [hR]; rfl
  have hRs : R.slots = 0 := by rw [hR]; rfl
  have in_X3 : ∀ w ∈ u_ws RX3 TX3 17, w ∈ wsX3_takeWindow := fun w h => List.mem_cons_of_mem _ (inW_X3 w h)
  have fl_7 := wa_hts hts wd_485
  have fl_23 := wa_hts hts wd_492
  have fl_26 := wa_hts hts wd_493
  clear hR hargs B
  refine lv_iconst (v := iI (0 : Int)) hx hb dX3_takeWindow_0 (by decide) ?_
  refine lv_istore_n (lv' := [(2, .int (iI (0 : Int))), (0, .ref m0), (1, .int (iI (r9 : Int)))]) hx hb dX3_takeWindow_1 rfl hl (by decide) rfl (fun ls hl => ?_)
  have lp : ∀ (k9 : Nat) (i : Nat) (R9 : Nat → Int) (H : Heap) (locs : List Loc) (ls : Array Slot), (i ≤ n) → (R9 = zC X R0 r9 0 i) → n - i = k9 → va_P (dC, dI) vwCl [(m0, .inr (3, [.int (iI cd), .int (iI (n : Int)), .int (iI (w : Int)), .ref mq, .int (iI (rc : Int)), .ref mn, .ref ml, .int (iI (sc : Int)), .ref ms, .ref mr, .ref mg, .ref mp, .int (iI (mo : Int)), .int (iI (fo : Int)), .ref mpl, .ref mdi, .ref mc])), (mr, .inl (cI, 16, .inl (iA R9))), (ms, .inl (cI, 64, .inl (iA X)))] H → va_D A [(m0, .inr (3, [.int (iI cd), .int (iI (n : Int)), .int (iI (w : Int)), .ref mq, .int (iI (rc : Int)), .ref mn, .ref ml, .int (iI (sc : Int)), .ref ms, .ref mr, .ref mg, .ref mp, .int (iI (mo : Int)), .int (iI (fo : Int)), .ref mpl, .ref mdi, .ref mc])), (mr, .inl (cI, 16, .inl (iA R9))), (ms, .inl (cI, 64, .inl (iA X)))] → va_S A s.heap H locs → lv_has ls 3 [(0, .ref m0), (1, .int (iI (r9 : Int))), (2, .int (iI (i : Int)))] → W p l e R s m args below meth c H locs 0 0 Q (F0 m 2 ls []) := by
    intro k9
    induction k9 using Nat.strongRecOn with
    | ind k9 ih_lp =>
      intro i R9 H locs ls hi hR9 hk9 hP hD hS hl
      refine lv_iload_n hx hb dX3_takeWindow_2 rfl (lv_at hl 2 rfl) ?_
      refine lv_aload_n hx hb dX3_takeWindow_3 rfl (lv_at hl 0 rfl) ?_
      refine va_get (D := (dC, dI)) (ci := 3) (v := .int (iI (n : Int))) (C := RX3) (T := TX3) (N := 17) hx hb hts in_X3 hown hK hP 0 rfl rfl 1 (by decide) fl_7 (fun _ h9 => h9) rfl dX3_takeWindow_4 ?_
      refine z_icmp_ge (tgt := 30) hx hb dX3_takeWindow_7 (by decide) (by omega) (fun h7 => ?_) (fun h7 => ?_)
      · have ein : i = n := by omega
        rw [hR9, ein] at hP hD
        subst hAe
        exact zw_retv (()) hx hb hr hlocks hQ (trivial) hP hK hD hS dX3_takeWindow_30
      · refine lv_aload_n hx hb dX3_takeWindow_10 rfl (lv_at hl 0 rfl) ?_
        refine va_get (D := (dC, dI)) (ci := 3) (v := .ref mr) (C := RX3) (T := TX3) (N := 17) hx hb hts in_X3 hown hK hP 0 rfl rfl 9 (by decide) fl_26 (fun _ h9 => h9) rfl dX3_takeWindow_11 ?_
        refine lv_iload_n hx hb dX3_takeWindow_14 rfl (lv_at hl 2 rfl) ?_
        refine lv_aload_n hx hb dX3_takeWindow_15 rfl (lv_at hl 0 rfl) ?_
        refine va_get (D := (dC, dI)) (ci := 3) (v := .ref ms) (C := RX3) (T := TX3) (N := 17) hx hb hts in_X3 hown hK hP 0 rfl rfl 8 (by decide) fl_23 (fun _ h9 => h9) rfl dX3_takeWindow_16 ?_
        refine lv_iload_n hx hb dX3_takeWindow_19 rfl (lv_at hl 1 rfl) ?_
        refine lv_iload_n hx hb dX3_takeWindow_20 rfl (lv_at hl 2 rfl) ?_
        refine z_iadd hx hb dX3_takeWindow_21 ?_
        refine z_iald hx hb hK hP 2 0 rfl rfl (r9 + i) (by omega) dX3_takeWindow_22 ?_
        refine z_iast hx hb hK hP hD hS 1 0 rfl rfl i (by omega) dX3_takeWindow_23 (fun H locs hP hD hS => ?_)
        have hP : va_P (dC, dI) vwCl [(m0, .inr (3, [.int (iI cd), .int (iI (n : Int)), .int (iI (w : Int)), .ref mq, .int (iI (rc : Int)), .ref mn, .ref ml, .int (iI (sc : Int)), .ref ms, .ref mr, .ref mg, .ref mp, .int (iI (mo : Int)), .int (iI (fo : Int)), .ref mpl, .ref mdi, .ref mc])), (mr, .inl (cI, 16, .inl (iA (zU R9 i (X (r9 + i)))))), (ms, .inl (cI, 64, .inl (iA X)))] H := hP
        have hD : va_D A [(m0, .inr (3, [.int (iI cd), .int (iI (n : Int)), .int (iI (w : Int)), .ref mq, .int (iI (rc : Int)), .ref mn, .ref ml, .int (iI (sc : Int)), .ref ms, .ref mr, .ref mg, .ref mp, .int (iI (mo : Int)), .int (iI (fo : Int)), .ref mpl, .ref mdi, .ref mc])), (mr, .inl (cI, 16, .inl (iA (zU R9 i (X (r9 + i)))))), (ms, .inl (cI, 64, .inl (iA X)))] := hD
        refine z_iinc (k := 2) (b := ((i + 1 : Nat) : Int)) (lv' := [(2, .int (iI ((i + 1 : Nat) : Int))), (0, .ref m0), (1, .int (iI (r9 : Int)))]) hx hb dX3_takeWindow_24 hl rfl (by omega) (by decide) rfl (fun ls hl => ?_)
        refine lv_goto (tgt := 2) hx hb dX3_takeWindow_27 (by decide) ?_
        exact ih_lp _ (by omega) (i + 1) (zU R9 i (X (r9 + i))) H locs ls (by omega) (by rw [hR9]; exact zC_step0) rfl hP hD hS (lv_sub hl [1, 2, 0] rfl)
  exact lp _ 0 R0 _ _ ls (by omega) ((zC_0 _ _ _ _).symm) rfl hP hD hS (lv_sub hl [1, 2, 0] rfl)
end
section
set_option maxRecDepth 100000 in
set_option maxHeartbeats 4000000 in
theorem c_fill (l : Launch) (dC : Nat → ClassId) (dI : Nat → Nat → Nat) (cI : ClassId) (m0 mq mn ml ms mr mg mp mpl mdi mc : Nat) (cd : Int) (n w rc sc mo fo : Nat) (q r G : Nat → Int) (sz : Nat) (hn : 2 ≤ n ∧ n ≤ 16) (hw : w ≤ 15) (hvq : vals n q) (hvr : vals n r) (hG : rgA G) : Met l yX3_fill wsX3_fill ({ frames := 3, cells := 0, slots := 0, locals := 66 }) (wrP dC dI [(cI, .int)] [(m0, .inr (3, [.int (iI cd), .int (iI (n : Int)), .int (iI (w : Int)), .ref mq, .int (iI (rc : Int)), .ref mn, .ref ml, .int (iI (sc : Int)), .ref ms, .ref mr, .ref mg, .ref mp, .int (iI (mo : Int)), .int (iI (fo : Int)), .ref mpl, .ref mdi, .ref mc])), (mq, .inl (cI, 16, .inl (iA q))), (mr, .inl (cI, 16, .inl (iA r))), (mg, .inl (cI, 256, .inl (iA G)))] sz [.ref m0]) (wrQv dC dI [(cI, .int)] [(m0, .inr (3, [.int (iI cd), .int (iI (n : Int)), .int (iI (w : Int)), .ref mq, .int (iI (rc : Int)), .ref mn, .ref ml, .int (iI (sc : Int)), .ref ms, .ref mr, .ref mg, .ref mp, .int (iI (mo : Int)), .int (iI (fo : Int)), .ref mpl, .ref mdi, .ref mc])), (mq, .inl (cI, 16, .inl (iA q))), (mr, .inl (cI, 16, .inl (iA r))), (mg, .inl (cI, 256, .inl (iA G)))] sz (S := (Nat → Int)) (fun u => rgA u ∧ ∀ a b, a < n → b < n → inb w a b → u (16 * a + b) = cst w q r a b) (fun u => [(m0, .inr (3, [.int (iI cd), .int (iI (n : Int)), .int (iI (w : Int)), .ref mq, .int (iI (rc : Int)), .ref mn, .ref ml, .int (iI (sc : Int)), .ref ms, .ref mr, .ref mg, .ref mp, .int (iI (mo : Int)), .int (iI (fo : Int)), .ref mpl, .ref mdi, .ref mc])), (mq, .inl (cI, 16, .inl (iA q))), (mr, .inl (cI, 16, .inl (iA r))), (mg, .inl (cI, 256, .inl (iA u)))])) 0 0 (va_A [(m0, .inr (3, [.int (iI cd), .int (iI (n : Int)), .int (iI (w : Int)), .ref mq, .int (iI (rc : Int)), .ref mn, .ref ml, .int (iI (sc : Int)), .ref ms, .ref mr, .ref mg, .ref mp, .int (iI (mo : Int)), .int (iI (fo : Int)), .ref mpl, .ref mdi, .ref mc])), (mq, .inl (cI, 16, .inl (iA q))), (mr, .inl (cI, 16, .inl (iA r))), (mg, .inl (cI, 256, .inl (iA G)))] sz) := by
  refine Met.ofW (cc := cX3_fill) (maxL := 5) (ret := none) (by decide) rfl ?_
  intro p e s m args below meth c s₁ B hml hv
  obtain ⟨rfl, hsz, hP, hK, hD0⟩ := hv
  have hx := B.exec
  have hb := B.bytes
  have hr := B.returns
  have hts : ∀ w ∈ wsX3_fill, w.before _ s = true := atoms_spec (ws := wsX3_fill) B.pre
  have hown : s.vm.findClass RX3 = some m.cls := findClass_of_methodNamed B.named
  have hlocks := B.notSynchronized
  subst hsz
  have hD := hD0.self (sz := s.heap.size)
  have hA : ∀ q9 : Nat, s.heap.size ≤ q9 → va_A [(m0, .inr (3, [.int (iI cd), .int (iI (n : Int)), .int (iI (w : Int)), .ref mq, .int (iI (rc : Int)), .ref mn, .ref ml, .int (iI (sc : Int)), .ref ms, .ref mr, .ref mg, .ref mp, .int (iI (mo : Int)), .int (iI (fo : Int)), .ref mpl, .ref mdi, .ref mc])), (mq, .inl (cI, 16, .inl (iA q))), (mr, .inl (cI, 16, .inl (iA r))), (mg, .inl (cI, 256, .inl (iA G)))] s.heap.size q9 := fun q9 h => Or.inr h
  have hS : va_S (va_A [(m0, .inr (3, [.int (iI cd), .int (iI (n : Int)), .int (iI (w : Int)), .ref mq, .int (iI (rc : Int)), .ref mn, .ref ml, .int (iI (sc : Int)), .ref ms, .ref mr, .ref mg, .ref mp, .int (iI (mo : Int)), .int (iI (fo : Int)), .ref mpl, .ref mdi, .ref mc])), (mq, .inl (cI, 16, .inl (iA q))), (mr, .inl (cI, 16, .inl (iA r))), (mg, .inl (cI, 256, .inl (iA G)))] s.heap.size) s.heap s.heap [] := va_S.rf
  generalize hAe : va_A [(m0, .inr (3, [.int (iI cd), .int (iI (n : Int)), .int (iI (w : Int)), .ref mq, .int (iI (rc : Int)), .ref mn, .ref ml, .int (iI (sc : Int)), .ref ms, .ref mr, .ref mg, .ref mp, .int (iI (mo : Int)), .int (iI (fo : Int)), .ref mpl, .ref mdi, .ref mc])), (mq, .inl (cI, 16, .inl (iA q))), (mr, .inl (cI, 16, .inl (iA r))), (mg, .inl (cI, 256, .inl (iA G)))] s.heap.size = A at hD hA hS
  have hP : va_P (dC, dI) vwCl [(m0, .inr (3, [.int (iI cd), .int (iI (n : Int)), .int (iI (w : Int)), .ref mq, .int (iI (rc : Int)), .ref mn, .ref ml, .int (iI (sc : Int)), .ref ms, .ref mr, .ref mg, .ref mp, .int (iI (mo : Int)), .int (iI (fo : Int)), .ref mpl, .ref mdi, .ref mc])), (mq, .inl (cI, 16, .inl (iA q))), (mr, .inl (cI, 16, .inl (iA r))), (mg, .inl (cI, 256, .inl (iA G)))] s.heap := hP
  have hl := lv_entry ([.ref m0]) (n := 5) (Nat.le_of_ble_eq_true rfl)
  rw [lg_entry_eq]
  generalize (lg_sl ([.ref m0]) ++ List.replicate (5 - (lg_sl ([.ref m0])).length) Slot.unset).toArray = ls at hl ⊢
  have hl : lv_has ls 5 [(0, .ref m0)] := hl
  generalize hargs : ([.ref m0] : List Value).toArray = args at hts ⊢
  refine z_intro (fun R Q hR hQ => ?_)
  have hRf : R.frames = 3 := by rw [hR]; rfl
  have hRl : R.locals = 66 := by rw [hR]; rfl
  have hRc : R.cells = 0 := by rw [hR]; rfl
  have hRs : R.slots = 0 := by rw [hR]; rfl
  have in_X3 : ∀ w ∈ u_ws RX3 TX3 17, w ∈ wsX3_fill := fun w h => List.mem_cons_of_mem _ (inW_X3 w h)
  have fl_7 := wa_hts hts wd_485
  have fl_13 := wa_hts hts wd_487
  have fl_26 := wa_hts hts wd_493
  have fl_29 := wa_hts hts wd_494
  clear hR hargs B
  refine lv_iconst (v := iI (0 : Int)) hx hb dX3_fill_0 (by decide) ?_
  refine lv_istore_n (lv' := [(1, .int (iI (0 : Int))), (0, .ref m0)]) hx hb dX3_fill_1 rfl hl (by decide) rfl (fun ls hl => ?_)
  have lpo : ∀ (k9 : Nat) (j : Nat) (G9 : Nat → Int) (H : Heap) (locs : List Loc) (ls : Array Slot), (j ≤ n) → (rgA G9) → (∀ a b, a < n → b < n → b < j → inb w a b → G9 (16 * a + b) = cst w q r a b) → n - j = k9 → va_P (dC, dI) vwCl [(m0, .inr (3, [.int (iI cd), .int (iI (n : Int)), .int (iI (w : Int)), .ref mq, .int (iI (rc : Int)), .ref mn, .ref ml, .int (iI (sc : Int)), .ref ms, .ref mr, .ref mg, .ref mp, .int (iI (mo : Int)), .int (iI (fo : Int)), .ref mpl, .ref mdi, .ref mc])), (mq, .inl (cI, 16, .inl (iA q))), (mr, .inl (cI, 16, .inl (iA r))), (mg, .inl (cI, 256, .inl (iA G9)))] H → va_D A [(m0, .inr (3, [.int (iI cd), .int (iI (n : Int)), .int (iI (w : Int)), .ref mq, .int (iI (rc : Int)), .ref mn, .ref ml, .int (iI (sc : Int)), .ref ms, .ref mr, .ref mg, .ref mp, .int (iI (mo : Int)), .int (iI (fo : Int)), .ref mpl, .ref mdi, .ref mc])), (mq, .inl (cI, 16, .inl (iA q))), (mr, .inl (cI, 16, .inl (iA r))), (mg, .inl (cI, 256, .inl (iA G9)))] → va_S A s.heap H locs → lv_has ls 5 [(0, .ref m0), (1, .int (iI (j : Int)))] → W p l e R s m args below meth c H locs 0 0 Q (F0 m 2 ls []) := by
    intro k9
    induction k9 using Nat.strongRecOn with
    | ind k9 ih_lpo =>
      intro j G9 H locs ls hj hG9 hok hk9 hP hD hS hl
      refine lv_iload_n hx hb dX3_fill_2 rfl (lv_at hl 1 rfl) ?_
      refine lv_aload_n hx hb dX3_fill_3 rfl (lv_at hl 0 rfl) ?_
      refine va_get (D := (dC, dI)) (ci := 3) (v := .int (iI (n : Int))) (C := RX3) (T := TX3) (N := 17) hx hb hts in_X3 hown hK hP 0 rfl rfl 1 (by decide) fl_7 (fun _ h9 => h9) rfl dX3_fill_4 ?_
      refine z_icmp_ge (tgt := 116) hx hb dX3_fill_7 (by decide) (by omega) (fun h7 => ?_) (fun h7 => ?_)
      · subst hAe
        exact zw_retv (G9) hx hb hr hlocks hQ (⟨hG9, fun a b h1 h2 h3 => hok a b h1 h2 (by omega) h3⟩) hP hK hD hS dX3_fill_116
      · refine lv_iconst (v := iI (0 : Int)) hx hb dX3_fill_10 (by decide) ?_
        refine lv_istore_n (lv' := [(2, .int (iI (0 : Int))), (0, .ref m0), (1, .int (iI (j : Int)))]) hx hb dX3_fill_11 rfl hl (by decide) rfl (fun ls hl => ?_)
        have lpi : ∀ (k9 : Nat) (i : Nat) (G9 : Nat → Int) (H : Heap) (locs : List Loc) (ls : Array Slot), (i ≤ n) → (rgA G9) → (∀ a b, a < n → b < n → (b < j ∨ (b = j ∧ a < i)) → inb w a b → G9 (16 * a + b) = cst w q r a b) → n - i = k9 → va_P (dC, dI) vwCl [(m0, .inr (3, [.int (iI cd), .int (iI (n : Int)), .int (iI (w : Int)), .ref mq, .int (iI (rc : Int)), .ref mn, .ref ml, .int (iI (sc : Int)), .ref ms, .ref mr, .ref mg, .ref mp, .int (iI (mo : Int)), .int (iI (fo : Int)), .ref mpl, .ref mdi, .ref mc])), (mq, .inl (cI, 16, .inl (iA q))), (mr, .inl (cI, 16, .inl (iA r))), (mg, .inl (cI, 256, .inl (iA G9)))] H → va_D A [(m0, .inr (3, [.int (iI cd), .int (iI (n : Int)), .int (iI (w : Int)), .ref mq, .int (iI (rc : Int)), .ref mn, .ref ml, .int (iI (sc : Int)), .ref ms, .ref mr, .ref mg, .ref mp, .int (iI (mo : Int)), .int (iI (fo : Int)), .ref mpl, .ref mdi, .ref mc])), (mq, .inl (cI, 16, .inl (iA q))), (mr, .inl (cI, 16, .inl (iA r))), (mg, .inl (cI, 256, .inl (iA G9)))] → va_S A s.heap H locs → lv_has ls 5 [(0, .ref m0), (1, .int (iI (j : Int))), (2, .int (iI (i : Int)))] → W p l e R s m args below meth c H locs 0 0 Q (F0 m 12 ls []) := by
          intro k9
          induction k9 using Nat.strongRecOn with
          | ind k9 ih_lpi =>
            intro i G9 H locs ls hi hG9 hok hk9 hP hD hS hl
            refine lv_iload_n hx hb dX3_fill_12 rfl (lv_at hl 2 rfl) ?_
            refine lv_aload_n hx hb dX3_fill_13 rfl (lv_at hl 0 rfl) ?_
            refine va_get (D := (dC, dI)) (ci := 3) (v := .int (iI (n : Int))) (C := RX3) (T := TX3) (N := 17) hx hb hts in_X3 hown hK hP 0 rfl rfl 1 (by decide) fl_7 (fun _ h9 => h9) rfl dX3_fill_14 ?_
            refine z_icmp_ge (tgt := 110) hx hb dX3_fill_17 (by decide) (by omega) (fun h17 => ?_) (fun h17 => ?_)
            · refine z_iinc (k := 1) (b := ((j + 1 : Nat) : Int)) (lv' := [(1, .int (iI ((j + 1 : Nat) : Int))), (0, .ref m0), (2, .int (iI (i : Int)))]) hx hb dX3_fill_110 hl rfl (by omega) (by decide) rfl (fun ls hl => ?_)
              refine lv_goto (tgt := 2) hx hb dX3_fill_113 (by decide) ?_
              exact ih_lpo _ (by omega) (j + 1) G9 H locs ls (by omega) (hG9) (fun a b h1 h2 h3 h4 => hok a b h1 h2 (by omega) h4) rfl hP hD hS (lv_sub hl [1, 0] rfl)
            · refine lv_aload_n hx hb dX3_fill_20 rfl (lv_at hl 0 rfl) ?_
              refine lv_iload_n hx hb dX3_fill_21 rfl (lv_at hl 2 rfl) ?_
              refine lv_iload_n hx hb dX3_fill_22 rfl (lv_at hl 1 rfl) ?_
              refine zr_i (va_runV (As := [.int (iI (i : Int)), .int (iI (j : Int))]) (rest := []) ⟨hx, hb, hml, hown, hts⟩ (c_inBand l dC dI cI m0 mq mn ml ms mr mg mp mpl mdi mc cd n w rc sc mo fo (i : Int) (j : Int) hn hw (by omega) (by omega)) (cwV 2 hts (ga_V wd_579 wd_581 wd_17 wd_31 wd_582) rfl rfl rfl (by decide +kernel) ⟨(show 1 + 1 ≤ R.frames by omega), (show 8 + (3 + 11) + 22 ≤ R.locals by omega)⟩) (rd_preV (q0 := 0) (ci := 3) hP hK [0] rfl rfl rfl) rfl rfl hl.1 rfl (lv_room (Nat.le_of_ble_eq_true rfl)) dX3_fill_23 ⟨by omega, by omega⟩) (fun z23 hz23 => ?_)
              refine z_if_eq (tgt := 104) hx hb dX3_fill_26 (by decide) (by omega) (fun h26 => ?_) (fun h26 => ?_)
              · refine z_iinc (k := 2) (b := ((i + 1 : Nat) : Int)) (lv' := [(2, .int (iI ((i + 1 : Nat) : Int))), (0, .ref m0), (1, .int (iI (j : Int)))]) hx hb dX3_fill_104 hl rfl (by omega) (by decide) rfl (fun ls hl => ?_)
                refine lv_goto (tgt := 12) hx hb dX3_fill_107 (by decide) ?_
                exact ih_lpi _ (by omega) (i + 1) G9 H locs ls (by omega) (hG9) (fun a b h1 h2 h3 h4 => hok a b h1 h2 (by omega) h4) rfl hP hD hS (lv_sub hl [1, 2, 0] rfl)
              · have hbj : inb w i j := by omega
                have hcr := cst_rg hvq hvr hn.2 (show i < n by omega) (show j < n by omega) hbj
                refine lv_aload_n hx hb dX3_fill_29 rfl (lv_at hl 0 rfl) ?_
                refine va_get (D := (dC, dI)) (ci := 3) (v := .ref mq) (C := RX3) (T := TX3) (N := 17) hx hb hts in_X3 hown hK hP 0 rfl rfl 3 (by decide) fl_13 (fun _ h9 => h9) rfl dX3_fill_30 ?_
                refine lv_iload_n hx hb dX3_fill_33 rfl (lv_at hl 2 rfl) ?_
                refine z_iald hx hb hK hP 1 0 rfl rfl i (by omega) dX3_fill_34 ?_
                refine lv_aload_n hx hb dX3_fill_35 rfl (lv_at hl 0 rfl) ?_
                refine va_get (D := (dC, dI)) (ci := 3) (v := .ref mr) (C := RX3) (T := TX3) (N := 17) hx hb hts in_X3 hown hK hP 0 rfl rfl 9 (by decide) fl_26 (fun _ h9 => h9) rfl dX3_fill_36 ?_
                refine lv_iload_n hx hb dX3_fill_39 rfl (lv_at hl 1 rfl) ?_
                refine z_iald hx hb hK hP 2 0 rfl rfl j (by omega) dX3_fill_40 ?_
                refine z_isub hx hb dX3_fill_41 ?_
                refine lv_istore_n (lv' := [(3, .int (iI ((q i) - (r j)))), (0, .ref m0), (1, .int (iI (j : Int))), (2, .int (iI (i : Int)))]) hx hb dX3_fill_42 rfl hl (by decide) rfl (fun ls hl => ?_)
                refine lv_aload_n hx hb dX3_fill_43 rfl (lv_at hl 1 rfl) ?_
                refine lv_iload_n hx hb dX3_fill_44 rfl (lv_at hl 3 rfl) ?_
                refine lv_iconst (v := iI (1 : Int)) hx hb dX3_fill_45 (by decide) ?_
                refine z_isub hx hb dX3_fill_46 ?_
                refine lv_iload_n hx hb dX3_fill_47 rfl (lv_at hl 2 rfl) ?_
                refine lv_iconst (v := iI (1 : Int)) hx hb dX3_fill_48 (by decide) ?_
                refine z_isub hx hb dX3_fill_49 ?_
                refine zr_i (va_runV (As := [.int (iI ((i : Int) - (1 : Int))), .int (iI ((j : Int) - (1 : Int)))]) (rest := []) ⟨hx, hb, hml, hown, hts⟩ (c_mCostAt l dC dI cI m0 mq mn ml ms mr mg mp mpl mdi mc cd n w rc sc mo fo G9 ((i : Int) - (1 : Int)) ((j : Int) - (1 : Int)) hn hw (by omega) (by omega)) (cwV 2 hts (ga_V wd_583 wd_585 wd_18 wd_31 wd_586) rfl rfl rfl (by decide +kernel) ⟨(show 2 + 1 ≤ R.frames by omega), (show 8 + (3 + 11) + 44 ≤ R.locals by omega)⟩) (rd_preV (q0 := 0) (ci := 3) hP hK [0, 3] rfl rfl rfl) rfl rfl hl.1 rfl (lv_room (Nat.le_of_ble_eq_true rfl)) dX3_fill_50 ⟨by omega, by omega⟩) (fun z50 hz50 => ?_)
                refine lv_aload_n hx hb dX3_fill_53 rfl (lv_at hl 1 rfl) ?_
                refine lv_iload_n hx hb dX3_fill_54 rfl (lv_at hl 3 rfl) ?_
                refine lv_iconst (v := iI (1 : Int)) hx hb dX3_fill_55 (by decide) ?_
                refine z_isub hx hb dX3_fill_56 ?_
                refine lv_iload_n hx hb dX3_fill_57 rfl (lv_at hl 2 rfl) ?_
                refine zr_i (va_runV (As := [.int (iI ((i : Int) - (1 : Int))), .int (iI (j : Int))]) (rest := [.int (iI z50)]) ⟨hx, hb, hml, hown, hts⟩ (c_mCostAt l dC dI cI m0 mq mn ml ms mr mg mp mpl mdi mc cd n w rc sc mo fo G9 ((i : Int) - (1 : Int)) (j : Int) hn hw (by omega) (by omega)) (cwV 2 hts (ga_V wd_583 wd_585 wd_18 wd_31 wd_586) rfl rfl rfl (by decide +kernel) ⟨(show 2 + 1 ≤ R.frames by omega), (show 8 + (3 + 11) + 44 ≤ R.locals by omega)⟩) (rd_preV (q0 := 0) (ci := 3) hP hK [0, 3] rfl rfl rfl) rfl rfl hl.1 rfl (lv_room (Nat.le_of_ble_eq_true rfl)) dX3_fill_58 ⟨by omega, by omega⟩) (fun z58 hz58 => ?_)
                refine lv_aload_n hx hb dX3_fill_61 rfl (lv_at hl 1 rfl) ?_
                refine lv_iload_n hx hb dX3_fill_62 rfl (lv_at hl 3 rfl) ?_
                refine lv_iload_n hx hb dX3_fill_63 rfl (lv_at hl 2 rfl) ?_
                refine lv_iconst (v := iI (1 : Int)) hx hb dX3_fill_64 (by decide) ?_
                refine z_isub hx hb dX3_fill_65 ?_
                refine zr_i (va_runV (As := [.int (iI (i : Int)), .int (iI ((j : Int) - (1 : Int)))]) (rest := [.int (iI z58), .int (iI z50)]) ⟨hx, hb, hml, hown, hts⟩ (c_mCostAt l dC dI cI m0 mq mn ml ms mr mg mp mpl mdi mc cd n w rc sc mo fo G9 (i : Int) ((j : Int) - (1 : Int)) hn hw (by omega) (by omega)) (cwV 2 hts (ga_V wd_583 wd_585 wd_18 wd_31 wd_586) rfl rfl rfl (by decide +kernel) ⟨(show 2 + 1 ≤ R.frames by omega), (show 8 + (3 + 11) + 44 ≤ R.locals by omega)⟩) (rd_preV (q0 := 0) (ci := 3) hP hK [0, 3] rfl rfl rfl) rfl rfl hl.1 rfl (lv_room (Nat.le_of_ble_eq_true rfl)) dX3_fill_66 ⟨by omega, by omega⟩) (fun z66 hz66 => ?_)
                have r50 : -2147483648 ≤ z50 ∧ z50 ≤ 2147483647 := by rw [hz50]; exact mAt_rg hG9 _ _
                have r58 : -2147483648 ≤ z58 ∧ z58 ≤ 2147483647 := by rw [hz58]; exact mAt_rg hG9 _ _
                have r66 : -2147483648 ≤ z66 ∧ z66 ≤ 2147483647 := by rw [hz66]; exact mAt_rg hG9 _ _
                refine zr_i (va_runS (As := [.int (iI z58), .int (iI z66)]) (rest := [.int (iI z50)]) ⟨hx, hb, hml, hown, hts⟩ (c_lesser l dC dI cI z58 z66 (by omega) (by omega)) (cwS 2 hts (ga_S wd_587 wd_588 wd_31 wd_589) rfl rfl rfl (by decide +kernel) ⟨(show 0 + 1 ≤ R.frames by omega), (show 8 + (2 + 11) + 0 ≤ R.locals by omega)⟩) (rd_preS hP hK [] rfl) rfl rfl hl.1 rfl (lv_room (Nat.le_of_ble_eq_true rfl)) dX3_fill_69 ⟨by omega, by omega⟩) (fun z69 hz69 => ?_)
                have r69 : -2147483648 ≤ z69 ∧ z69 ≤ 2147483647 := by rw [hz69]; exact lsr_rg r58 r66
                refine zr_i (va_runS (As := [.int (iI z50), .int (iI z69)]) (rest := []) ⟨hx, hb, hml, hown, hts⟩ (c_lesser l dC dI cI z50 z69 (by omega) (by omega)) (cwS 2 hts (ga_S wd_587 wd_588 wd_31 wd_589) rfl rfl rfl (by decide +kernel) ⟨(show 0 + 1 ≤ R.frames by omega), (show 8 + (2 + 11) + 0 ≤ R.locals by omega)⟩) (rd_preS hP hK [] rfl) rfl rfl hl.1 rfl (lv_room (Nat.le_of_ble_eq_true rfl)) dX3_fill_72 ⟨by omega, by omega⟩) (fun z72 hz72 => ?_)
                refine lv_istore (lv' := [(4, .int (iI z72)), (3, .int (iI ((q i) - (r j)))), (0, .ref m0), (1, .int (iI (j : Int))), (2, .int (iI (i : Int)))]) hx hb dX3_fill_75 hl (by decide) rfl (fun ls hl => ?_)
                refine lv_aload_n hx hb dX3_fill_77 rfl (lv_at hl 2 rfl) ?_
                refine va_get (D := (dC, dI)) (ci := 3) (v := .ref mg) (C := RX3) (T := TX3) (N := 17) hx hb hts in_X3 hown hK hP 0 rfl rfl 10 (by decide) fl_29 (fun _ h9 => h9) rfl dX3_fill_78 ?_
                refine lv_bipush (v := iI (16 : Int)) hx hb dX3_fill_81 (by decide) ?_
                refine lv_iload_n hx hb dX3_fill_83 rfl (lv_at hl 4 rfl) ?_
                refine z_imul hx hb dX3_fill_84 ?_
                refine lv_iload_n hx hb dX3_fill_85 rfl (lv_at hl 3 rfl) ?_
                refine z_iadd hx hb dX3_fill_86 ?_
                refine lv_iload_n hx hb dX3_fill_87 rfl (lv_at hl 1 rfl) ?_
                refine lv_iload_n hx hb dX3_fill_88 rfl (lv_at hl 1 rfl) ?_
                refine z_imul hx hb dX3_fill_89 ?_
                refine lv_iload_n hx hb dX3_fill_90 rfl (lv_at hl 4 rfl) ?_
                refine lv_iload_n hx hb dX3_fill_91 rfl (lv_at hl 3 rfl) ?_
                refine z_iadd hx hb dX3_fill_92 ?_
                refine z_if_ne (tgt := 100) hx hb dX3_fill_93 (by decide) (by omega) (fun h93 => ?_) (fun h93 => ?_)
                · refine lv_iload hx hb dX3_fill_100 (lv_at hl 0 rfl) ?_
                  refine z_iadd hx hb dX3_fill_102 ?_
                  refine z_top (b := cst w q r i j) (by rw [hz72, hz69, hz50, hz58, hz66]; exact cst_m hvq hvr hn.2 (by omega) (by omega) hbj (by omega) (fun a b h1 h2 h3 h4 h5 h6 => hok a b h1 h2 (by omega) h6)) ?_
                  refine z_iast hx hb hK hP hD hS 3 0 rfl rfl ((16 * i) + j) (by omega) dX3_fill_103 (fun H locs hP hD hS => ?_)
                  have hP : va_P (dC, dI) vwCl [(m0, .inr (3, [.int (iI cd), .int (iI (n : Int)), .int (iI (w : Int)), .ref mq, .int (iI (rc : Int)), .ref mn, .ref ml, .int (iI (sc : Int)), .ref ms, .ref mr, .ref mg, .ref mp, .int (iI (mo : Int)), .int (iI (fo : Int)), .ref mpl, .ref mdi, .ref mc])), (mq, .inl (cI, 16, .inl (iA q))), (mr, .inl (cI, 16, .inl (iA r))), (mg, .inl (cI, 256, .inl (iA (zU G9 ((16 * i) + j) (cst w q r i j)))))] H := hP
                  have hD : va_D A [(m0, .inr (3, [.int (iI cd), .int (iI (n : Int)), .int (iI (w : Int)), .ref mq, .int (iI (rc : Int)), .ref mn, .ref ml, .int (iI (sc : Int)), .ref ms, .ref mr, .ref mg, .ref mp, .int (iI (mo : Int)), .int (iI (fo : Int)), .ref mpl, .ref mdi, .ref mc])), (mq, .inl (cI, 16, .inl (iA q))), (mr, .inl (cI, 16, .inl (iA r))), (mg, .inl (cI, 256, .inl (iA (zU G9 ((16 * i) + j) (cst w q r i j)))))] := hD
                  refine z_iinc (k := 4) (b := ((i + 1 : Nat) : Int)) (lv' := [(2, .int (iI ((i + 1 : Nat) : Int))), (4, .int (iI z72)), (3, .int (iI ((q i) - (r j)))), (0, .ref m0), (1, .int (iI (j : Int)))]) hx hb dX3_fill_104 hl rfl (by omega) (by decide) rfl (fun ls hl => ?_)
                  refine lv_goto (tgt := 12) hx hb dX3_fill_107 (by decide) ?_
                  exact ih_lpi _ (by omega) (i + 1) (zU G9 (16 * i + j) (cst w q r i j)) H locs ls (by omega) (rgA_u hG9 (by omega)) (fun a b h1 h2 h3 h4 => by by_cases g9 : a = i ∧ b = j; (obtain ⟨g1, g2⟩ := g9; subst g1; subst g2; rw [zU_s]); (rw [zU_n (by omega)]; exact hok a b h1 h2 (by omega) h4)) rfl hP hD hS (lv_sub hl [3, 4, 0] rfl)
                · refine lv_iconst (v := iI (0 : Int)) hx hb dX3_fill_96 (by decide) ?_
                  refine lv_goto (tgt := 102) hx hb dX3_fill_97 (by decide) ?_
                  refine z_iadd hx hb dX3_fill_102 ?_
                  refine z_top (b := cst w q r i j) (by have e1 : i = 0 := (by omega); have e2 : j = 0 := (by omega); subst e1; subst e2; rw [cst]; unfold sqd; omega) ?_
                  refine z_iast hx hb hK hP hD hS 3 0 rfl rfl ((16 * i) + j) (by omega) dX3_fill_103 (fun H locs hP hD hS => ?_)
                  have hP : va_P (dC, dI) vwCl [(m0, .inr (3, [.int (iI cd), .int (iI (n : Int)), .int (iI (w : Int)), .ref mq, .int (iI (rc : Int)), .ref mn, .ref ml, .int (iI (sc : Int)), .ref ms, .ref mr, .ref mg, .ref mp, .int (iI (mo : Int)), .int (iI (fo : Int)), .ref mpl, .ref mdi, .ref mc])), (mq, .inl (cI, 16, .inl (iA q))), (mr, .inl (cI, 16, .inl (iA r))), (mg, .inl (cI, 256, .inl (iA (zU G9 ((16 * i) + j) (cst w q r i j)))))] H := hP
                  have hD : va_D A [(m0, .inr (3, [.int (iI cd), .int (iI (n : Int)), .int (iI (w : Int)), .ref mq, .int (iI (rc : Int)), .ref mn, .ref ml, .int (iI (sc : Int)), .ref ms, .ref mr, .ref mg, .ref mp, .int (iI (mo : Int)), .int (iI (fo : Int)), .ref mpl, .ref mdi, .ref mc])), (mq, .inl (cI, 16, .inl (iA q))), (mr, .inl (cI, 16, .inl (iA r))), (mg, .inl (cI, 256, .inl (iA (zU G9 ((16 * i) + j) (cst w q r i j)))))] := hD
                  refine z_iinc (k := 4) (b := ((i + 1 : Nat) : Int)) (lv' := [(2, .int (iI ((i + 1 : Nat) : Int))), (4, .int (iI z72)), (3, .int (iI ((q i) - (r j)))), (0, .ref m0), (1, .int (iI (j : Int)))]) hx hb dX3_fill_104 hl rfl (by omega) (by decide) rfl (fun ls hl => ?_)
                  refine lv_goto (tgt := 12) hx hb dX3_fill_107 (by decide) ?_
                  exact ih_lpi _ (by omega) (i + 1) (zU G9 (16 * i + j) (cst w q r i j)) H locs ls (by omega) (rgA_u hG9 (by omega)) (fun a b h1 h2 h3 h4 => by by_cases g9 : a = i ∧ b = j; (obtain ⟨g1, g2⟩ := g9; subst g1; subst g2; rw [zU_s]); (rw [zU_n (by omega)]; exact hok a b h1 h2 (by omega) h4)) rfl hP hD hS (lv_sub hl [3, 4, 0] rfl)
        exact lpi _ 0 G9 _ _ ls (by omega) (hG9) (fun a b h1 h2 h3 h4 => hok a b h1 h2 (by omega) h4) rfl hP hD hS (lv_sub hl [1, 2, 0] rfl)
  exact lpo _ 0 G _ _ ls (by omega) (hG) (fun a b h1 h2 h3 => absurd h3 (Nat.not_lt_zero _)) rfl hP hD hS (lv_sub hl [1, 0] rfl)
end
section
set_option maxRecDepth 100000 in
set_option maxHeartbeats 4000000 in
theorem c_beyondQ (l : Launch) (dC : Nat → ClassId) (dI : Nat → Nat → Nat) (cI : ClassId) (m0 mq mn ml ms mr mg mp mpl mdi mc : Nat) (cd : Int) (n w rc sc mo fo : Nat) (q r : Nat → Int) (v : Int) (a9 : Nat) (hn : 2 ≤ n ∧ n ≤ 16) (hw : w ≤ 15) (hvq : vals n q) (hvr : vals n r) (ha9 : a9 < n) (hv9 : -1000 ≤ v ∧ v ≤ 1000) : Met l yX3_beyond wsX3_beyond ({ frames := 1, cells := 0, slots := 0, locals := 22 }) (rdP dC dI [(cI, .int)] [(m0, .inr (3, [.int (iI cd), .int (iI (n : Int)), .int (iI (w : Int)), .ref mq, .int (iI (rc : Int)), .ref mn, .ref ml, .int (iI (sc : Int)), .ref ms, .ref mr, .ref mg, .ref mp, .int (iI (mo : Int)), .int (iI (fo : Int)), .ref mpl, .ref mdi, .ref mc])), (mq, .inl (cI, 16, .inl (iA q))), (mr, .inl (cI, 16, .inl (iA r)))] [.ref m0, .int (iI v), .int (iI (a9 : Int)), .int (iI (1 : Int))]) (rdQ (fun z => z = gapz v (hlo w q a9 n) (hhi w q a9 n) * gapz v (hlo w q a9 n) (hhi w q a9 n))) 0 0 (fun _ => False) := by
  refine Met.ofW (cc := cX3_beyond) (maxL := 9) (ret := (some .int)) (by decide) rfl ?_
  intro p e s m args below meth c s₁ B hml hv
  obtain ⟨rfl, hP, hK⟩ := hv
  have hx := B.exec
  have hb := B.bytes
  have hr := B.returns
  have hts : ∀ w ∈ wsX3_beyond, w.before _ s = true := atoms_spec (ws := wsX3_beyond) B.pre
  have hown : s.vm.findClass RX3 = some m.cls := findClass_of_methodNamed B.named
  have hlocks := B.notSynchronized
  have hl := lv_entry ([.ref m0, .int (iI v), .int (iI (a9 : Int)), .int (iI (1 : Int))]) (n := 9) (Nat.le_of_ble_eq_true rfl)
  rw [lg_entry_eq]
  generalize (lg_sl ([.ref m0, .int (iI v), .int (iI (a9 : Int)), .int (iI (1 : Int))]) ++ List.replicate (9 - (lg_sl ([.ref m0, .int (iI v), .int (iI (a9 : Int)), .int (iI (1 : Int))])).length) Slot.unset).toArray = ls at hl ⊢
  have hl : lv_has ls 9 [(0, .ref m0), (1, .int (iI v)), (2, .int (iI (a9 : Int))), (3, .int (iI (1 : Int)))] := hl
  generalize hargs : ([.ref m0, .int (iI v), .int (iI (a9 : Int)), .int (iI (1 : Int))] : List Value).toArray = args at hts ⊢
  refine z_intro (fun R Q hR hQ => ?_)
  have hRf : R.frames = 1 := by rw [hR]; rfl
  have hRl : R.locals = 22 := by rw [hR]; rfl
  have hRc : R.cells = 0 := by rw [hR]; rfl
  have hRs : R.slots = 0 := by rw [hR]; rfl
  have in_X3 : ∀ w ∈ u_ws RX3 TX3 17, w ∈ wsX3_beyond := fun w h => List.mem_cons_of_mem _ (inW_X3 w h)
  have fl_7 := wa_hts hts wd_485
  have fl_13 := wa_hts hts wd_487
  have fl_61 := wa_hts hts wd_486
  clear hR hargs B
  refine lv_sipush (v := iI (1000 : Int)) hx hb dX3_beyond_0 (by decide) ?_
  refine lv_istore (lv' := [(4, .int (iI (1000 : Int))), (0, .ref m0), (1, .int (iI v)), (2, .int (iI (a9 : Int))), (3, .int (iI (1 : Int)))]) hx hb dX3_beyond_3 hl (by decide) rfl (fun ls hl => ?_)
  refine lv_sipush (v := iI (-1000 : Int)) hx hb dX3_beyond_5 (by decide) ?_
  refine lv_istore (lv' := [(5, .int (iI (-1000 : Int))), (4, .int (iI (1000 : Int))), (0, .ref m0), (1, .int (iI v)), (2, .int (iI (a9 : Int))), (3, .int (iI (1 : Int)))]) hx hb dX3_beyond_8 hl (by decide) rfl (fun ls hl => ?_)
  refine lv_iconst (v := iI (0 : Int)) hx hb dX3_beyond_10 (by decide) ?_
  refine lv_istore (lv' := [(6, .int (iI (0 : Int))), (5, .int (iI (-1000 : Int))), (4, .int (iI (1000 : Int))), (0, .ref m0), (1, .int (iI v)), (2, .int (iI (a9 : Int))), (3, .int (iI (1 : Int)))]) hx hb dX3_beyond_11 hl (by decide) rfl (fun ls hl => ?_)
  have lp : ∀ (k9 : Nat) (i : Nat) (ls : Array Slot), (i ≤ n) → n - i = k9 → lv_has ls 9 [(0, .ref m0), (1, .int (iI v)), (2, .int (iI (a9 : Int))), (3, .int (iI (1 : Int))), (4, .int (iI (hlo w q a9 i))), (5, .int (iI (hhi w q a9 i))), (6, .int (iI (i : Int)))] → W p l e R s m args below meth c s.heap [] 0 0 Q (F0 m 13 ls []) := by
    intro k9
    induction k9 using Nat.strongRecOn with
    | ind k9 ih_lp =>
      intro i ls hi hk9 hl
      have rlo := hlo_rg hvq (w := w) (i := a9) i hi
      have rhi := hhi_rg hvq (w := w) (i := a9) i hi
      refine lv_iload hx hb dX3_beyond_13 (lv_at hl 6 rfl) ?_
      refine lv_aload_n hx hb dX3_beyond_15 rfl (lv_at hl 0 rfl) ?_
      refine va_get (D := (dC, dI)) (ci := 3) (v := .int (iI (n : Int))) (C := RX3) (T := TX3) (N := 17) hx hb hts in_X3 hown hK hP 0 rfl rfl 1 (by decide) fl_7 (fun _ h9 => h9) rfl dX3_beyond_16 ?_
      refine z_icmp_ge (tgt := 111) hx hb dX3_beyond_19 (by decide) (by omega) (fun h19 => ?_) (fun h19 => ?_)
      · have ein : i = n := by omega
        refine lv_iload_n hx hb dX3_beyond_111 rfl (lv_at hl 1 rfl) ?_
        refine lv_iload hx hb dX3_beyond_112 (lv_at hl 4 rfl) ?_
        refine z_icmp_ge (tgt := 124) hx hb dX3_beyond_114 (by decide) (by omega) (fun h114 => ?_) (fun h114 => ?_)
        · refine lv_iload_n hx hb dX3_beyond_124 rfl (lv_at hl 1 rfl) ?_
          refine lv_iload hx hb dX3_beyond_125 (lv_at hl 5 rfl) ?_
          refine z_icmp_le (tgt := 137) hx hb dX3_beyond_127 (by decide) (by omega) (fun h127 => ?_) (fun h127 => ?_)
          · refine lv_iconst (v := iI (0 : Int)) hx hb dX3_beyond_137 (by decide) ?_
            refine z_top (b := gapz v (hlo w q a9 n) (hhi w q a9 n)) (by rw [← ein]; unfold gapz; split <;> first | omega | (split <;> omega)) ?_
            refine lv_istore (lv' := [(6, .int (iI (gapz v (hlo w q a9 n) (hhi w q a9 n)))), (0, .ref m0), (1, .int (iI v)), (2, .int (iI (a9 : Int))), (3, .int (iI (1 : Int))), (4, .int (iI (hlo w q a9 i))), (5, .int (iI (hhi w q a9 i)))]) hx hb dX3_beyond_138 hl (by decide) rfl (fun ls hl => ?_)
            refine lv_iload hx hb dX3_beyond_140 (lv_at hl 0 rfl) ?_
            refine lv_iload hx hb dX3_beyond_142 (lv_at hl 0 rfl) ?_
            refine z_imul hx hb dX3_beyond_144 ?_
            exact zr_ret (z := (gapz v (hlo w q a9 n) (hhi w q a9 n)) * (gapz v (hlo w q a9 n) (hhi w q a9 n))) hx hb hr hlocks hQ (rfl) dX3_beyond_145
          · refine lv_iload_n hx hb dX3_beyond_130 rfl (lv_at hl 1 rfl) ?_
            refine lv_iload hx hb dX3_beyond_131 (lv_at hl 5 rfl) ?_
            refine z_isub hx hb dX3_beyond_133 ?_
            refine lv_goto (tgt := 138) hx hb dX3_beyond_134 (by decide) ?_
            refine z_top (b := gapz v (hlo w q a9 n) (hhi w q a9 n)) (by rw [← ein]; unfold gapz; split <;> first | omega | (split <;> omega)) ?_
            refine lv_istore (lv' := [(6, .int (iI (gapz v (hlo w q a9 n) (hhi w q a9 n)))), (0, .ref m0), (1, .int (iI v)), (2, .int (iI (a9 : Int))), (3, .int (iI (1 : Int))), (4, .int (iI (hlo w q a9 i))), (5, .int (iI (hhi w q a9 i)))]) hx hb dX3_beyond_138 hl (by decide) rfl (fun ls hl => ?_)
            refine lv_iload hx hb dX3_beyond_140 (lv_at hl 0 rfl) ?_
            refine lv_iload hx hb dX3_beyond_142 (lv_at hl 0 rfl) ?_
            refine z_imul hx hb dX3_beyond_144 ?_
            exact zr_ret (z := (gapz v (hlo w q a9 n) (hhi w q a9 n)) * (gapz v (hlo w q a9 n) (hhi w q a9 n))) hx hb hr hlocks hQ (rfl) dX3_beyond_145
        · refine lv_iload hx hb dX3_beyond_117 (lv_at hl 4 rfl) ?_
          refine lv_iload_n hx hb dX3_beyond_119 rfl (lv_at hl 1 rfl) ?_
          refine z_isub hx hb dX3_beyond_120 ?_
          refine lv_goto (tgt := 138) hx hb dX3_beyond_121 (by decide) ?_
          refine z_top (b := gapz v (hlo w q a9 n) (hhi w q a9 n)) (by rw [← ein]; unfold gapz; split <;> first | omega | (split <;> omega)) ?_
          refine lv_istore (lv' := [(6, .int (iI (gapz v (hlo w q a9 n) (hhi w q a9 n)))), (0, .ref m0), (1, .int (iI v)), (2, .int (iI (a9 : Int))), (3, .int (iI (1 : Int))), (4, .int (iI (hlo w q a9 i))), (5, .int (iI (hhi w q a9 i)))]) hx hb dX3_beyond_138 hl (by decide) rfl (fun ls hl => ?_)
          refine lv_iload hx hb dX3_beyond_140 (lv_at hl 0 rfl) ?_
          refine lv_iload hx hb dX3_beyond_142 (lv_at hl 0 rfl) ?_
          refine z_imul hx hb dX3_beyond_144 ?_
          exact zr_ret (z := (gapz v (hlo w q a9 n) (hhi w q a9 n)) * (gapz v (hlo w q a9 n) (hhi w q a9 n))) hx hb hr hlocks hQ (rfl) dX3_beyond_145
      · refine lv_iload_n hx hb dX3_beyond_22 rfl (lv_at hl 3 rfl) ?_
        refine z_if_eq (tgt := 36) hx hb dX3_beyond_23 (by decide) (by decide) (fun h9 => absurd h9 (by decide)) (fun _ => ?_)
        refine lv_aload_n hx hb dX3_beyond_26 rfl (lv_at hl 0 rfl) ?_
        refine va_get (D := (dC, dI)) (ci := 3) (v := .ref mq) (C := RX3) (T := TX3) (N := 17) hx hb hts in_X3 hown hK hP 0 rfl rfl 3 (by decide) fl_13 (fun _ h9 => h9) rfl dX3_beyond_27 ?_
        refine lv_iload hx hb dX3_beyond_30 (lv_at hl 6 rfl) ?_
        refine z_iald hx hb hK hP 1 0 rfl rfl i (by omega) dX3_beyond_32 ?_
        refine lv_goto (tgt := 43) hx hb dX3_beyond_33 (by decide) ?_
        have rx := hvq i (by omega)
        refine lv_istore (lv' := [(7, .int (iI (q i))), (0, .ref m0), (1, .int (iI v)), (2, .int (iI (a9 : Int))), (3, .int (iI (1 : Int))), (4, .int (iI (hlo w q a9 i))), (5, .int (iI (hhi w q a9 i))), (6, .int (iI (i : Int)))]) hx hb dX3_beyond_43 hl (by decide) rfl (fun ls hl => ?_)
        refine lv_iload hx hb dX3_beyond_45 (lv_at hl 7 rfl) ?_
        refine lv_iload_n hx hb dX3_beyond_47 rfl (lv_at hl 3 rfl) ?_
        refine z_isub hx hb dX3_beyond_48 ?_
        refine lv_aload_n hx hb dX3_beyond_49 rfl (lv_at hl 1 rfl) ?_
        refine va_get (D := (dC, dI)) (ci := 3) (v := .int (iI (w : Int))) (C := RX3) (T := TX3) (N := 17) hx hb hts in_X3 hown hK hP 0 rfl rfl 2 (by decide) fl_61 (fun _ h9 => h9) rfl dX3_beyond_50 ?_
        refine z_ineg hx hb dX3_beyond_53 ?_
        refine lv_aload_n hx hb dX3_beyond_54 rfl (lv_at hl 1 rfl) ?_
        refine va_get (D := (dC, dI)) (ci := 3) (v := .int (iI (w : Int))) (C := RX3) (T := TX3) (N := 17) hx hb hts in_X3 hown hK hP 0 rfl rfl 2 (by decide) fl_61 (fun _ h9 => h9) rfl dX3_beyond_55 ?_
        refine zr_i (va_runS (As := [.int (iI ((i : Int) - (a9 : Int))), .int (iI (-(w : Int))), .int (iI (w : Int))]) (rest := []) ⟨hx, hb, hml, hown, hts⟩ (c_within l dC dI cI ((i : Int) - (a9 : Int)) (-(w : Int)) (w : Int) (by omega) (by omega) (by omega)) (cwS 3 hts (ga_S wd_544 wd_545 wd_31 wd_546) rfl rfl rfl (by decide +kernel) ⟨(show 0 + 1 ≤ R.frames by omega), (show 8 + (3 + 11) + 0 ≤ R.locals by omega)⟩) (rd_preS hP hK [] rfl) rfl rfl hl.1 rfl (lv_room (Nat.le_of_ble_eq_true rfl)) dX3_beyond_58 ⟨by omega, by omega⟩) (fun z58 hz58 => ?_)
        refine lv_istore (lv' := [(8, .int (iI z58)), (7, .int (iI (q i))), (0, .ref m0), (1, .int (iI v)), (2, .int (iI (a9 : Int))), (3, .int (iI (1 : Int))), (4, .int (iI (hlo w q a9 i))), (5, .int (iI (hhi w q a9 i))), (6, .int (iI (i : Int)))]) hx hb dX3_beyond_61 hl (by decide) rfl (fun ls hl => ?_)
        refine lv_iload hx hb dX3_beyond_63 (lv_at hl 0 rfl) ?_
        refine z_if_eq (tgt := 80) hx hb dX3_beyond_65 (by decide) (by omega) (fun h65 => ?_) (fun h65 => ?_)
        · refine lv_iload hx hb dX3_beyond_80 (lv_at hl 6 rfl) ?_
          refine z_top (b := hlo w q a9 (i + 1)) (by rw [hlo]; first | (rw [if_pos (by omega)]; omega) | rw [if_neg (by omega)]) ?_
          refine lv_istore (lv' := [(4, .int (iI (hlo w q a9 (i + 1)))), (8, .int (iI z58)), (7, .int (iI (q i))), (0, .ref m0), (1, .int (iI v)), (2, .int (iI (a9 : Int))), (3, .int (iI (1 : Int))), (5, .int (iI (hhi w q a9 i))), (6, .int (iI (i : Int)))]) hx hb dX3_beyond_82 hl (by decide) rfl (fun ls hl => ?_)
          refine lv_iload hx hb dX3_beyond_84 (lv_at hl 1 rfl) ?_
          refine z_if_eq (tgt := 101) hx hb dX3_beyond_86 (by decide) (by omega) (fun h86 => ?_) (fun h86 => ?_)
          · refine lv_iload hx hb dX3_beyond_101 (lv_at hl 7 rfl) ?_
            refine z_top (b := hhi w q a9 (i + 1)) (by rw [hhi]; first | (rw [if_pos (by omega)]; omega) | rw [if_neg (by omega)]) ?_
            refine lv_istore (lv' := [(5, .int (iI (hhi w q a9 (i + 1)))), (4, .int (iI (hlo w q a9 (i + 1)))), (8, .int (iI z58)), (7, .int (iI (q i))), (0, .ref m0), (1, .int (iI v)), (2, .int (iI (a9 : Int))), (3, .int (iI (1 : Int))), (6, .int (iI (i : Int)))]) hx hb dX3_beyond_103 hl (by decide) rfl (fun ls hl => ?_)
            refine z_iinc (k := 8) (b := ((i + 1 : Nat) : Int)) (lv' := [(6, .int (iI ((i + 1 : Nat) : Int))), (5, .int (iI (hhi w q a9 (i + 1)))), (4, .int (iI (hlo w q a9 (i + 1)))), (8, .int (iI z58)), (7, .int (iI (q i))), (0, .ref m0), (1, .int (iI v)), (2, .int (iI (a9 : Int))), (3, .int (iI (1 : Int)))]) hx hb dX3_beyond_105 hl rfl (by omega) (by decide) rfl (fun ls hl => ?_)
            refine lv_goto (tgt := 13) hx hb dX3_beyond_108 (by decide) ?_
            exact ih_lp _ (by omega) (i + 1) ls (by omega) rfl (lv_sub hl [5, 6, 7, 8, 2, 1, 0] rfl)
          · refine lv_iload hx hb dX3_beyond_89 (lv_at hl 2 rfl) ?_
            refine lv_iload hx hb dX3_beyond_91 (lv_at hl 7 rfl) ?_
            refine z_icmp_le (tgt := 101) hx hb dX3_beyond_93 (by decide) (by omega) (fun h93 => ?_) (fun h93 => ?_)
            · refine lv_iload hx hb dX3_beyond_101 (lv_at hl 7 rfl) ?_
              refine z_top (b := hhi w q a9 (i + 1)) (by rw [hhi]; first | (rw [if_pos (by omega)]; omega) | rw [if_neg (by omega)]) ?_
              refine lv_istore (lv' := [(5, .int (iI (hhi w q a9 (i + 1)))), (4, .int (iI (hlo w q a9 (i + 1)))), (8, .int (iI z58)), (7, .int (iI (q i))), (0, .ref m0), (1, .int (iI v)), (2, .int (iI (a9 : Int))), (3, .int (iI (1 : Int))), (6, .int (iI (i : Int)))]) hx hb dX3_beyond_103 hl (by decide) rfl (fun ls hl => ?_)
              refine z_iinc (k := 8) (b := ((i + 1 : Nat) : Int)) (lv' := [(6, .int (iI ((i + 1 : Nat) : Int))), (5, .int (iI (hhi w q a9 (i + 1)))), (4, .int (iI (hlo w q a9 (i + 1)))), (8, .int (iI z58)), (7, .int (iI (q i))), (0, .ref m0), (1, .int (iI v)), (2, .int (iI (a9 : Int))), (3, .int (iI (1 : Int)))]) hx hb dX3_beyond_105 hl rfl (by omega) (by decide) rfl (fun ls hl => ?_)
              refine lv_goto (tgt := 13) hx hb dX3_beyond_108 (by decide) ?_
              exact ih_lp _ (by omega) (i + 1) ls (by omega) rfl (lv_sub hl [5, 6, 7, 8, 2, 1, 0] rfl)
            · refine lv_iload hx hb dX3_beyond_96 (lv_at hl 2 rfl) ?_
              refine lv_goto (tgt := 103) hx hb dX3_beyond_98 (by decide) ?_
              refine z_top (b := hhi w q a9 (i + 1)) (by rw [hhi]; first | (rw [if_pos (by omega)]; omega) | rw [if_neg (by omega)]) ?_
              refine lv_istore (lv' := [(5, .int (iI (hhi w q a9 (i + 1)))), (4, .int (iI (hlo w q a9 (i + 1)))), (8, .int (iI z58)), (7, .int (iI (q i))), (0, .ref m0), (1, .int (iI v)), (2, .int (iI (a9 : Int))), (3, .int (iI (1 : Int))), (6, .int (iI (i : Int)))]) hx hb dX3_beyond_103 hl (by decide) rfl (fun ls hl => ?_)
              refine z_iinc (k := 8) (b := ((i + 1 : Nat) : Int)) (lv' := [(6, .int (iI ((i + 1 : Nat) : Int))), (5, .int (iI (hhi w q a9 (i + 1)))), (4, .int (iI (hlo w q a9 (i + 1)))), (8, .int (iI z58)), (7, .int (iI (q i))), (0, .ref m0), (1, .int (iI v)), (2, .int (iI (a9 : Int))), (3, .int (iI (1 : Int)))]) hx hb dX3_beyond_105 hl rfl (by omega) (by decide) rfl (fun ls hl => ?_)
              refine lv_goto (tgt := 13) hx hb dX3_beyond_108 (by decide) ?_
              exact ih_lp _ (by omega) (i + 1) ls (by omega) rfl (lv_sub hl [5, 6, 7, 8, 2, 1, 0] rfl)
        · refine lv_iload hx hb dX3_beyond_68 (lv_at hl 1 rfl) ?_
          refine lv_iload hx hb dX3_beyond_70 (lv_at hl 6 rfl) ?_
          refine z_icmp_ge (tgt := 80) hx hb dX3_beyond_72 (by decide) (by omega) (fun h72 => ?_) (fun h72 => ?_)
          · refine lv_iload hx hb dX3_beyond_80 (lv_at hl 6 rfl) ?_
            refine z_top (b := hlo w q a9 (i + 1)) (by rw [hlo]; first | (rw [if_pos (by omega)]; omega) | rw [if_neg (by omega)]) ?_
            refine lv_istore (lv' := [(4, .int (iI (hlo w q a9 (i + 1)))), (8, .int (iI z58)), (7, .int (iI (q i))), (0, .ref m0), (1, .int (iI v)), (2, .int (iI (a9 : Int))), (3, .int (iI (1 : Int))), (5, .int (iI (hhi w q a9 i))), (6, .int (iI (i : Int)))]) hx hb dX3_beyond_82 hl (by decide) rfl (fun ls hl => ?_)
            refine lv_iload hx hb dX3_beyond_84 (lv_at hl 1 rfl) ?_
            refine z_if_eq (tgt := 101) hx hb dX3_beyond_86 (by decide) (by omega) (fun h86 => ?_) (fun h86 => ?_)
            · refine lv_iload hx hb dX3_beyond_101 (lv_at hl 7 rfl) ?_
              refine z_top (b := hhi w q a9 (i + 1)) (by rw [hhi]; first | (rw [if_pos (by omega)]; omega) | rw [if_neg (by omega)]) ?_
              refine lv_istore (lv' := [(5, .int (iI (hhi w q a9 (i + 1)))), (4, .int (iI (hlo w q a9 (i + 1)))), (8, .int (iI z58)), (7, .int (iI (q i))), (0, .ref m0), (1, .int (iI v)), (2, .int (iI (a9 : Int))), (3, .int (iI (1 : Int))), (6, .int (iI (i : Int)))]) hx hb dX3_beyond_103 hl (by decide) rfl (fun ls hl => ?_)
              refine z_iinc (k := 8) (b := ((i + 1 : Nat) : Int)) (lv' := [(6, .int (iI ((i + 1 : Nat) : Int))), (5, .int (iI (hhi w q a9 (i + 1)))), (4, .int (iI (hlo w q a9 (i + 1)))), (8, .int (iI z58)), (7, .int (iI (q i))), (0, .ref m0), (1, .int (iI v)), (2, .int (iI (a9 : Int))), (3, .int (iI (1 : Int)))]) hx hb dX3_beyond_105 hl rfl (by omega) (by decide) rfl (fun ls hl => ?_)
              refine lv_goto (tgt := 13) hx hb dX3_beyond_108 (by decide) ?_
              exact ih_lp _ (by omega) (i + 1) ls (by omega) rfl (lv_sub hl [5, 6, 7, 8, 2, 1, 0] rfl)
            · refine lv_iload hx hb dX3_beyond_89 (lv_at hl 2 rfl) ?_
              refine lv_iload hx hb dX3_beyond_91 (lv_at hl 7 rfl) ?_
              refine z_icmp_le (tgt := 101) hx hb dX3_beyond_93 (by decide) (by omega) (fun h93 => ?_) (fun h93 => ?_)
              · refine lv_iload hx hb dX3_beyond_101 (lv_at hl 7 rfl) ?_
                refine z_top (b := hhi w q a9 (i + 1)) (by rw [hhi]; first | (rw [if_pos (by omega)]; omega) | rw [if_neg (by omega)]) ?_
                refine lv_istore (lv' := [(5, .int (iI (hhi w q a9 (i + 1)))), (4, .int (iI (hlo w q a9 (i + 1)))), (8, .int (iI z58)), (7, .int (iI (q i))), (0, .ref m0), (1, .int (iI v)), (2, .int (iI (a9 : Int))), (3, .int (iI (1 : Int))), (6, .int (iI (i : Int)))]) hx hb dX3_beyond_103 hl (by decide) rfl (fun ls hl => ?_)
                refine z_iinc (k := 8) (b := ((i + 1 : Nat) : Int)) (lv' := [(6, .int (iI ((i + 1 : Nat) : Int))), (5, .int (iI (hhi w q a9 (i + 1)))), (4, .int (iI (hlo w q a9 (i + 1)))), (8, .int (iI z58)), (7, .int (iI (q i))), (0, .ref m0), (1, .int (iI v)), (2, .int (iI (a9 : Int))), (3, .int (iI (1 : Int)))]) hx hb dX3_beyond_105 hl rfl (by omega) (by decide) rfl (fun ls hl => ?_)
                refine lv_goto (tgt := 13) hx hb dX3_beyond_108 (by decide) ?_
                exact ih_lp _ (by omega) (i + 1) ls (by omega) rfl (lv_sub hl [5, 6, 7, 8, 2, 1, 0] rfl)
              · refine lv_iload hx hb dX3_beyond_96 (lv_at hl 2 rfl) ?_
                refine lv_goto (tgt := 103) hx hb dX3_beyond_98 (by decide) ?_
                refine z_top (b := hhi w q a9 (i + 1)) (by rw [hhi]; first | (rw [if_pos (by omega)]; omega) | rw [if_neg (by omega)]) ?_
                refine lv_istore (lv' := [(5, .int (iI (hhi w q a9 (i + 1)))), (4, .int (iI (hlo w q a9 (i + 1)))), (8, .int (iI z58)), (7, .int (iI (q i))), (0, .ref m0), (1, .int (iI v)), (2, .int (iI (a9 : Int))), (3, .int (iI (1 : Int))), (6, .int (iI (i : Int)))]) hx hb dX3_beyond_103 hl (by decide) rfl (fun ls hl => ?_)
                refine z_iinc (k := 8) (b := ((i + 1 : Nat) : Int)) (lv' := [(6, .int (iI ((i + 1 : Nat) : Int))), (5, .int (iI (hhi w q a9 (i + 1)))), (4, .int (iI (hlo w q a9 (i + 1)))), (8, .int (iI z58)), (7, .int (iI (q i))), (0, .ref m0), (1, .int (iI v)), (2, .int (iI (a9 : Int))), (3, .int (iI (1 : Int)))]) hx hb dX3_beyond_105 hl rfl (by omega) (by decide) rfl (fun ls hl => ?_)
                refine lv_goto (tgt := 13) hx hb dX3_beyond_108 (by decide) ?_
                exact ih_lp _ (by omega) (i + 1) ls (by omega) rfl (lv_sub hl [5, 6, 7, 8, 2, 1, 0] rfl)
          · refine lv_iload hx hb dX3_beyond_75 (lv_at hl 1 rfl) ?_
            refine lv_goto (tgt := 82) hx hb dX3_beyond_77 (by decide) ?_
            refine z_top (b := hlo w q a9 (i + 1)) (by rw [hlo]; first | (rw [if_pos (by omega)]; omega) | rw [if_neg (by omega)]) ?_
            refine lv_istore (lv' := [(4, .int (iI (hlo w q a9 (i + 1)))), (8, .int (iI z58)), (7, .int (iI (q i))), (0, .ref m0), (1, .int (iI v)), (2, .int (iI (a9 : Int))), (3, .int (iI (1 : Int))), (5, .int (iI (hhi w q a9 i))), (6, .int (iI (i : Int)))]) hx hb dX3_beyond_82 hl (by decide) rfl (fun ls hl => ?_)
            refine lv_iload hx hb dX3_beyond_84 (lv_at hl 1 rfl) ?_
            refine z_if_eq (tgt := 101) hx hb dX3_beyond_86 (by decide) (by omega) (fun h86 => ?_) (fun h86 => ?_)
            · refine lv_iload hx hb dX3_beyond_101 (lv_at hl 7 rfl) ?_
              refine z_top (b := hhi w q a9 (i + 1)) (by rw [hhi]; first | (rw [if_pos (by omega)]; omega) | rw [if_neg (by omega)]) ?_
              refine lv_istore (lv' := [(5, .int (iI (hhi w q a9 (i + 1)))), (4, .int (iI (hlo w q a9 (i + 1)))), (8, .int (iI z58)), (7, .int (iI (q i))), (0, .ref m0), (1, .int (iI v)), (2, .int (iI (a9 : Int))), (3, .int (iI (1 : Int))), (6, .int (iI (i : Int)))]) hx hb dX3_beyond_103 hl (by decide) rfl (fun ls hl => ?_)
              refine z_iinc (k := 8) (b := ((i + 1 : Nat) : Int)) (lv' := [(6, .int (iI ((i + 1 : Nat) : Int))), (5, .int (iI (hhi w q a9 (i + 1)))), (4, .int (iI (hlo w q a9 (i + 1)))), (8, .int (iI z58)), (7, .int (iI (q i))), (0, .ref m0), (1, .int (iI v)), (2, .int (iI (a9 : Int))), (3, .int (iI (1 : Int)))]) hx hb dX3_beyond_105 hl rfl (by omega) (by decide) rfl (fun ls hl => ?_)
              refine lv_goto (tgt := 13) hx hb dX3_beyond_108 (by decide) ?_
              exact ih_lp _ (by omega) (i + 1) ls (by omega) rfl (lv_sub hl [5, 6, 7, 8, 2, 1, 0] rfl)
            · refine lv_iload hx hb dX3_beyond_89 (lv_at hl 2 rfl) ?_
              refine lv_iload hx hb dX3_beyond_91 (lv_at hl 7 rfl) ?_
              refine z_icmp_le (tgt := 101) hx hb dX3_beyond_93 (by decide) (by omega) (fun h93 => ?_) (fun h93 => ?_)
              · refine lv_iload hx hb dX3_beyond_101 (lv_at hl 7 rfl) ?_
                refine z_top (b := hhi w q a9 (i + 1)) (by rw [hhi]; first | (rw [if_pos (by omega)]; omega) | rw [if_neg (by omega)]) ?_
                refine lv_istore (lv' := [(5, .int (iI (hhi w q a9 (i + 1)))), (4, .int (iI (hlo w q a9 (i + 1)))), (8, .int (iI z58)), (7, .int (iI (q i))), (0, .ref m0), (1, .int (iI v)), (2, .int (iI (a9 : Int))), (3, .int (iI (1 : Int))), (6, .int (iI (i : Int)))]) hx hb dX3_beyond_103 hl (by decide) rfl (fun ls hl => ?_)
                refine z_iinc (k := 8) (b := ((i + 1 : Nat) : Int)) (lv' := [(6, .int (iI ((i + 1 : Nat) : Int))), (5, .int (iI (hhi w q a9 (i + 1)))), (4, .int (iI (hlo w q a9 (i + 1)))), (8, .int (iI z58)), (7, .int (iI (q i))), (0, .ref m0), (1, .int (iI v)), (2, .int (iI (a9 : Int))), (3, .int (iI (1 : Int)))]) hx hb dX3_beyond_105 hl rfl (by omega) (by decide) rfl (fun ls hl => ?_)
                refine lv_goto (tgt := 13) hx hb dX3_beyond_108 (by decide) ?_
                exact ih_lp _ (by omega) (i + 1) ls (by omega) rfl (lv_sub hl [5, 6, 7, 8, 2, 1, 0] rfl)
              · refine lv_iload hx hb dX3_beyond_96 (lv_at hl 2 rfl) ?_
                refine lv_goto (tgt := 103) hx hb dX3_beyond_98 (by decide) ?_
                refine z_top (b := hhi w q a9 (i + 1)) (by rw [hhi]; first | (rw [if_pos (by omega)]; omega) | rw [if_neg (by omega)]) ?_
                refine lv_istore (lv' := [(5, .int (iI (hhi w q a9 (i + 1)))), (4, .int (iI (hlo w q a9 (i + 1)))), (8, .int (iI z58)), (7, .int (iI (q i))), (0, .ref m0), (1, .int (iI v)), (2, .int (iI (a9 : Int))), (3, .int (iI (1 : Int))), (6, .int (iI (i : Int)))]) hx hb dX3_beyond_103 hl (by decide) rfl (fun ls hl => ?_)
                refine z_iinc (k := 8) (b := ((i + 1 : Nat) : Int)) (lv' := [(6, .int (iI ((i + 1 : Nat) : Int))), (5, .int (iI (hhi w q a9 (i + 1)))), (4, .int (iI (hlo w q a9 (i + 1)))), (8, .int (iI z58)), (7, .int (iI (q i))), (0, .ref m0), (1, .int (iI v)), (2, .int (iI (a9 : Int))), (3, .int (iI (1 : Int)))]) hx hb dX3_beyond_105 hl rfl (by omega) (by decide) rfl (fun ls hl => ?_)
                refine lv_goto (tgt := 13) hx hb dX3_beyond_108 (by decide) ?_
                exact ih_lp _ (by omega) (i + 1) ls (by omega) rfl (lv_sub hl [5, 6, 7, 8, 2, 1, 0] rfl)
  exact lp _ 0 ls (by omega) rfl (lv_sub hl [3, 4, 5, 6, 2, 1, 0] rfl)
set_option maxRecDepth 100000 in
set_option maxHeartbeats 4000000 in
theorem c_beyondR (l : Launch) (dC : Nat → ClassId) (dI : Nat → Nat → Nat) (cI : ClassId) (m0 mq mn ml ms mr mg mp mpl mdi mc : Nat) (cd : Int) (n w rc sc mo fo : Nat) (q r : Nat → Int) (v : Int) (a9 : Nat) (hn : 2 ≤ n ∧ n ≤ 16) (hw : w ≤ 15) (hvq : vals n q) (hvr : vals n r) (ha9 : a9 < n) (hv9 : -1000 ≤ v ∧ v ≤ 1000) : Met l yX3_beyond wsX3_beyond ({ frames := 1, cells := 0, slots := 0, locals := 22 }) (rdP dC dI [(cI, .int)] [(m0, .inr (3, [.int (iI cd), .int (iI (n : Int)), .int (iI (w : Int)), .ref mq, .int (iI (rc : Int)), .ref mn, .ref ml, .int (iI (sc : Int)), .ref ms, .ref mr, .ref mg, .ref mp, .int (iI (mo : Int)), .int (iI (fo : Int)), .ref mpl, .ref mdi, .ref mc])), (mq, .inl (cI, 16, .inl (iA q))), (mr, .inl (cI, 16, .inl (iA r)))] [.ref m0, .int (iI v), .int (iI (a9 : Int)), .int (iI (0 : Int))]) (rdQ (fun z => z = gapz v (hlo w r a9 n) (hhi w r a9 n) * gapz v (hlo w r a9 n) (hhi w r a9 n))) 0 0 (fun _ => False) := by
  refine Met.ofW (cc := cX3_beyond) (maxL := 9) (ret := (some .int)) (by decide) rfl ?_
  intro p e s m args below meth c s₁ B hml hv
  obtain ⟨rfl, hP, hK⟩ := hv
  have hx := B.exec
  have hb := B.bytes
  have hr := B.returns
  have hts : ∀ w ∈ wsX3_beyond, w.before _ s = true := atoms_spec (ws := wsX3_beyond) B.pre
  have hown : s.vm.findClass RX3 = some m.cls := findClass_of_methodNamed B.named
  have hlocks := B.notSynchronized
  have hl := lv_entry ([.ref m0, .int (iI v), .int (iI (a9 : Int)), .int (iI (0 : Int))]) (n := 9) (Nat.le_of_ble_eq_true rfl)
  rw [lg_entry_eq]
  generalize (lg_sl ([.ref m0, .int (iI v), .int (iI (a9 : Int)), .int (iI (0 : Int))]) ++ List.replicate (9 - (lg_sl ([.ref m0, .int (iI v), .int (iI (a9 : Int)), .int (iI (0 : Int))])).length) Slot.unset).toArray = ls at hl ⊢
  have hl : lv_has ls 9 [(0, .ref m0), (1, .int (iI v)), (2, .int (iI (a9 : Int))), (3, .int (iI (0 : Int)))] := hl
  generalize hargs : ([.ref m0, .int (iI v), .int (iI (a9 : Int)), .int (iI (0 : Int))] : List Value).toArray = args at hts ⊢
  refine z_intro (fun R Q hR hQ => ?_)
  have hRf : R.frames = 1 := by rw [hR]; rfl
  have hRl : R.locals = 22 := by rw [hR]; rfl
  have hRc : R.cells = 0 := by rw [hR]; rfl
  have hRs : R.slots = 0 := by rw [hR]; rfl
  have in_X3 : ∀ w ∈ u_ws RX3 TX3 17, w ∈ wsX3_beyond := fun w h => List.mem_cons_of_mem _ (inW_X3 w h)
  have fl_7 := wa_hts hts wd_485
  have fl_26 := wa_hts hts wd_493
  have fl_61 := wa_hts hts wd_486
  clear hR hargs B
  refine lv_sipush (v := iI (1000 : Int)) hx hb dX3_beyond_0 (by decide) ?_
  refine lv_istore (lv' := [(4, .int (iI (1000 : Int))), (0, .ref m0), (1, .int (iI v)), (2, .int (iI (a9 : Int))), (3, .int (iI (0 : Int)))]) hx hb dX3_beyond_3 hl (by decide) rfl (fun ls hl => ?_)
  refine lv_sipush (v := iI (-1000 : Int)) hx hb dX3_beyond_5 (by decide) ?_
  refine lv_istore (lv' := [(5, .int (iI (-1000 : Int))), (4, .int (iI (1000 : Int))), (0, .ref m0), (1, .int (iI v)), (2, .int (iI (a9 : Int))), (3, .int (iI (0 : Int)))]) hx hb dX3_beyond_8 hl (by decide) rfl (fun ls hl => ?_)
  refine lv_iconst (v := iI (0 : Int)) hx hb dX3_beyond_10 (by decide) ?_
  refine lv_istore (lv' := [(6, .int (iI (0 : Int))), (5, .int (iI (-1000 : Int))), (4, .int (iI (1000 : Int))), (0, .ref m0), (1, .int (iI v)), (2, .int (iI (a9 : Int))), (3, .int (iI (0 : Int)))]) hx hb dX3_beyond_11 hl (by decide) rfl (fun ls hl => ?_)
  have lp : ∀ (k9 : Nat) (i : Nat) (ls : Array Slot), (i ≤ n) → n - i = k9 → lv_has ls 9 [(0, .ref m0), (1, .int (iI v)), (2, .int (iI (a9 : Int))), (3, .int (iI (0 : Int))), (4, .int (iI (hlo w r a9 i))), (5, .int (iI (hhi w r a9 i))), (6, .int (iI (i : Int)))] → W p l e R s m args below meth c s.heap [] 0 0 Q (F0 m 13 ls []) := by
    intro k9
    induction k9 using Nat.strongRecOn with
    | ind k9 ih_lp =>
      intro i ls hi hk9 hl
      have rlo := hlo_rg hvr (w := w) (i := a9) i hi
      have rhi := hhi_rg hvr (w := w) (i := a9) i hi
      refine lv_iload hx hb dX3_beyond_13 (lv_at hl 6 rfl) ?_
      refine lv_aload_n hx hb dX3_beyond_15 rfl (lv_at hl 0 rfl) ?_
      refine va_get (D := (dC, dI)) (ci := 3) (v := .int (iI (n : Int))) (C := RX3) (T := TX3) (N := 17) hx hb hts in_X3 hown hK hP 0 rfl rfl 1 (by decide) fl_7 (fun _ h9 => h9) rfl dX3_beyond_16 ?_
      refine z_icmp_ge (tgt := 111) hx hb dX3_beyond_19 (by decide) (by omega) (fun h19 => ?_) (fun h19 => ?_)
      · have ein : i = n := by omega
        refine lv_iload_n hx hb dX3_beyond_111 rfl (lv_at hl 1 rfl) ?_
        refine lv_iload hx hb dX3_beyond_112 (lv_at hl 4 rfl) ?_
        refine z_icmp_ge (tgt := 124) hx hb dX3_beyond_114 (by decide) (by omega) (fun h114 => ?_) (fun h114 => ?_)
        · refine lv_iload_n hx hb dX3_beyond_124 rfl (lv_at hl 1 rfl) ?_
          refine lv_iload hx hb dX3_beyond_125 (lv_at hl 5 rfl) ?_
          refine z_icmp_le (tgt := 137) hx hb dX3_beyond_127 (by decide) (by omega) (fun h127 => ?_) (fun h127 => ?_)
          · refine lv_iconst (v := iI (0 : Int)) hx hb dX3_beyond_137 (by decide) ?_
            refine z_top (b := gapz v (hlo w r a9 n) (hhi w r a9 n)) (by rw [← ein]; unfold gapz; split <;> first | omega | (split <;> omega)) ?_
            refine lv_istore (lv' := [(6, .int (iI (gapz v (hlo w r a9 n) (hhi w r a9 n)))), (0, .ref m0), (1, .int (iI v)), (2, .int (iI (a9 : Int))), (3, .int (iI (0 : Int))), (4, .int (iI (hlo w r a9 i))), (5, .int (iI (hhi w r a9 i)))]) hx hb dX3_beyond_138 hl (by decide) rfl (fun ls hl => ?_)
            refine lv_iload hx hb dX3_beyond_140 (lv_at hl 0 rfl) ?_
            refine lv_iload hx hb dX3_beyond_142 (lv_at hl 0 rfl) ?_
            refine z_imul hx hb dX3_beyond_144 ?_
            exact zr_ret (z := (gapz v (hlo w r a9 n) (hhi w r a9 n)) * (gapz v (hlo w r a9 n) (hhi w r a9 n))) hx hb hr hlocks hQ (rfl) dX3_beyond_145
          · refine lv_iload_n hx hb dX3_beyond_130 rfl (lv_at hl 1 rfl) ?_
            refine lv_iload hx hb dX3_beyond_131 (lv_at hl 5 rfl) ?_
            refine z_isub hx hb dX3_beyond_133 ?_
            refine lv_goto (tgt := 138) hx hb dX3_beyond_134 (by decide) ?_
            refine z_top (b := gapz v (hlo w r a9 n) (hhi w r a9 n)) (by rw [← ein]; unfold gapz; split <;> first | omega | (split <;> omega)) ?_
            refine lv_istore (lv' := [(6, .int (iI (gapz v (hlo w r a9 n) (hhi w r a9 n)))), (0, .ref m0), (1, .int (iI v)), (2, .int (iI (a9 : Int))), (3, .int (iI (0 : Int))), (4, .int (iI (hlo w r a9 i))), (5, .int (iI (hhi w r a9 i)))]) hx hb dX3_beyond_138 hl (by decide) rfl (fun ls hl => ?_)
            refine lv_iload hx hb dX3_beyond_140 (lv_at hl 0 rfl) ?_
            refine lv_iload hx hb dX3_beyond_142 (lv_at hl 0 rfl) ?_
            refine z_imul hx hb dX3_beyond_144 ?_
            exact zr_ret (z := (gapz v (hlo w r a9 n) (hhi w r a9 n)) * (gapz v (hlo w r a9 n) (hhi w r a9 n))) hx hb hr hlocks hQ (rfl) dX3_beyond_145
        · refine lv_iload hx hb dX3_beyond_117 (lv_at hl 4 rfl) ?_
          refine lv_iload_n hx hb dX3_beyond_119 rfl (lv_at hl 1 rfl) ?_
          refine z_isub hx hb dX3_beyond_120 ?_
          refine lv_goto (tgt := 138) hx hb dX3_beyond_121 (by decide) ?_
          refine z_top (b := gapz v (hlo w r a9 n) (hhi w r a9 n)) (by rw [← ein]; unfold gapz; split <;> first | omega | (split <;> omega)) ?_
          refine lv_istore (lv' := [(6, .int (iI (gapz v (hlo w r a9 n) (hhi w r a9 n)))), (0, .ref m0), (1, .int (iI v)), (2, .int (iI (a9 : Int))), (3, .int (iI (0 : Int))), (4, .int (iI (hlo w r a9 i))), (5, .int (iI (hhi w r a9 i)))]) hx hb dX3_beyond_138 hl (by decide) rfl (fun ls hl => ?_)
          refine lv_iload hx hb dX3_beyond_140 (lv_at hl 0 rfl) ?_
          refine lv_iload hx hb dX3_beyond_142 (lv_at hl 0 rfl) ?_
          refine z_imul hx hb dX3_beyond_144 ?_
          exact zr_ret (z := (gapz v (hlo w r a9 n) (hhi w r a9 n)) * (gapz v (hlo w r a9 n) (hhi w r a9 n))) hx hb hr hlocks hQ (rfl) dX3_beyond_145
      · refine lv_iload_n hx hb dX3_beyond_22 rfl (lv_at hl 3 rfl) ?_
        refine z_if_eq (tgt := 36) hx hb dX3_beyond_23 (by decide) (by decide) (fun _ => ?_) (fun h9 => absurd h9 (by decide))
        refine lv_aload_n hx hb dX3_beyond_36 rfl (lv_at hl 0 rfl) ?_
        refine va_get (D := (dC, dI)) (ci := 3) (v := .ref mr) (C := RX3) (T := TX3) (N := 17) hx hb hts in_X3 hown hK hP 0 rfl rfl 9 (by decide) fl_26 (fun _ h9 => h9) rfl dX3_beyond_37 ?_
        refine lv_iload hx hb dX3_beyond_40 (lv_at hl 6 rfl) ?_
        refine z_iald hx hb hK hP 2 0 rfl rfl i (by omega) dX3_beyond_42 ?_
        have rx := hvr i (by omega)
        refine lv_istore (lv' := [(7, .int (iI (r i))), (0, .ref m0), (1, .int (iI v)), (2, .int (iI (a9 : Int))), (3, .int (iI (0 : Int))), (4, .int (iI (hlo w r a9 i))), (5, .int (iI (hhi w r a9 i))), (6, .int (iI (i : Int)))]) hx hb dX3_beyond_43 hl (by decide) rfl (fun ls hl => ?_)
        refine lv_iload hx hb dX3_beyond_45 (lv_at hl 7 rfl) ?_
        refine lv_iload_n hx hb dX3_beyond_47 rfl (lv_at hl 3 rfl) ?_
        refine z_isub hx hb dX3_beyond_48 ?_
        refine lv_aload_n hx hb dX3_beyond_49 rfl (lv_at hl 1 rfl) ?_
        refine va_get (D := (dC, dI)) (ci := 3) (v := .int (iI (w : Int))) (C := RX3) (T := TX3) (N := 17) hx hb hts in_X3 hown hK hP 0 rfl rfl 2 (by decide) fl_61 (fun _ h9 => h9) rfl dX3_beyond_50 ?_
        refine z_ineg hx hb dX3_beyond_53 ?_
        refine lv_aload_n hx hb dX3_beyond_54 rfl (lv_at hl 1 rfl) ?_
        refine va_get (D := (dC, dI)) (ci := 3) (v := .int (iI (w : Int))) (C := RX3) (T := TX3) (N := 17) hx hb hts in_X3 hown hK hP 0 rfl rfl 2 (by decide) fl_61 (fun _ h9 => h9) rfl dX3_beyond_55 ?_
        refine zr_i (va_runS (As := [.int (iI ((i : Int) - (a9 : Int))), .int (iI (-(w : Int))), .int (iI (w : Int))]) (rest := []) ⟨hx, hb, hml, hown, hts⟩ (c_within l dC dI cI ((i : Int) - (a9 : Int)) (-(w : Int)) (w : Int) (by omega) (by omega) (by omega)) (cwS 3 hts (ga_S wd_544 wd_545 wd_31 wd_546) rfl rfl rfl (by decide +kernel) ⟨(show 0 + 1 ≤ R.frames by omega), (show 8 + (3 + 11) + 0 ≤ R.locals by omega)⟩) (rd_preS hP hK [] rfl) rfl rfl hl.1 rfl (lv_room (Nat.le_of_ble_eq_true rfl)) dX3_beyond_58 ⟨by omega, by omega⟩) (fun z58 hz58 => ?_)
        refine lv_istore (lv' := [(8, .int (iI z58)), (7, .int (iI (r i))), (0, .ref m0), (1, .int (iI v)), (2, .int (iI (a9 : Int))), (3, .int (iI (0 : Int))), (4, .int (iI (hlo w r a9 i))), (5, .int (iI (hhi w r a9 i))), (6, .int (iI (i : Int)))]) hx hb dX3_beyond_61 hl (by decide) rfl (fun ls hl => ?_)
        refine lv_iload hx hb dX3_beyond_63 (lv_at hl 0 rfl) ?_
        refine z_if_eq (tgt := 80) hx hb dX3_beyond_65 (by decide) (by omega) (fun h65 => ?_) (fun h65 => ?_)
        · refine lv_iload hx hb dX3_beyond_80 (lv_at hl 6 rfl) ?_
          refine z_top (b := hlo w r a9 (i + 1)) (by rw [hlo]; first | (rw [if_pos (by omega)]; omega) | rw [if_neg (by omega)]) ?_
          refine lv_istore (lv' := [(4, .int (iI (hlo w r a9 (i + 1)))), (8, .int (iI z58)), (7, .int (iI (r i))), (0, .ref m0), (1, .int (iI v)), (2, .int (iI (a9 : Int))), (3, .int (iI (0 : Int))), (5, .int (iI (hhi w r a9 i))), (6, .int (iI (i : Int)))]) hx hb dX3_beyond_82 hl (by decide) rfl (fun ls hl => ?_)
          refine lv_iload hx hb dX3_beyond_84 (lv_at hl 1 rfl) ?_
          refine z_if_eq (tgt := 101) hx hb dX3_beyond_86 (by decide) (by omega) (fun h86 => ?_) (fun h86 => ?_)
          · refine lv_iload hx hb dX3_beyond_101 (lv_at hl 7 rfl) ?_
            refine z_top (b := hhi w r a9 (i + 1)) (by rw [hhi]; first | (rw [if_pos (by omega)]; omega) | rw [if_neg (by omega)]) ?_
            refine lv_istore (lv' := [(5, .int (iI (hhi w r a9 (i + 1)))), (4, .int (iI (hlo w r a9 (i + 1)))), (8, .int (iI z58)), (7, .int (iI (r i))), (0, .ref m0), (1, .int (iI v)), (2, .int (iI (a9 : Int))), (3, .int (iI (0 : Int))), (6, .int (iI (i : Int)))]) hx hb dX3_beyond_103 hl (by decide) rfl (fun ls hl => ?_)
            refine z_iinc (k := 8) (b := ((i + 1 : Nat) : Int)) (lv' := [(6, .int (iI ((i + 1 : Nat) : Int))), (5, .int (iI (hhi w r a9 (i + 1)))), (4, .int (iI (hlo w r a9 (i + 1)))), (8, .int (iI z58)), (7, .int (iI (r i))), (0, .ref m0), (1, .int (iI v)), (2, .int (iI (a9 : Int))), (3, .int (iI (0 : Int)))]) hx hb dX3_beyond_105 hl rfl (by omega) (by decide) rfl (fun ls hl => ?_)
            refine lv_goto (tgt := 13) hx hb dX3_beyond_108 (by decide) ?_
            exact ih_lp _ (by omega) (i + 1) ls (by omega) rfl (lv_sub hl [5, 6, 7, 8, 2, 1, 0] rfl)
          · refine lv_iload hx hb dX3_beyond_89 (lv_at hl 2 rfl) ?_
            refine lv_iload hx hb dX3_beyond_91 (lv_at hl 7 rfl) ?_
            refine z_icmp_le (tgt := 101) hx hb dX3_beyond_93 (by decide) (by omega) (fun h93 => ?_) (fun h93 => ?_)
            · refine lv_iload hx hb dX3_beyond_101 (lv_at hl 7 rfl) ?_
              refine z_top (b := hhi w r a9 (i + 1)) (by rw [hhi]; first | (rw [if_pos (by omega)]; omega) | rw [if_neg (by omega)]) ?_
              refine lv_istore (lv' := [(5, .int (iI (hhi w r a9 (i + 1)))), (4, .int (iI (hlo w r a9 (i + 1)))), (8, .int (iI z58)), (7, .int (iI (r i))), (0, .ref m0), (1, .int (iI v)), (2, .int (iI (a9 : Int))), (3, .int (iI (0 : Int))), (6, .int (iI (i : Int)))]) hx hb dX3_beyond_103 hl (by decide) rfl (fun ls hl => ?_)
              refine z_iinc (k := 8) (b := ((i + 1 : Nat) : Int)) (lv' := [(6, .int (iI ((i + 1 : Nat) : Int))), (5, .int (iI (hhi w r a9 (i + 1)))), (4, .int (iI (hlo w r a9 (i + 1)))), (8, .int (iI z58)), (7, .int (iI (r i))), (0, .ref m0), (1, .int (iI v)), (2, .int (iI (a9 : Int))), (3, .int (iI (0 : Int)))]) hx hb dX3_beyond_105 hl rfl (by omega) (by decide) rfl (fun ls hl => ?_)
              refine lv_goto (tgt := 13) hx hb dX3_beyond_108 (by decide) ?_
              exact ih_lp _ (by omega) (i + 1) ls (by omega) rfl (lv_sub hl [5, 6, 7, 8, 2, 1, 0] rfl)
            · refine lv_iload hx hb dX3_beyond_96 (lv_at hl 2 rfl) ?_
              refine lv_goto (tgt := 103) hx hb dX3_beyond_98 (by decide) ?_
              refine z_top (b := hhi w r a9 (i + 1)) (by rw [hhi]; first | (rw [if_pos (by omega)]; omega) | rw [if_neg (by omega)]) ?_
              refine lv_istore (lv' := [(5, .int (iI (hhi w r a9 (i + 1)))), (4, .int (iI (hlo w r a9 (i + 1)))), (8, .int (iI z58)), (7, .int (iI (r i))), (0, .ref m0), (1, .int (iI v)), (2, .int (iI (a9 : Int))), (3, .int (iI (0 : Int))), (6, .int (iI (i : Int)))]) hx hb dX3_beyond_103 hl (by decide) rfl (fun ls hl => ?_)
              refine z_iinc (k := 8) (b := ((i + 1 : Nat) : Int)) (lv' := [(6, .int (iI ((i + 1 : Nat) : Int))), (5, .int (iI (hhi w r a9 (i + 1)))), (4, .int (iI (hlo w r a9 (i + 1)))), (8, .int (iI z58)), (7, .int (iI (r i))), (0, .ref m0), (1, .int (iI v)), (2, .int (iI (a9 : Int))), (3, .int (iI (0 : Int)))]) hx hb dX3_beyond_105 hl rfl (by omega) (by decide) rfl (fun ls hl => ?_)
              refine lv_goto (tgt := 13) hx hb dX3_beyond_108 (by decide) ?_
              exact ih_lp _ (by omega) (i + 1) ls (by omega) rfl (lv_sub hl [5, 6, 7, 8, 2, 1, 0] rfl)
        · refine lv_iload hx hb dX3_beyond_68 (lv_at hl 1 rfl) ?_
          refine lv_iload hx hb dX3_beyond_70 (lv_at hl 6 rfl) ?_
          refine z_icmp_ge (tgt := 80) hx hb dX3_beyond_72 (by decide) (by omega) (fun h72 => ?_) (fun h72 => ?_)
          · refine lv_iload hx hb dX3_beyond_80 (lv_at hl 6 rfl) ?_
            refine z_top (b := hlo w r a9 (i + 1)) (by rw [hlo]; first | (rw [if_pos (by omega)]; omega) | rw [if_neg (by omega)]) ?_
            refine lv_istore (lv' := [(4, .int (iI (hlo w r a9 (i + 1)))), (8, .int (iI z58)), (7, .int (iI (r i))), (0, .ref m0), (1, .int (iI v)), (2, .int (iI (a9 : Int))), (3, .int (iI (0 : Int))), (5, .int (iI (hhi w r a9 i))), (6, .int (iI (i : Int)))]) hx hb dX3_beyond_82 hl (by decide) rfl (fun ls hl => ?_)
            refine lv_iload hx hb dX3_beyond_84 (lv_at hl 1 rfl) ?_
            refine z_if_eq (tgt := 101) hx hb dX3_beyond_86 (by decide) (by omega) (fun h86 => ?_) (fun h86 => ?_)
            · refine lv_iload hx hb dX3_beyond_101 (lv_at hl 7 rfl) ?_
              refine z_top (b := hhi w r a9 (i + 1)) (by rw [hhi]; first | (rw [if_pos (by omega)]; omega) | rw [if_neg (by omega)]) ?_
              refine lv_istore (lv' := [(5, .int (iI (hhi w r a9 (i + 1)))), (4, .int (iI (hlo w r a9 (i + 1)))), (8, .int (iI z58)), (7, .int (iI (r i))), (0, .ref m0), (1, .int (iI v)), (2, .int (iI (a9 : Int))), (3, .int (iI (0 : Int))), (6, .int (iI (i : Int)))]) hx hb dX3_beyond_103 hl (by decide) rfl (fun ls hl => ?_)
              refine z_iinc (k := 8) (b := ((i + 1 : Nat) : Int)) (lv' := [(6, .int (iI ((i + 1 : Nat) : Int))), (5, .int (iI (hhi w r a9 (i + 1)))), (4, .int (iI (hlo w r a9 (i + 1)))), (8, .int (iI z58)), (7, .int (iI (r i))), (0, .ref m0), (1, .int (iI v)), (2, .int (iI (a9 : Int))), (3, .int (iI (0 : Int)))]) hx hb dX3_beyond_105 hl rfl (by omega) (by decide) rfl (fun ls hl => ?_)
              refine lv_goto (tgt := 13) hx hb dX3_beyond_108 (by decide) ?_
              exact ih_lp _ (by omega) (i + 1) ls (by omega) rfl (lv_sub hl [5, 6, 7, 8, 2, 1, 0] rfl)
            · refine lv_iload hx hb dX3_beyond_89 (lv_at hl 2 rfl) ?_
              refine lv_iload hx hb dX3_beyond_91 (lv_at hl 7 rfl) ?_
              refine z_icmp_le (tgt := 101) hx hb dX3_beyond_93 (by decide) (by omega) (fun h93 => ?_) (fun h93 => ?_)
              · refine lv_iload hx hb dX3_beyond_101 (lv_at hl 7 rfl) ?_
                refine z_top (b := hhi w r a9 (i + 1)) (by rw [hhi]; first | (rw [if_pos (by omega)]; omega) | rw [if_neg (by omega)]) ?_
                refine lv_istore (lv' := [(5, .int (iI (hhi w r a9 (i + 1)))), (4, .int (iI (hlo w r a9 (i + 1)))), (8, .int (iI z58)), (7, .int (iI (r i))), (0, .ref m0), (1, .int (iI v)), (2, .int (iI (a9 : Int))), (3, .int (iI (0 : Int))), (6, .int (iI (i : Int)))]) hx hb dX3_beyond_103 hl (by decide) rfl (fun ls hl => ?_)
                refine z_iinc (k := 8) (b := ((i + 1 : Nat) : Int)) (lv' := [(6, .int (iI ((i + 1 : Nat) : Int))), (5, .int (iI (hhi w r a9 (i + 1)))), (4, .int (iI (hlo w r a9 (i + 1)))), (8, .int (iI z58)), (7, .int (iI (r i))), (0, .ref m0), (1, .int (iI v)), (2, .int (iI (a9 : Int))), (3, .int (iI (0 : Int)))]) hx hb dX3_beyond_105 hl rfl (by omega) (by decide) rfl (fun ls hl => ?_)
                refine lv_goto (tgt := 13) hx hb dX3_beyond_108 (by decide) ?_
                exact ih_lp _ (by omega) (i + 1) ls (by omega) rfl (lv_sub hl [5, 6, 7, 8, 2, 1, 0] rfl)
              · refine lv_iload hx hb dX3_beyond_96 (lv_at hl 2 rfl) ?_
                refine lv_goto (tgt := 103) hx hb dX3_beyond_98 (by decide) ?_
                refine z_top (b := hhi w r a9 (i + 1)) (by rw [hhi]; first | (rw [if_pos (by omega)]; omega) | rw [if_neg (by omega)]) ?_
                refine lv_istore (lv' := [(5, .int (iI (hhi w r a9 (i + 1)))), (4, .int (iI (hlo w r a9 (i + 1)))), (8, .int (iI z58)), (7, .int (iI (r i))), (0, .ref m0), (1, .int (iI v)), (2, .int (iI (a9 : Int))), (3, .int (iI (0 : Int))), (6, .int (iI (i : Int)))]) hx hb dX3_beyond_103 hl (by decide) rfl (fun ls hl => ?_)
                refine z_iinc (k := 8) (b := ((i + 1 : Nat) : Int)) (lv' := [(6, .int (iI ((i + 1 : Nat) : Int))), (5, .int (iI (hhi w r a9 (i + 1)))), (4, .int (iI (hlo w r a9 (i + 1)))), (8, .int (iI z58)), (7, .int (iI (r i))), (0, .ref m0), (1, .int (iI v)), (2, .int (iI (a9 : Int))), (3, .int (iI (0 : Int)))]) hx hb dX3_beyond_105 hl rfl (by omega) (by decide) rfl (fun ls hl => ?_)
                refine lv_goto (tgt := 13) hx hb dX3_beyond_108 (by decide) ?_
                exact ih_lp _ (by omega) (i + 1) ls (by omega) rfl (lv_sub hl [5, 6, 7, 8, 2, 1, 0] rfl)
          · refine lv_iload hx hb dX3_beyond_75 (lv_at hl 1 rfl) ?_
            refine lv_goto (tgt := 82) hx hb dX3_beyond_77 (by decide) ?_
            refine z_top (b := hlo w r a9 (i + 1)) (by rw [hlo]; first | (rw [if_pos (by omega)]; omega) | rw [if_neg (by omega)]) ?_
            refine lv_istore (lv' := [(4, .int (iI (hlo w r a9 (i + 1)))), (8, .int (iI z58)), (7, .int (iI (r i))), (0, .ref m0), (1, .int (iI v)), (2, .int (iI (a9 : Int))), (3, .int (iI (0 : Int))), (5, .int (iI (hhi w r a9 i))), (6, .int (iI (i : Int)))]) hx hb dX3_beyond_82 hl (by decide) rfl (fun ls hl => ?_)
            refine lv_iload hx hb dX3_beyond_84 (lv_at hl 1 rfl) ?_
            refine z_if_eq (tgt := 101) hx hb dX3_beyond_86 (by decide) (by omega) (fun h86 => ?_) (fun h86 => ?_)
            · refine lv_iload hx hb dX3_beyond_101 (lv_at hl 7 rfl) ?_
              refine z_top (b := hhi w r a9 (i + 1)) (by rw [hhi]; first | (rw [if_pos (by omega)]; omega) | rw [if_neg (by omega)]) ?_
              refine lv_istore (lv' := [(5, .int (iI (hhi w r a9 (i + 1)))), (4, .int (iI (hlo w r a9 (i + 1)))), (8, .int (iI z58)), (7, .int (iI (r i))), (0, .ref m0), (1, .int (iI v)), (2, .int (iI (a9 : Int))), (3, .int (iI (0 : Int))), (6, .int (iI (i : Int)))]) hx hb dX3_beyond_103 hl (by decide) rfl (fun ls hl => ?_)
              refine z_iinc (k := 8) (b := ((i + 1 : Nat) : Int)) (lv' := [(6, .int (iI ((i + 1 : Nat) : Int))), (5, .int (iI (hhi w r a9 (i + 1)))), (4, .int (iI (hlo w r a9 (i + 1)))), (8, .int (iI z58)), (7, .int (iI (r i))), (0, .ref m0), (1, .int (iI v)), (2, .int (iI (a9 : Int))), (3, .int (iI (0 : Int)))]) hx hb dX3_beyond_105 hl rfl (by omega) (by decide) rfl (fun ls hl => ?_)
              refine lv_goto (tgt := 13) hx hb dX3_beyond_108 (by decide) ?_
              exact ih_lp _ (by omega) (i + 1) ls (by omega) rfl (lv_sub hl [5, 6, 7, 8, 2, 1, 0] rfl)
            · refine lv_iload hx hb dX3_beyond_89 (lv_at hl 2 rfl) ?_
              refine lv_iload hx hb dX3_beyond_91 (lv_at hl 7 rfl) ?_
              refine z_icmp_le (tgt := 101) hx hb dX3_beyond_93 (by decide) (by omega) (fun h93 => ?_) (fun h93 => ?_)
              · refine lv_iload hx hb dX3_beyond_101 (lv_at hl 7 rfl) ?_
                refine z_top (b := hhi w r a9 (i + 1)) (by rw [hhi]; first | (rw [if_pos (by omega)]; omega) | rw [if_neg (by omega)]) ?_
                refine lv_istore (lv' := [(5, .int (iI (hhi w r a9 (i + 1)))), (4, .int (iI (hlo w r a9 (i + 1)))), (8, .int (iI z58)), (7, .int (iI (r i))), (0, .ref m0), (1, .int (iI v)), (2, .int (iI (a9 : Int))), (3, .int (iI (0 : Int))), (6, .int (iI (i : Int)))]) hx hb dX3_beyond_103 hl (by decide) rfl (fun ls hl => ?_)
                refine z_iinc (k := 8) (b := ((i + 1 : Nat) : Int)) (lv' := [(6, .int (iI ((i + 1 : Nat) : Int))), (5, .int (iI (hhi w r a9 (i + 1)))), (4, .int (iI (hlo w r a9 (i + 1)))), (8, .int (iI z58)), (7, .int (iI (r i))), (0, .ref m0), (1, .int (iI v)), (2, .int (iI (a9 : Int))), (3, .int (iI (0 : Int)))]) hx hb dX3_beyond_105 hl rfl (by omega) (by decide) rfl (fun ls hl => ?_)
                refine lv_goto (tgt := 13) hx hb dX3_beyond_108 (by decide) ?_
                exact ih_lp _ (by omega) (i + 1) ls (by omega) rfl (lv_sub hl [5, 6, 7, 8, 2, 1, 0] rfl)
              · refine lv_iload hx hb dX3_beyond_96 (lv_at hl 2 rfl) ?_
                refine lv_goto (tgt := 103) hx hb dX3_beyond_98 (by decide) ?_
                refine z_top (b := hhi w r a9 (i + 1)) (by rw [hhi]; first | (rw [if_pos (by omega)]; omega) | rw [if_neg (by omega)]) ?_
                refine lv_istore (lv' := [(5, .int (iI (hhi w r a9 (i + 1)))), (4, .int (iI (hlo w r a9 (i + 1)))), (8, .int (iI z58)), (7, .int (iI (r i))), (0, .ref m0), (1, .int (iI v)), (2, .int (iI (a9 : Int))), (3, .int (iI (0 : Int))), (6, .int (iI (i : Int)))]) hx hb dX3_beyond_103 hl (by decide) rfl (fun ls hl => ?_)
                refine z_iinc (k := 8) (b := ((i + 1 : Nat) : Int)) (lv' := [(6, .int (iI ((i + 1 : Nat) : Int))), (5, .int (iI (hhi w r a9 (i + 1)))), (4, .int (iI (hlo w r a9 (i + 1)))), (8, .int (iI z58)), (7, .int (iI (r i))), (0, .ref m0), (1, .int (iI v)), (2, .int (iI (a9 : Int))), (3, .int (iI (0 : Int)))]) hx hb dX3_beyond_105 hl rfl (by omega) (by decide) rfl (fun ls hl => ?_)
                refine lv_goto (tgt := 13) hx hb dX3_beyond_108 (by decide) ?_
                exact ih_lp _ (by omega) (i + 1) ls (by omega) rfl (lv_sub hl [5, 6, 7, 8, 2, 1, 0] rfl)
  exact lp _ 0 ls (by omega) rfl (lv_sub hl [3, 4, 5, 6, 2, 1, 0] rfl)
set_option maxRecDepth 100000 in
set_option maxHeartbeats 4000000 in
theorem c_boundOf (l : Launch) (dC : Nat → ClassId) (dI : Nat → Nat → Nat) (cI : ClassId) (m0 mq mn ml ms mr mg mp mpl mdi mc : Nat) (cd : Int) (n w rc sc mo fo : Nat) (q r : Nat → Int) (which : Int) (hn : 2 ≤ n ∧ n ≤ 16) (hw : w ≤ 15) (hvq : vals n q) (hvr : vals n r) (hwh : 0 ≤ which ∧ which ≤ 2) : Met l yX3_boundOf wsX3_boundOf ({ frames := 2, cells := 0, slots := 0, locals := 50 }) (rdP dC dI [(cI, .int)] [(m0, .inr (3, [.int (iI cd), .int (iI (n : Int)), .int (iI (w : Int)), .ref mq, .int (iI (rc : Int)), .ref mn, .ref ml, .int (iI (sc : Int)), .ref ms, .ref mr, .ref mg, .ref mp, .int (iI (mo : Int)), .int (iI (fo : Int)), .ref mpl, .ref mdi, .ref mc])), (mq, .inl (cI, 16, .inl (iA q))), (mr, .inl (cI, 16, .inl (iA r)))] [.ref m0, .int (iI which)]) (rdQ (fun z => z = lbd n w q r which)) 0 0 (fun _ => False) := by
  refine Met.ofW (cc := cX3_boundOf) (maxL := 4) (ret := (some .int)) (by decide) rfl ?_
  intro p e s m args below meth c s₁ B hml hv
  obtain ⟨rfl, hP, hK⟩ := hv
  have hx := B.exec
  have hb := B.bytes
  have hr := B.returns
  have hts : ∀ w ∈ wsX3_boundOf, w.before _ s = true := atoms_spec (ws := wsX3_boundOf) B.pre
  have hown : s.vm.findClass RX3 = some m.cls := findClass_of_methodNamed B.named
  have hlocks := B.notSynchronized
  have hl := lv_entry ([.ref m0, .int (iI which)]) (n := 4) (Nat.le_of_ble_eq_true rfl)
  rw [lg_entry_eq]
  generalize (lg_sl ([.ref m0, .int (iI which)]) ++ List.replicate (4 - (lg_sl ([.ref m0, .int (iI which)])).length) Slot.unset).toArray = ls at hl ⊢
  have hl : lv_has ls 4 [(0, .ref m0), (1, .int (iI which))] := hl
  generalize hargs : ([.ref m0, .int (iI which)] : List Value).toArray = args at hts ⊢
  refine z_intro (fun R Q hR hQ => ?_)
  have hRf : R.frames = 2 := by rw [hR]; rfl
  have hRl : R.locals = 50 := by rw [hR]; rfl
  have hRc : R.cells = 0 := by rw [hR]; rfl
  have hRs : R.slots = 0 := by rw [hR]; rfl
  have in_X3 : ∀ w ∈ u_ws RX3 TX3 17, w ∈ wsX3_boundOf := fun w h => List.mem_cons_of_mem _ (inW_X3 w h)
  have fl_7 := wa_hts hts wd_485
  have fl_13 := wa_hts hts wd_487
  have fl_26 := wa_hts hts wd_493
  clear hR hargs B
  refine lv_iload_n hx hb dX3_boundOf_0 rfl (lv_at hl 1 rfl) ?_
  refine z_if_ne (tgt := 50) hx hb dX3_boundOf_1 (by decide) (by omega) (fun h1 => ?_) (fun h1 => ?_)
  · refine lv_iconst (v := iI (0 : Int)) hx hb dX3_boundOf_50 (by decide) ?_
    refine z_top (b := if which = 1 then hbd n w q r 0 else hbd n w r q 0) (by split <;> rfl) ?_
    refine lv_istore_n (lv' := [(2, .int (iI (if which = 1 then hbd n w q r 0 else hbd n w r q 0))), (0, .ref m0), (1, .int (iI which))]) hx hb dX3_boundOf_51 rfl hl (by decide) rfl (fun ls hl => ?_)
    refine lv_iconst (v := iI (0 : Int)) hx hb dX3_boundOf_52 (by decide) ?_
    refine lv_istore_n (lv' := [(3, .int (iI (0 : Int))), (2, .int (iI (if which = 1 then hbd n w q r 0 else hbd n w r q 0))), (0, .ref m0), (1, .int (iI which))]) hx hb dX3_boundOf_53 rfl hl (by decide) rfl (fun ls hl => ?_)
    have lp : ∀ (k9 : Nat) (i : Nat) (ls : Array Slot), (i ≤ n) → n - i = k9 → lv_has ls 4 [(0, .ref m0), (1, .int (iI which)), (2, .int (iI (if which = 1 then hbd n w q r i else hbd n w r q i))), (3, .int (iI (i : Int)))] → W p l e R s m args below meth c s.heap [] 0 0 Q (F0 m 54 ls []) := by
      intro k9
      induction k9 using Nat.strongRecOn with
      | ind k9 ih_lp =>
        intro i ls hi hk9 hl
        refine lv_iload_n hx hb dX3_boundOf_54 rfl (lv_at hl 3 rfl) ?_
        refine lv_aload_n hx hb dX3_boundOf_55 rfl (lv_at hl 0 rfl) ?_
        refine va_get (D := (dC, dI)) (ci := 3) (v := .int (iI (n : Int))) (C := RX3) (T := TX3) (N := 17) hx hb hts in_X3 hown hK hP 0 rfl rfl 1 (by decide) fl_7 (fun _ h9 => h9) rfl dX3_boundOf_56 ?_
        refine z_icmp_ge (tgt := 106) hx hb dX3_boundOf_59 (by decide) (by omega) (fun h59 => ?_) (fun h59 => ?_)
        · refine lv_iload_n hx hb dX3_boundOf_106 rfl (lv_at hl 2 rfl) ?_
          exact zr_ret (z := if which = 1 then hbd n w q r i else hbd n w r q i) hx hb hr hlocks hQ ((congrArg (fun k => if which = 1 then hbd n w q r k else hbd n w r q k) (show i = n by omega)).trans (by unfold lbd; rw [if_neg h1])) dX3_boundOf_107
        · refine lv_iload_n hx hb dX3_boundOf_62 rfl (lv_at hl 2 rfl) ?_
          refine lv_aload_n hx hb dX3_boundOf_63 rfl (lv_at hl 0 rfl) ?_
          refine lv_iload_n hx hb dX3_boundOf_64 rfl (lv_at hl 1 rfl) ?_
          refine lv_iconst (v := iI (1 : Int)) hx hb dX3_boundOf_65 (by decide) ?_
          refine z_icmp_ne (tgt := 78) hx hb dX3_boundOf_66 (by decide) (by omega) (fun h66 => ?_) (fun h66 => ?_)
          · refine lv_aload_n hx hb dX3_boundOf_78 rfl (lv_at hl 0 rfl) ?_
            refine va_get (D := (dC, dI)) (ci := 3) (v := .ref mq) (C := RX3) (T := TX3) (N := 17) hx hb hts in_X3 hown hK hP 0 rfl rfl 3 (by decide) fl_13 (fun _ h9 => h9) rfl dX3_boundOf_79 ?_
            refine lv_iload_n hx hb dX3_boundOf_82 rfl (lv_at hl 3 rfl) ?_
            refine z_iald hx hb hK hP 1 0 rfl rfl i (by omega) dX3_boundOf_83 ?_
            refine lv_iload_n hx hb dX3_boundOf_84 rfl (lv_at hl 3 rfl) ?_
            refine lv_iload_n hx hb dX3_boundOf_85 rfl (lv_at hl 1 rfl) ?_
            refine lv_iconst (v := iI (1 : Int)) hx hb dX3_boundOf_86 (by decide) ?_
            refine z_icmp_ne (tgt := 94) hx hb dX3_boundOf_87 (by decide) (by omega) (fun h87 => ?_) (fun h87 => ?_)
            · refine lv_iconst (v := iI (0 : Int)) hx hb dX3_boundOf_94 (by decide) ?_
              refine zr_i (va_runV (As := [.int (iI (q i)), .int (iI (i : Int)), .int (iI (0 : Int))]) (rest := [.int (iI (if which = 1 then hbd n w q r i else hbd n w r q i))]) ⟨hx, hb, hml, hown, hts⟩ (c_beyondR l dC dI cI m0 mq mn ml ms mr mg mp mpl mdi mc cd n w rc sc mo fo q r (q i) i hn hw hvq hvr (by omega) (hvq i (by omega))) (cwV 3 hts (ga_V wd_598 wd_600 wd_20 wd_31 wd_601) rfl rfl rfl (by decide +kernel) ⟨(show 1 + 1 ≤ R.frames by omega), (show 8 + (9 + 11) + 22 ≤ R.locals by omega)⟩) (rd_preV (q0 := 0) (ci := 3) hP hK [0, 1, 2] rfl rfl rfl) rfl rfl hl.1 rfl (lv_room (Nat.le_of_ble_eq_true rfl)) dX3_boundOf_95 ⟨by omega, by omega⟩) (fun z95 hz95 => ?_)
              refine z_iadd hx hb dX3_boundOf_98 ?_
              refine z_top (b := if which = 1 then hbd n w q r (i + 1) else hbd n w r q (i + 1)) (by first | (rw [if_pos h66, if_pos h66, hbd, hz95]) | (rw [if_neg h66, if_neg h66, hbd, hz95])) ?_
              refine lv_istore_n (lv' := [(2, .int (iI (if which = 1 then hbd n w q r (i + 1) else hbd n w r q (i + 1)))), (0, .ref m0), (1, .int (iI which)), (3, .int (iI (i : Int)))]) hx hb dX3_boundOf_99 rfl hl (by decide) rfl (fun ls hl => ?_)
              refine z_iinc (k := 3) (b := ((i + 1 : Nat) : Int)) (lv' := [(3, .int (iI ((i + 1 : Nat) : Int))), (2, .int (iI (if which = 1 then hbd n w q r (i + 1) else hbd n w r q (i + 1)))), (0, .ref m0), (1, .int (iI which))]) hx hb dX3_boundOf_100 hl rfl (by omega) (by decide) rfl (fun ls hl => ?_)
              refine lv_goto (tgt := 54) hx hb dX3_boundOf_103 (by decide) ?_
              exact ih_lp _ (by omega) (i + 1) ls (by omega) rfl (lv_sub hl [2, 3, 1, 0] rfl)
            · refine lv_iconst (v := iI (1 : Int)) hx hb dX3_boundOf_90 (by decide) ?_
              refine lv_goto (tgt := 95) hx hb dX3_boundOf_91 (by decide) ?_
              exfalso
              omega
          · refine lv_aload_n hx hb dX3_boundOf_69 rfl (lv_at hl 0 rfl) ?_
            refine va_get (D := (dC, dI)) (ci := 3) (v := .ref mr) (C := RX3) (T := TX3) (N := 17) hx hb hts in_X3 hown hK hP 0 rfl rfl 9 (by decide) fl_26 (fun _ h9 => h9) rfl dX3_boundOf_70 ?_
            refine lv_iload_n hx hb dX3_boundOf_73 rfl (lv_at hl 3 rfl) ?_
            refine z_iald hx hb hK hP 2 0 rfl rfl i (by omega) dX3_boundOf_74 ?_
            refine lv_goto (tgt := 84) hx hb dX3_boundOf_75 (by decide) ?_
            refine lv_iload_n hx hb dX3_boundOf_84 rfl (lv_at hl 3 rfl) ?_
            refine lv_iload_n hx hb dX3_boundOf_85 rfl (lv_at hl 1 rfl) ?_
            refine lv_iconst (v := iI (1 : Int)) hx hb dX3_boundOf_86 (by decide) ?_
            refine z_icmp_ne (tgt := 94) hx hb dX3_boundOf_87 (by decide) (by omega) (fun h87 => ?_) (fun h87 => ?_)
            · refine lv_iconst (v := iI (0 : Int)) hx hb dX3_boundOf_94 (by decide) ?_
              exfalso
              omega
            · refine lv_iconst (v := iI (1 : Int)) hx hb dX3_boundOf_90 (by decide) ?_
              refine lv_goto (tgt := 95) hx hb dX3_boundOf_91 (by decide) ?_
              refine zr_i (va_runV (As := [.int (iI (r i)), .int (iI (i : Int)), .int (iI (1 : Int))]) (rest := [.int (iI (if which = 1 then hbd n w q r i else hbd n w r q i))]) ⟨hx, hb, hml, hown, hts⟩ (c_beyondQ l dC dI cI m0 mq mn ml ms mr mg mp mpl mdi mc cd n w rc sc mo fo q r (r i) i hn hw hvq hvr (by omega) (hvr i (by omega))) (cwV 3 hts (ga_V wd_598 wd_600 wd_20 wd_31 wd_601) rfl rfl rfl (by decide +kernel) ⟨(show 1 + 1 ≤ R.frames by omega), (show 8 + (9 + 11) + 22 ≤ R.locals by omega)⟩) (rd_preV (q0 := 0) (ci := 3) hP hK [0, 1, 2] rfl rfl rfl) rfl rfl hl.1 rfl (lv_room (Nat.le_of_ble_eq_true rfl)) dX3_boundOf_95 ⟨by omega, by omega⟩) (fun z95 hz95 => ?_)
              refine z_iadd hx hb dX3_boundOf_98 ?_
              refine z_top (b := if which = 1 then hbd n w q r (i + 1) else hbd n w r q (i + 1)) (by first | (rw [if_pos h66, if_pos h66, hbd, hz95]) | (rw [if_neg h66, if_neg h66, hbd, hz95])) ?_
              refine lv_istore_n (lv' := [(2, .int (iI (if which = 1 then hbd n w q r (i + 1) else hbd n w r q (i + 1)))), (0, .ref m0), (1, .int (iI which)), (3, .int (iI (i : Int)))]) hx hb dX3_boundOf_99 rfl hl (by decide) rfl (fun ls hl => ?_)
              refine z_iinc (k := 3) (b := ((i + 1 : Nat) : Int)) (lv' := [(3, .int (iI ((i + 1 : Nat) : Int))), (2, .int (iI (if which = 1 then hbd n w q r (i + 1) else hbd n w r q (i + 1)))), (0, .ref m0), (1, .int (iI which))]) hx hb dX3_boundOf_100 hl rfl (by omega) (by decide) rfl (fun ls hl => ?_)
              refine lv_goto (tgt := 54) hx hb dX3_boundOf_103 (by decide) ?_
              exact ih_lp _ (by omega) (i + 1) ls (by omega) rfl (lv_sub hl [2, 3, 1, 0] rfl)
    exact lp _ 0 ls (by omega) rfl (lv_sub hl [2, 3, 1, 0] rfl)
  · refine lv_aload_n hx hb dX3_boundOf_4 rfl (lv_at hl 0 rfl) ?_
    refine va_get (D := (dC, dI)) (ci := 3) (v := .ref mq) (C := RX3) (T := TX3) (N := 17) hx hb hts in_X3 hown hK hP 0 rfl rfl 3 (by decide) fl_13 (fun _ h9 => h9) rfl dX3_boundOf_5 ?_
    refine lv_iconst (v := iI (0 : Int)) hx hb dX3_boundOf_8 (by decide) ?_
    refine z_iald hx hb hK hP 1 0 rfl rfl 0 (by omega) dX3_boundOf_9 ?_
    refine lv_aload_n hx hb dX3_boundOf_10 rfl (lv_at hl 0 rfl) ?_
    refine va_get (D := (dC, dI)) (ci := 3) (v := .ref mr) (C := RX3) (T := TX3) (N := 17) hx hb hts in_X3 hown hK hP 0 rfl rfl 9 (by decide) fl_26 (fun _ h9 => h9) rfl dX3_boundOf_11 ?_
    refine lv_iconst (v := iI (0 : Int)) hx hb dX3_boundOf_14 (by decide) ?_
    refine z_iald hx hb hK hP 2 0 rfl rfl 0 (by omega) dX3_boundOf_15 ?_
    refine z_isub hx hb dX3_boundOf_16 ?_
    refine lv_istore_n (lv' := [(2, .int (iI ((q 0) - (r 0)))), (0, .ref m0), (1, .int (iI which))]) hx hb dX3_boundOf_17 rfl hl (by decide) rfl (fun ls hl => ?_)
    refine lv_aload_n hx hb dX3_boundOf_18 rfl (lv_at hl 1 rfl) ?_
    refine va_get (D := (dC, dI)) (ci := 3) (v := .ref mq) (C := RX3) (T := TX3) (N := 17) hx hb hts in_X3 hown hK hP 0 rfl rfl 3 (by decide) fl_13 (fun _ h9 => h9) rfl dX3_boundOf_19 ?_
    refine lv_aload_n hx hb dX3_boundOf_22 rfl (lv_at hl 1 rfl) ?_
    refine va_get (D := (dC, dI)) (ci := 3) (v := .int (iI (n : Int))) (C := RX3) (T := TX3) (N := 17) hx hb hts in_X3 hown hK hP 0 rfl rfl 1 (by decide) fl_7 (fun _ h9 => h9) rfl dX3_boundOf_23 ?_
    refine lv_iconst (v := iI (1 : Int)) hx hb dX3_boundOf_26 (by decide) ?_
    refine z_isub hx hb dX3_boundOf_27 ?_
    refine z_top (b := ((n - 1 : Nat) : Int)) (by omega) ?_
    refine z_iald hx hb hK hP 1 0 rfl rfl (n - 1) (by omega) dX3_boundOf_28 ?_
    refine lv_aload_n hx hb dX3_boundOf_29 rfl (lv_at hl 1 rfl) ?_
    refine va_get (D := (dC, dI)) (ci := 3) (v := .ref mr) (C := RX3) (T := TX3) (N := 17) hx hb hts in_X3 hown hK hP 0 rfl rfl 9 (by decide) fl_26 (fun _ h9 => h9) rfl dX3_boundOf_30 ?_
    refine lv_aload_n hx hb dX3_boundOf_33 rfl (lv_at hl 1 rfl) ?_
    refine va_get (D := (dC, dI)) (ci := 3) (v := .int (iI (n : Int))) (C := RX3) (T := TX3) (N := 17) hx hb hts in_X3 hown hK hP 0 rfl rfl 1 (by decide) fl_7 (fun _ h9 => h9) rfl dX3_boundOf_34 ?_
    refine lv_iconst (v := iI (1 : Int)) hx hb dX3_boundOf_37 (by decide) ?_
    refine z_isub hx hb dX3_boundOf_38 ?_
    refine z_top (b := ((n - 1 : Nat) : Int)) (by omega) ?_
    refine z_iald hx hb hK hP 2 0 rfl rfl (n - 1) (by omega) dX3_boundOf_39 ?_
    refine z_isub hx hb dX3_boundOf_40 ?_
    refine lv_istore_n (lv' := [(3, .int (iI ((q (n - 1)) - (r (n - 1))))), (2, .int (iI ((q 0) - (r 0)))), (0, .ref m0), (1, .int (iI which))]) hx hb dX3_boundOf_41 rfl hl (by decide) rfl (fun ls hl => ?_)
    refine lv_iload_n hx hb dX3_boundOf_42 rfl (lv_at hl 1 rfl) ?_
    refine lv_iload_n hx hb dX3_boundOf_43 rfl (lv_at hl 1 rfl) ?_
    refine z_imul hx hb dX3_boundOf_44 ?_
    refine lv_iload_n hx hb dX3_boundOf_45 rfl (lv_at hl 0 rfl) ?_
    refine lv_iload_n hx hb dX3_boundOf_46 rfl (lv_at hl 0 rfl) ?_
    refine z_imul hx hb dX3_boundOf_47 ?_
    refine z_iadd hx hb dX3_boundOf_48 ?_
    exact zr_ret (z := (((q 0) - (r 0)) * ((q 0) - (r 0))) + (((q (n - 1)) - (r (n - 1))) * ((q (n - 1)) - (r (n - 1))))) hx hb hr hlocks hQ (by unfold lbd; rw [if_pos h1]; rfl) dX3_boundOf_49
end
section
theorem wk_path {w n : Nat} {q r : Nat → Int} {t : Nat} {i j : Int} {P9 : Nat → Int} (hij : pseq w n q r (t + 1) = (i, j)) (hpt : ∀ u, u < t + 1 → P9 u = 16 * (pseq w n q r u).1 + (pseq w n q r u).2) : ∀ u, u < t + 1 + 1 → zU P9 (t + 1) (16 * i + j) u = 16 * (pseq w n q r u).1 + (pseq w n q r u).2 := by
  intro u hu
  by_cases g : u = t + 1
  · subst g
    rw [zU_s, hij]
  · rw [zU_n g]
    exact hpt u (by omega)
set_option maxRecDepth 100000 in
set_option maxHeartbeats 4000000 in
theorem c_walk (l : Launch) (dC : Nat → ClassId) (dI : Nat → Nat → Nat) (cI : ClassId) (m0 mq mn ml ms mr mg mp mpl mdi mc : Nat) (cd : Int) (n w rc sc mo fo : Nat) (q r G P : Nat → Int) (sz : Nat) (hn : 2 ≤ n ∧ n ≤ 16) (hw : w ≤ 15) (hvq : vals n q) (hvr : vals n r) (hfull : ∀ a b, a < n → b < n → inb w a b → G (16 * a + b) = cst w q r a b) : Met l yX3_walk wsX3_walk ({ frames := 3, cells := 0, slots := 0, locals := 66 }) (wrP dC dI [(cI, .int)] [(m0, .inr (3, [.int (iI cd), .int (iI (n : Int)), .int (iI (w : Int)), .ref mq, .int (iI (rc : Int)), .ref mn, .ref ml, .int (iI (sc : Int)), .ref ms, .ref mr, .ref mg, .ref mp, .int (iI (mo : Int)), .int (iI (fo : Int)), .ref mpl, .ref mdi, .ref mc])), (mg, .inl (cI, 256, .inl (iA G))), (mp, .inl (cI, 32, .inl (iA P)))] sz [.ref m0]) (wrQi dC dI [(cI, .int)] [(m0, .inr (3, [.int (iI cd), .int (iI (n : Int)), .int (iI (w : Int)), .ref mq, .int (iI (rc : Int)), .ref mn, .ref ml, .int (iI (sc : Int)), .ref ms, .ref mr, .ref mg, .ref mp, .int (iI (mo : Int)), .int (iI (fo : Int)), .ref mpl, .ref mdi, .ref mc])), (mg, .inl (cI, 256, .inl (iA G))), (mp, .inl (cI, 32, .inl (iA P)))] sz (S := (Nat × (Nat → Int))) (fun z u => z = (u.1 : Int) ∧ isMany w n q r u.1 ∧ u.1 ≤ 31 ∧ ∀ v, v < u.1 → u.2 v = 16 * (pseq w n q r v).1 + (pseq w n q r v).2) (fun u => [(m0, .inr (3, [.int (iI cd), .int (iI (n : Int)), .int (iI (w : Int)), .ref mq, .int (iI (rc : Int)), .ref mn, .ref ml, .int (iI (sc : Int)), .ref ms, .ref mr, .ref mg, .ref mp, .int (iI (mo : Int)), .int (iI (fo : Int)), .ref mpl, .ref mdi, .ref mc])), (mg, .inl (cI, 256, .inl (iA G))), (mp, .inl (cI, 32, .inl (iA u.2)))])) 0 0 (va_A [(m0, .inr (3, [.int (iI cd), .int (iI (n : Int)), .int (iI (w : Int)), .ref mq, .int (iI (rc : Int)), .ref mn, .ref ml, .int (iI (sc : Int)), .ref ms, .ref mr, .ref mg, .ref mp, .int (iI (mo : Int)), .int (iI (fo : Int)), .ref mpl, .ref mdi, .ref mc])), (mg, .inl (cI, 256, .inl (iA G))), (mp, .inl (cI, 32, .inl (iA P)))] sz) := by
  refine Met.ofW (cc := cX3_walk) (maxL := 10) (ret := (some .int)) (by decide) rfl ?_
  intro p e s m args below meth c s₁ B hml hv
  obtain ⟨rfl, hsz, hP, hK, hD0⟩ := hv
  have hx := B.exec
  have hb := B.bytes
  have hr := B.returns
  have hts : ∀ w ∈ wsX3_walk, w.before _ s = true := atoms_spec (ws := wsX3_walk) B.pre
  have hown : s.vm.findClass RX3 = some m.cls := findClass_of_methodNamed B.named
  have hlocks := B.notSynchronized
  subst hsz
  have hD := hD0.self (sz := s.heap.size)
  have hA : ∀ q9 : Nat, s.heap.size ≤ q9 → va_A [(m0, .inr (3, [.int (iI cd), .int (iI (n : Int)), .int (iI (w : Int)), .ref mq, .int (iI (rc : Int)), .ref mn, .ref ml, .int (iI (sc : Int)), .ref ms, .ref mr, .ref mg, .ref mp, .int (iI (mo : Int)), .int (iI (fo : Int)), .ref mpl, .ref mdi, .ref mc])), (mg, .inl (cI, 256, .inl (iA G))), (mp, .inl (cI, 32, .inl (iA P)))] s.heap.size q9 := fun q9 h => Or.inr h
  have hS : va_S (va_A [(m0, .inr (3, [.int (iI cd), .int (iI (n : Int)), .int (iI (w : Int)), .ref mq, .int (iI (rc : Int)), .ref mn, .ref ml, .int (iI (sc : Int)), .ref ms, .ref mr, .ref mg, .ref mp, .int (iI (mo : Int)), .int (iI (fo : Int)), .ref mpl, .ref mdi, .ref mc])), (mg, .inl (cI, 256, .inl (iA G))), (mp, .inl (cI, 32, .inl (iA P)))] s.heap.size) s.heap s.heap [] := va_S.rf
  generalize hAe : va_A [(m0, .inr (3, [.int (iI cd), .int (iI (n : Int)), .int (iI (w : Int)), .ref mq, .int (iI (rc : Int)), .ref mn, .ref ml, .int (iI (sc : Int)), .ref ms, .ref mr, .ref mg, .ref mp, .int (iI (mo : Int)), .int (iI (fo : Int)), .ref mpl, .ref mdi, .ref mc])), (mg, .inl (cI, 256, .inl (iA G))), (mp, .inl (cI, 32, .inl (iA P)))] s.heap.size = A at hD hA hS
  have hP : va_P (dC, dI) vwCl [(m0, .inr (3, [.int (iI cd), .int (iI (n : Int)), .int (iI (w : Int)), .ref mq, .int (iI (rc : Int)), .ref mn, .ref ml, .int (iI (sc : Int)), .ref ms, .ref mr, .ref mg, .ref mp, .int (iI (mo : Int)), .int (iI (fo : Int)), .ref mpl, .ref mdi, .ref mc])), (mg, .inl (cI, 256, .inl (iA G))), (mp, .inl (cI, 32, .inl (iA P)))] s.heap := hP
  have hl := lv_entry ([.ref m0]) (n := 10) (Nat.le_of_ble_eq_true rfl)
  rw [lg_entry_eq]
  generalize (lg_sl ([.ref m0]) ++ List.replicate (10 - (lg_sl ([.ref m0])).length) Slot.unset).toArray = ls at hl ⊢
  have hl : lv_has ls 10 [(0, .ref m0)] := hl
  generalize hargs : ([.ref m0] : List Value).toArray = args at hts ⊢
  refine z_intro (fun R Q hR hQ => ?_)
  have hRf : R.frames = 3 := by rw [hR]; rfl
  have hRl : R.locals = 66 := by rw [hR]; rfl
  have hRc : R.cells = 0 := by rw [hR]; rfl
  have hRs : R.slots = 0 := by rw [hR]; rfl
  have in_X3 : ∀ w ∈ u_ws RX3 TX3 17, w ∈ wsX3_walk := fun w h => List.mem_cons_of_mem _ (inW_X3 w h)
  have fl_7 := wa_hts hts wd_485
  have fl_32 := wa_hts hts wd_495
  clear hR hargs B
  refine lv_aload_n hx hb dX3_walk_0 rfl (lv_at hl 0 rfl) ?_
  refine va_get (D := (dC, dI)) (ci := 3) (v := .int (iI (n : Int))) (C := RX3) (T := TX3) (N := 17) hx hb hts in_X3 hown hK hP 0 rfl rfl 1 (by decide) fl_7 (fun _ h9 => h9) rfl dX3_walk_1 ?_
  refine lv_iconst (v := iI (1 : Int)) hx hb dX3_walk_4 (by decide) ?_
  refine z_isub hx hb dX3_walk_5 ?_
  refine z_top (b := (n : Int) - 1) (by omega) ?_
  refine lv_istore_n (lv' := [(1, .int (iI ((n : Int) - 1))), (0, .ref m0)]) hx hb dX3_walk_6 rfl hl (by decide) rfl (fun ls hl => ?_)
  refine lv_aload_n hx hb dX3_walk_7 rfl (lv_at hl 1 rfl) ?_
  refine va_get (D := (dC, dI)) (ci := 3) (v := .int (iI (n : Int))) (C := RX3) (T := TX3) (N := 17) hx hb hts in_X3 hown hK hP 0 rfl rfl 1 (by decide) fl_7 (fun _ h9 => h9) rfl dX3_walk_8 ?_
  refine lv_iconst (v := iI (1 : Int)) hx hb dX3_walk_11 (by decide) ?_
  refine z_isub hx hb dX3_walk_12 ?_
  refine z_top (b := (n : Int) - 1) (by omega) ?_
  refine lv_istore_n (lv' := [(2, .int (iI ((n : Int) - 1))), (1, .int (iI ((n : Int) - 1))), (0, .ref m0)]) hx hb dX3_walk_13 rfl hl (by decide) rfl (fun ls hl => ?_)
  refine lv_iconst (v := iI (0 : Int)) hx hb dX3_walk_14 (by decide) ?_
  refine lv_istore_n (lv' := [(3, .int (iI (0 : Int))), (2, .int (iI ((n : Int) - 1))), (1, .int (iI ((n : Int) - 1))), (0, .ref m0)]) hx hb dX3_walk_15 rfl hl (by decide) rfl (fun ls hl => ?_)
  refine lv_aload_n hx hb dX3_walk_16 rfl (lv_at hl 3 rfl) ?_
  refine va_get (D := (dC, dI)) (ci := 3) (v := .ref mp) (C := RX3) (T := TX3) (N := 17) hx hb hts in_X3 hown hK hP 0 rfl rfl 11 (by decide) fl_32 (fun _ h9 => h9) rfl dX3_walk_17 ?_
  refine lv_iconst (v := iI (0 : Int)) hx hb dX3_walk_20 (by decide) ?_
  refine lv_bipush (v := iI (16 : Int)) hx hb dX3_walk_21 (by decide) ?_
  refine lv_iload_n hx hb dX3_walk_23 rfl (lv_at hl 2 rfl) ?_
  refine z_imul hx hb dX3_walk_24 ?_
  refine lv_iload_n hx hb dX3_walk_25 rfl (lv_at hl 1 rfl) ?_
  refine z_iadd hx hb dX3_walk_26 ?_
  refine z_iast hx hb hK hP hD hS 2 0 rfl rfl 0 (by omega) dX3_walk_27 (fun H locs hP hD hS => ?_)
  have hP : va_P (dC, dI) vwCl [(m0, .inr (3, [.int (iI cd), .int (iI (n : Int)), .int (iI (w : Int)), .ref mq, .int (iI (rc : Int)), .ref mn, .ref ml, .int (iI (sc : Int)), .ref ms, .ref mr, .ref mg, .ref mp, .int (iI (mo : Int)), .int (iI (fo : Int)), .ref mpl, .ref mdi, .ref mc])), (mg, .inl (cI, 256, .inl (iA G))), (mp, .inl (cI, 32, .inl (iA (zU P 0 (((16 : Int) * ((n : Int) - 1)) + ((n : Int) - 1))))))] H := hP
  have hD : va_D A [(m0, .inr (3, [.int (iI cd), .int (iI (n : Int)), .int (iI (w : Int)), .ref mq, .int (iI (rc : Int)), .ref mn, .ref ml, .int (iI (sc : Int)), .ref ms, .ref mr, .ref mg, .ref mp, .int (iI (mo : Int)), .int (iI (fo : Int)), .ref mpl, .ref mdi, .ref mc])), (mg, .inl (cI, 256, .inl (iA G))), (mp, .inl (cI, 32, .inl (iA (zU P 0 (((16 : Int) * ((n : Int) - 1)) + ((n : Int) - 1))))))] := hD
  refine lv_iconst (v := iI (1 : Int)) hx hb dX3_walk_28 (by decide) ?_
  refine lv_istore_n (lv' := [(3, .int (iI (1 : Int))), (2, .int (iI ((n : Int) - 1))), (1, .int (iI ((n : Int) - 1))), (0, .ref m0)]) hx hb dX3_walk_29 rfl hl (by decide) rfl (fun ls hl => ?_)
  have lp : ∀ (k9 : Nat) (t : Nat) (i9 j9 : Int) (P9 : Nat → Int) (H : Heap) (locs : List Loc) (ls : Array Slot), (t ≤ 30) → (pseq w n q r t = (i9, j9)) → (trA w n q r t i9 j9) → (∀ u, u < t + 1 → P9 u = 16 * (pseq w n q r u).1 + (pseq w n q r u).2) → 31 - t = k9 → va_P (dC, dI) vwCl [(m0, .inr (3, [.int (iI cd), .int (iI (n : Int)), .int (iI (w : Int)), .ref mq, .int (iI (rc : Int)), .ref mn, .ref ml, .int (iI (sc : Int)), .ref ms, .ref mr, .ref mg, .ref mp, .int (iI (mo : Int)), .int (iI (fo : Int)), .ref mpl, .ref mdi, .ref mc])), (mg, .inl (cI, 256, .inl (iA G))), (mp, .inl (cI, 32, .inl (iA P9)))] H → va_D A [(m0, .inr (3, [.int (iI cd), .int (iI (n : Int)), .int (iI (w : Int)), .ref mq, .int (iI (rc : Int)), .ref mn, .ref ml, .int (iI (sc : Int)), .ref ms, .ref mr, .ref mg, .ref mp, .int (iI (mo : Int)), .int (iI (fo : Int)), .ref mpl, .ref mdi, .ref mc])), (mg, .inl (cI, 256, .inl (iA G))), (mp, .inl (cI, 32, .inl (iA P9)))] → va_S A s.heap H locs → lv_has ls 10 [(0, .ref m0), (1, .int (iI i9)), (2, .int (iI j9)), (3, .int (iI ((t + 1 : Nat) : Int)))] → W p l e R s m args below meth c H locs 0 0 Q (F0 m 30 ls []) := by
    intro k9
    induction k9 using Nat.strongRecOn with
    | ind k9 ih_lp =>
      intro t i9 j9 P9 H locs ls ht hij hA9 hpt hk9 hP hD hS hl
      have hA2 : 0 ≤ i9 ∧ 0 ≤ j9 ∧ i9 - j9 ≤ (w : Int) ∧ j9 - i9 ≤ (w : Int) ∧ i9 + j9 + (t : Int) ≤ 2 * ((n : Int) - 1) ∧ i9 < (n : Int) ∧ j9 < (n : Int) := ⟨hA9.1, hA9.2.1, hA9.2.2.1, hA9.2.2.2.1, hA9.2.2.2.2.1, hA9.2.2.2.2.2.1, hA9.2.2.2.2.2.2.1⟩
      refine lv_iload_n hx hb dX3_walk_30 rfl (lv_at hl 1 rfl) ?_
      refine lv_iload_n hx hb dX3_walk_31 rfl (lv_at hl 2 rfl) ?_
      refine z_iadd hx hb dX3_walk_32 ?_
      refine z_if_le (tgt := 179) hx hb dX3_walk_33 (by decide) (by omega) (fun h33 => ?_) (fun h33 => ?_)
      · refine lv_iload_n hx hb dX3_walk_179 rfl (lv_at hl 3 rfl) ?_
        have h00 : i9 = 0 ∧ j9 = 0 := by omega
        subst hAe
        exact zw_reti (z := ((t + 1 : Nat) : Int)) ((t + 1, P9)) hx hb hr hlocks hQ (⟨rfl, ⟨by omega, by rw [show t + 1 - 1 = t from rfl, hij, h00.1, h00.2], fun u hu => hA9.2.2.2.2.2.2.2 u (by omega)⟩, by omega, hpt⟩) hP hK hD hS dX3_walk_180
      · refine lv_aload_n hx hb dX3_walk_36 rfl (lv_at hl 0 rfl) ?_
        refine lv_iload_n hx hb dX3_walk_37 rfl (lv_at hl 1 rfl) ?_
        refine lv_iconst (v := iI (1 : Int)) hx hb dX3_walk_38 (by decide) ?_
        refine z_isub hx hb dX3_walk_39 ?_
        refine lv_iload_n hx hb dX3_walk_40 rfl (lv_at hl 2 rfl) ?_
        refine lv_iconst (v := iI (1 : Int)) hx hb dX3_walk_41 (by decide) ?_
        refine z_isub hx hb dX3_walk_42 ?_
        refine zr_i (va_runV (As := [.int (iI (i9 - (1 : Int))), .int (iI (j9 - (1 : Int)))]) (rest := []) ⟨hx, hb, hml, hown, hts⟩ (c_mCostAt l dC dI cI m0 mq mn ml ms mr mg mp mpl mdi mc cd n w rc sc mo fo G (i9 - (1 : Int)) (j9 - (1 : Int)) hn hw (by omega) (by omega)) (cwV 2 hts (ga_V wd_583 wd_585 wd_18 wd_31 wd_586) rfl rfl rfl (by decide +kernel) ⟨(show 2 + 1 ≤ R.frames by omega), (show 8 + (3 + 11) + 44 ≤ R.locals by omega)⟩) (rd_preV (q0 := 0) (ci := 3) hP hK [0, 1] rfl rfl rfl) rfl rfl hl.1 rfl (lv_room (Nat.le_of_ble_eq_true rfl)) dX3_walk_43 ⟨by omega, by omega⟩) (fun z43 hz43 => ?_)
        refine lv_istore (lv' := [(4, .int (iI z43)), (0, .ref m0), (1, .int (iI i9)), (2, .int (iI j9)), (3, .int (iI ((t + 1 : Nat) : Int)))]) hx hb dX3_walk_46 hl (by decide) rfl (fun ls hl => ?_)
        refine lv_aload_n hx hb dX3_walk_48 rfl (lv_at hl 1 rfl) ?_
        refine lv_iload_n hx hb dX3_walk_49 rfl (lv_at hl 2 rfl) ?_
        refine lv_iconst (v := iI (1 : Int)) hx hb dX3_walk_50 (by decide) ?_
        refine z_isub hx hb dX3_walk_51 ?_
        refine lv_iload_n hx hb dX3_walk_52 rfl (lv_at hl 3 rfl) ?_
        refine zr_i (va_runV (As := [.int (iI (i9 - (1 : Int))), .int (iI j9)]) (rest := []) ⟨hx, hb, hml, hown, hts⟩ (c_mCostAt l dC dI cI m0 mq mn ml ms mr mg mp mpl mdi mc cd n w rc sc mo fo G (i9 - (1 : Int)) j9 hn hw (by omega) (by omega)) (cwV 2 hts (ga_V wd_583 wd_585 wd_18 wd_31 wd_586) rfl rfl rfl (by decide +kernel) ⟨(show 2 + 1 ≤ R.frames by omega), (show 8 + (3 + 11) + 44 ≤ R.locals by omega)⟩) (rd_preV (q0 := 0) (ci := 3) hP hK [0, 1] rfl rfl rfl) rfl rfl hl.1 rfl (lv_room (Nat.le_of_ble_eq_true rfl)) dX3_walk_53 ⟨by omega, by omega⟩) (fun z53 hz53 => ?_)
        refine lv_istore (lv' := [(5, .int (iI z53)), (4, .int (iI z43)), (0, .ref m0), (1, .int (iI i9)), (2, .int (iI j9)), (3, .int (iI ((t + 1 : Nat) : Int)))]) hx hb dX3_walk_56 hl (by decide) rfl (fun ls hl => ?_)
        refine lv_aload_n hx hb dX3_walk_58 rfl (lv_at hl 2 rfl) ?_
        refine lv_iload_n hx hb dX3_walk_59 rfl (lv_at hl 3 rfl) ?_
        refine lv_iload_n hx hb dX3_walk_60 rfl (lv_at hl 4 rfl) ?_
        refine lv_iconst (v := iI (1 : Int)) hx hb dX3_walk_61 (by decide) ?_
        refine z_isub hx hb dX3_walk_62 ?_
        refine zr_i (va_runV (As := [.int (iI i9), .int (iI (j9 - (1 : Int)))]) (rest := []) ⟨hx, hb, hml, hown, hts⟩ (c_mCostAt l dC dI cI m0 mq mn ml ms mr mg mp mpl mdi mc cd n w rc sc mo fo G i9 (j9 - (1 : Int)) hn hw (by omega) (by omega)) (cwV 2 hts (ga_V wd_583 wd_585 wd_18 wd_31 wd_586) rfl rfl rfl (by decide +kernel) ⟨(show 2 + 1 ≤ R.frames by omega), (show 8 + (3 + 11) + 44 ≤ R.locals by omega)⟩) (rd_preV (q0 := 0) (ci := 3) hP hK [0, 1] rfl rfl rfl) rfl rfl hl.1 rfl (lv_room (Nat.le_of_ble_eq_true rfl)) dX3_walk_63 ⟨by omega, by omega⟩) (fun z63 hz63 => ?_)
        refine lv_istore (lv' := [(6, .int (iI z63)), (5, .int (iI z53)), (4, .int (iI z43)), (0, .ref m0), (1, .int (iI i9)), (2, .int (iI j9)), (3, .int (iI ((t + 1 : Nat) : Int)))]) hx hb dX3_walk_66 hl (by decide) rfl (fun ls hl => ?_)
        have b43 := mAt_bd (w := w) hvq hvr hn.2 (i := i9 - 1) (j := j9 - 1) (by omega) (by omega) (fun _ _ h9 => hfull _ _ (by omega) (by omega) h9)
        have b53 := mAt_bd (w := w) hvq hvr hn.2 (i := i9 - 1) (j := j9) (by omega) (by omega) (fun _ _ h9 => hfull _ _ (by omega) (by omega) h9)
        have b63 := mAt_bd (w := w) hvq hvr hn.2 (i := i9) (j := j9 - 1) (by omega) (by omega) (fun _ _ h9 => hfull _ _ (by omega) (by omega) h9)
        rw [← hz43] at b43
        rw [← hz53] at b53
        rw [← hz63] at b63
        refine lv_iload hx hb dX3_walk_68 (lv_at hl 2 rfl) ?_
        refine lv_iload hx hb dX3_walk_70 (lv_at hl 1 rfl) ?_
        refine lv_iload hx hb dX3_walk_72 (lv_at hl 0 rfl) ?_
        refine zr_i (va_runS (As := [.int (iI z53), .int (iI z63)]) (rest := [.int (iI z43)]) ⟨hx, hb, hml, hown, hts⟩ (c_lesser l dC dI cI z53 z63 (by omega) (by omega)) (cwS 2 hts (ga_S wd_587 wd_588 wd_31 wd_589) rfl rfl rfl (by decide +kernel) ⟨(show 0 + 1 ≤ R.frames by omega), (show 8 + (2 + 11) + 0 ≤ R.locals by omega)⟩) (rd_preS hP hK [] rfl) rfl rfl hl.1 rfl (lv_room (Nat.le_of_ble_eq_true rfl)) dX3_walk_74 ⟨by omega, by omega⟩) (fun z74 hz74 => ?_)
        have r74 : -2147483648 ≤ z74 ∧ z74 ≤ 2147483647 := by rw [hz74]; exact lsr_rg (by omega) (by omega)
        refine zr_i (va_runS (As := [.int (iI z43), .int (iI z74)]) (rest := []) ⟨hx, hb, hml, hown, hts⟩ (c_lesser l dC dI cI z43 z74 (by omega) (by omega)) (cwS 2 hts (ga_S wd_587 wd_588 wd_31 wd_589) rfl rfl rfl (by decide +kernel) ⟨(show 0 + 1 ≤ R.frames by omega), (show 8 + (2 + 11) + 0 ≤ R.locals by omega)⟩) (rd_preS hP hK [] rfl) rfl rfl hl.1 rfl (lv_room (Nat.le_of_ble_eq_true rfl)) dX3_walk_77 ⟨by omega, by omega⟩) (fun z77 hz77 => ?_)
        have l77 := lsr3 (x := z43) (y := z53) (z := z63) (x' := bdI w q r (i9 - 1) (j9 - 1)) (y' := bdI w q r (i9 - 1) j9) (z' := bdI w q r i9 (j9 - 1)) (by omega) (by omega) (by omega)
        rw [← hz74, ← hz77] at l77
        refine lv_istore (lv' := [(7, .int (iI z77)), (6, .int (iI z63)), (5, .int (iI z53)), (4, .int (iI z43)), (0, .ref m0), (1, .int (iI i9)), (2, .int (iI j9)), (3, .int (iI ((t + 1 : Nat) : Int)))]) hx hb dX3_walk_80 hl (by decide) rfl (fun ls hl => ?_)
        refine lv_iload hx hb dX3_walk_82 (lv_at hl 3 rfl) ?_
        refine lv_iload hx hb dX3_walk_84 (lv_at hl 0 rfl) ?_
        refine z_icmp_ne (tgt := 98) hx hb dX3_walk_86 (by decide) (by omega) (fun h86 => ?_) (fun h86 => ?_)
        · refine lv_iconst (v := iI (0 : Int)) hx hb dX3_walk_98 (by decide) ?_
          refine lv_istore (lv' := [(8, .int (iI (0 : Int))), (7, .int (iI z77)), (6, .int (iI z63)), (5, .int (iI z53)), (4, .int (iI z43)), (0, .ref m0), (1, .int (iI i9)), (2, .int (iI j9)), (3, .int (iI ((t + 1 : Nat) : Int)))]) hx hb dX3_walk_99 hl (by decide) rfl (fun ls hl => ?_)
          refine lv_iload hx hb dX3_walk_101 (lv_at hl 0 rfl) ?_
          refine z_if_ne (tgt := 122) hx hb dX3_walk_103 (by decide) (by decide) (fun h9 => absurd h9 (by decide)) (fun _ => ?_)
          refine lv_iload hx hb dX3_walk_106 (lv_at hl 3 rfl) ?_
          refine lv_iload hx hb dX3_walk_108 (lv_at hl 1 rfl) ?_
          refine z_icmp_ne (tgt := 122) hx hb dX3_walk_110 (by decide) (by omega) (fun h110 => ?_) (fun h110 => ?_)
          · refine lv_iconst (v := iI (0 : Int)) hx hb dX3_walk_122 (by decide) ?_
            refine lv_istore (lv' := [(9, .int (iI (0 : Int))), (8, .int (iI (0 : Int))), (7, .int (iI z77)), (6, .int (iI z63)), (5, .int (iI z53)), (4, .int (iI z43)), (0, .ref m0), (1, .int (iI i9)), (2, .int (iI j9)), (3, .int (iI ((t + 1 : Nat) : Int)))]) hx hb dX3_walk_123 hl (by decide) rfl (fun ls hl => ?_)
            refine lv_iload hx hb dX3_walk_125 (lv_at hl 1 rfl) ?_
            refine z_if_ne (tgt := 135) hx hb dX3_walk_127 (by decide) (by decide) (fun h9 => absurd h9 (by decide)) (fun _ => ?_)
            refine lv_iload hx hb dX3_walk_130 (lv_at hl 0 rfl) ?_
            refine z_if_eq (tgt := 141) hx hb dX3_walk_132 (by decide) (by decide) (fun _ => ?_) (fun h9 => absurd h9 (by decide))
            refine lv_iload_n hx hb dX3_walk_141 rfl (lv_at hl 7 rfl) ?_
            refine lv_istore_n (lv' := [(1, .int (iI i9)), (9, .int (iI (0 : Int))), (8, .int (iI (0 : Int))), (7, .int (iI z77)), (6, .int (iI z63)), (5, .int (iI z53)), (4, .int (iI z43)), (0, .ref m0), (2, .int (iI j9)), (3, .int (iI ((t + 1 : Nat) : Int)))]) hx hb dX3_walk_142 rfl hl (by decide) rfl (fun ls hl => ?_)
            refine lv_iload hx hb dX3_walk_143 (lv_at hl 2 rfl) ?_
            refine z_if_ne (tgt := 153) hx hb dX3_walk_145 (by decide) (by decide) (fun h9 => absurd h9 (by decide)) (fun _ => ?_)
            refine lv_iload hx hb dX3_walk_148 (lv_at hl 1 rfl) ?_
            refine z_if_ne (tgt := 159) hx hb dX3_walk_150 (by decide) (by decide) (fun h9 => absurd h9 (by decide)) (fun _ => ?_)
            refine lv_iload_n hx hb dX3_walk_153 rfl (lv_at hl 8 rfl) ?_
            refine lv_iconst (v := iI (1 : Int)) hx hb dX3_walk_154 (by decide) ?_
            refine z_isub hx hb dX3_walk_155 ?_
            refine z_top (b := j9 - 1) (by omega) ?_
            refine lv_goto (tgt := 160) hx hb dX3_walk_156 (by decide) ?_
            refine lv_istore_n (lv' := [(2, .int (iI (j9 - 1))), (1, .int (iI i9)), (9, .int (iI (0 : Int))), (8, .int (iI (0 : Int))), (7, .int (iI z77)), (6, .int (iI z63)), (5, .int (iI z53)), (4, .int (iI z43)), (0, .ref m0), (3, .int (iI ((t + 1 : Nat) : Int)))]) hx hb dX3_walk_160 rfl hl (by decide) rfl (fun ls hl => ?_)
            refine lv_aload_n hx hb dX3_walk_161 rfl (lv_at hl 8 rfl) ?_
            refine va_get (D := (dC, dI)) (ci := 3) (v := .ref mp) (C := RX3) (T := TX3) (N := 17) hx hb hts in_X3 hown hK hP 0 rfl rfl 11 (by decide) fl_32 (fun _ h9 => h9) rfl dX3_walk_162 ?_
            refine lv_iload_n hx hb dX3_walk_165 rfl (lv_at hl 9 rfl) ?_
            refine lv_bipush (v := iI (16 : Int)) hx hb dX3_walk_166 (by decide) ?_
            refine lv_iload_n hx hb dX3_walk_168 rfl (lv_at hl 1 rfl) ?_
            refine z_imul hx hb dX3_walk_169 ?_
            refine lv_iload_n hx hb dX3_walk_170 rfl (lv_at hl 0 rfl) ?_
            refine z_iadd hx hb dX3_walk_171 ?_
            refine z_iast hx hb hK hP hD hS 2 0 rfl rfl (t + 1) (by omega) dX3_walk_172 (fun H locs hP hD hS => ?_)
            have hP : va_P (dC, dI) vwCl [(m0, .inr (3, [.int (iI cd), .int (iI (n : Int)), .int (iI (w : Int)), .ref mq, .int (iI (rc : Int)), .ref mn, .ref ml, .int (iI (sc : Int)), .ref ms, .ref mr, .ref mg, .ref mp, .int (iI (mo : Int)), .int (iI (fo : Int)), .ref mpl, .ref mdi, .ref mc])), (mg, .inl (cI, 256, .inl (iA G))), (mp, .inl (cI, 32, .inl (iA (zU P9 (t + 1) (((16 : Int) * i9) + (j9 - 1))))))] H := hP
            have hD : va_D A [(m0, .inr (3, [.int (iI cd), .int (iI (n : Int)), .int (iI (w : Int)), .ref mq, .int (iI (rc : Int)), .ref mn, .ref ml, .int (iI (sc : Int)), .ref ms, .ref mr, .ref mg, .ref mp, .int (iI (mo : Int)), .int (iI (fo : Int)), .ref mpl, .ref mdi, .ref mc])), (mg, .inl (cI, 256, .inl (iA G))), (mp, .inl (cI, 32, .inl (iA (zU P9 (t + 1) (((16 : Int) * i9) + (j9 - 1))))))] := hD
            refine z_iinc (k := 9) (b := ((t + 1 + 1 : Nat) : Int)) (lv' := [(3, .int (iI ((t + 1 + 1 : Nat) : Int))), (2, .int (iI (j9 - 1))), (1, .int (iI i9)), (9, .int (iI (0 : Int))), (8, .int (iI (0 : Int))), (7, .int (iI z77)), (6, .int (iI z63)), (5, .int (iI z53)), (4, .int (iI z43)), (0, .ref m0)]) hx hb dX3_walk_173 hl rfl (by omega) (by decide) rfl (fun ls hl => ?_)
            refine lv_goto (tgt := 30) hx hb dX3_walk_176 (by decide) ?_
            exact ih_lp _ (by omega) (t + 1) i9 (j9 - 1) (zU P9 (t + 1) (16 * (i9) + (j9 - 1))) H locs ls (by have := hA2; omega) (by rw [pseq, hij]; exact pnx_3 (by omega) (by omega)) (tr_on hvq hvr hn.2 hA9 hij (by omega) (pnx_3 (by omega) (by omega))) (wk_path (by rw [pseq, hij]; exact pnx_3 (by omega) (by omega)) hpt) rfl hP hD hS (lv_sub hl [9, 2, 1, 0] rfl)
          · refine lv_iload hx hb dX3_walk_113 (lv_at hl 3 rfl) ?_
            refine z_if_lt (tgt := 122) hx hb dX3_walk_115 (by decide) (by omega) (fun h115 => ?_) (fun h115 => ?_)
            · refine lv_iconst (v := iI (0 : Int)) hx hb dX3_walk_122 (by decide) ?_
              refine lv_istore (lv' := [(9, .int (iI (0 : Int))), (8, .int (iI (0 : Int))), (7, .int (iI z77)), (6, .int (iI z63)), (5, .int (iI z53)), (4, .int (iI z43)), (0, .ref m0), (1, .int (iI i9)), (2, .int (iI j9)), (3, .int (iI ((t + 1 : Nat) : Int)))]) hx hb dX3_walk_123 hl (by decide) rfl (fun ls hl => ?_)
              refine lv_iload hx hb dX3_walk_125 (lv_at hl 1 rfl) ?_
              refine z_if_ne (tgt := 135) hx hb dX3_walk_127 (by decide) (by decide) (fun h9 => absurd h9 (by decide)) (fun _ => ?_)
              refine lv_iload hx hb dX3_walk_130 (lv_at hl 0 rfl) ?_
              refine z_if_eq (tgt := 141) hx hb dX3_walk_132 (by decide) (by decide) (fun _ => ?_) (fun h9 => absurd h9 (by decide))
              refine lv_iload_n hx hb dX3_walk_141 rfl (lv_at hl 7 rfl) ?_
              refine lv_istore_n (lv' := [(1, .int (iI i9)), (9, .int (iI (0 : Int))), (8, .int (iI (0 : Int))), (7, .int (iI z77)), (6, .int (iI z63)), (5, .int (iI z53)), (4, .int (iI z43)), (0, .ref m0), (2, .int (iI j9)), (3, .int (iI ((t + 1 : Nat) : Int)))]) hx hb dX3_walk_142 rfl hl (by decide) rfl (fun ls hl => ?_)
              refine lv_iload hx hb dX3_walk_143 (lv_at hl 2 rfl) ?_
              refine z_if_ne (tgt := 153) hx hb dX3_walk_145 (by decide) (by decide) (fun h9 => absurd h9 (by decide)) (fun _ => ?_)
              refine lv_iload hx hb dX3_walk_148 (lv_at hl 1 rfl) ?_
              refine z_if_ne (tgt := 159) hx hb dX3_walk_150 (by decide) (by decide) (fun h9 => absurd h9 (by decide)) (fun _ => ?_)
              refine lv_iload_n hx hb dX3_walk_153 rfl (lv_at hl 8 rfl) ?_
              refine lv_iconst (v := iI (1 : Int)) hx hb dX3_walk_154 (by decide) ?_
              refine z_isub hx hb dX3_walk_155 ?_
              refine z_top (b := j9 - 1) (by omega) ?_
              refine lv_goto (tgt := 160) hx hb dX3_walk_156 (by decide) ?_
              refine lv_istore_n (lv' := [(2, .int (iI (j9 - 1))), (1, .int (iI i9)), (9, .int (iI (0 : Int))), (8, .int (iI (0 : Int))), (7, .int (iI z77)), (6, .int (iI z63)), (5, .int (iI z53)), (4, .int (iI z43)), (0, .ref m0), (3, .int (iI ((t + 1 : Nat) : Int)))]) hx hb dX3_walk_160 rfl hl (by decide) rfl (fun ls hl => ?_)
              refine lv_aload_n hx hb dX3_walk_161 rfl (lv_at hl 8 rfl) ?_
              refine va_get (D := (dC, dI)) (ci := 3) (v := .ref mp) (C := RX3) (T := TX3) (N := 17) hx hb hts in_X3 hown hK hP 0 rfl rfl 11 (by decide) fl_32 (fun _ h9 => h9) rfl dX3_walk_162 ?_
              refine lv_iload_n hx hb dX3_walk_165 rfl (lv_at hl 9 rfl) ?_
              refine lv_bipush (v := iI (16 : Int)) hx hb dX3_walk_166 (by decide) ?_
              refine lv_iload_n hx hb dX3_walk_168 rfl (lv_at hl 1 rfl) ?_
              refine z_imul hx hb dX3_walk_169 ?_
              refine lv_iload_n hx hb dX3_walk_170 rfl (lv_at hl 0 rfl) ?_
              refine z_iadd hx hb dX3_walk_171 ?_
              refine z_iast hx hb hK hP hD hS 2 0 rfl rfl (t + 1) (by omega) dX3_walk_172 (fun H locs hP hD hS => ?_)
              have hP : va_P (dC, dI) vwCl [(m0, .inr (3, [.int (iI cd), .int (iI (n : Int)), .int (iI (w : Int)), .ref mq, .int (iI (rc : Int)), .ref mn, .ref ml, .int (iI (sc : Int)), .ref ms, .ref mr, .ref mg, .ref mp, .int (iI (mo : Int)), .int (iI (fo : Int)), .ref mpl, .ref mdi, .ref mc])), (mg, .inl (cI, 256, .inl (iA G))), (mp, .inl (cI, 32, .inl (iA (zU P9 (t + 1) (((16 : Int) * i9) + (j9 - 1))))))] H := hP
              have hD : va_D A [(m0, .inr (3, [.int (iI cd), .int (iI (n : Int)), .int (iI (w : Int)), .ref mq, .int (iI (rc : Int)), .ref mn, .ref ml, .int (iI (sc : Int)), .ref ms, .ref mr, .ref mg, .ref mp, .int (iI (mo : Int)), .int (iI (fo : Int)), .ref mpl, .ref mdi, .ref mc])), (mg, .inl (cI, 256, .inl (iA G))), (mp, .inl (cI, 32, .inl (iA (zU P9 (t + 1) (((16 : Int) * i9) + (j9 - 1))))))] := hD
              refine z_iinc (k := 9) (b := ((t + 1 + 1 : Nat) : Int)) (lv' := [(3, .int (iI ((t + 1 + 1 : Nat) : Int))), (2, .int (iI (j9 - 1))), (1, .int (iI i9)), (9, .int (iI (0 : Int))), (8, .int (iI (0 : Int))), (7, .int (iI z77)), (6, .int (iI z63)), (5, .int (iI z53)), (4, .int (iI z43)), (0, .ref m0)]) hx hb dX3_walk_173 hl rfl (by omega) (by decide) rfl (fun ls hl => ?_)
              refine lv_goto (tgt := 30) hx hb dX3_walk_176 (by decide) ?_
              exact ih_lp _ (by omega) (t + 1) i9 (j9 - 1) (zU P9 (t + 1) (16 * (i9) + (j9 - 1))) H locs ls (by have := hA2; omega) (by rw [pseq, hij]; exact pnx_3 (by omega) (by omega)) (tr_on hvq hvr hn.2 hA9 hij (by omega) (pnx_3 (by omega) (by omega))) (wk_path (by rw [pseq, hij]; exact pnx_3 (by omega) (by omega)) hpt) rfl hP hD hS (lv_sub hl [9, 2, 1, 0] rfl)
            · refine lv_iconst (v := iI (1 : Int)) hx hb dX3_walk_118 (by decide) ?_
              refine lv_goto (tgt := 123) hx hb dX3_walk_119 (by decide) ?_
              refine lv_istore (lv' := [(9, .int (iI (1 : Int))), (8, .int (iI (0 : Int))), (7, .int (iI z77)), (6, .int (iI z63)), (5, .int (iI z53)), (4, .int (iI z43)), (0, .ref m0), (1, .int (iI i9)), (2, .int (iI j9)), (3, .int (iI ((t + 1 : Nat) : Int)))]) hx hb dX3_walk_123 hl (by decide) rfl (fun ls hl => ?_)
              refine lv_iload hx hb dX3_walk_125 (lv_at hl 1 rfl) ?_
              refine z_if_ne (tgt := 135) hx hb dX3_walk_127 (by decide) (by decide) (fun h9 => absurd h9 (by decide)) (fun _ => ?_)
              refine lv_iload hx hb dX3_walk_130 (lv_at hl 0 rfl) ?_
              refine z_if_eq (tgt := 141) hx hb dX3_walk_132 (by decide) (by decide) (fun h9 => absurd h9 (by decide)) (fun _ => ?_)
              refine lv_iload_n hx hb dX3_walk_135 rfl (lv_at hl 7 rfl) ?_
              refine lv_iconst (v := iI (1 : Int)) hx hb dX3_walk_136 (by decide) ?_
              refine z_isub hx hb dX3_walk_137 ?_
              refine z_top (b := i9 - 1) (by omega) ?_
              refine lv_goto (tgt := 142) hx hb dX3_walk_138 (by decide) ?_
              refine lv_istore_n (lv' := [(1, .int (iI (i9 - 1))), (9, .int (iI (1 : Int))), (8, .int (iI (0 : Int))), (7, .int (iI z77)), (6, .int (iI z63)), (5, .int (iI z53)), (4, .int (iI z43)), (0, .ref m0), (2, .int (iI j9)), (3, .int (iI ((t + 1 : Nat) : Int)))]) hx hb dX3_walk_142 rfl hl (by decide) rfl (fun ls hl => ?_)
              refine lv_iload hx hb dX3_walk_143 (lv_at hl 2 rfl) ?_
              refine z_if_ne (tgt := 153) hx hb dX3_walk_145 (by decide) (by decide) (fun h9 => absurd h9 (by decide)) (fun _ => ?_)
              refine lv_iload hx hb dX3_walk_148 (lv_at hl 1 rfl) ?_
              refine z_if_ne (tgt := 159) hx hb dX3_walk_150 (by decide) (by decide) (fun _ => ?_) (fun h9 => absurd h9 (by decide))
              refine lv_iload_n hx hb dX3_walk_159 rfl (lv_at hl 8 rfl) ?_
              refine lv_istore_n (lv' := [(2, .int (iI j9)), (1, .int (iI (i9 - 1))), (9, .int (iI (1 : Int))), (8, .int (iI (0 : Int))), (7, .int (iI z77)), (6, .int (iI z63)), (5, .int (iI z53)), (4, .int (iI z43)), (0, .ref m0), (3, .int (iI ((t + 1 : Nat) : Int)))]) hx hb dX3_walk_160 rfl hl (by decide) rfl (fun ls hl => ?_)
              refine lv_aload_n hx hb dX3_walk_161 rfl (lv_at hl 8 rfl) ?_
              refine va_get (D := (dC, dI)) (ci := 3) (v := .ref mp) (C := RX3) (T := TX3) (N := 17) hx hb hts in_X3 hown hK hP 0 rfl rfl 11 (by decide) fl_32 (fun _ h9 => h9) rfl dX3_walk_162 ?_
              refine lv_iload_n hx hb dX3_walk_165 rfl (lv_at hl 9 rfl) ?_
              refine lv_bipush (v := iI (16 : Int)) hx hb dX3_walk_166 (by decide) ?_
              refine lv_iload_n hx hb dX3_walk_168 rfl (lv_at hl 1 rfl) ?_
              refine z_imul hx hb dX3_walk_169 ?_
              refine lv_iload_n hx hb dX3_walk_170 rfl (lv_at hl 0 rfl) ?_
              refine z_iadd hx hb dX3_walk_171 ?_
              refine z_iast hx hb hK hP hD hS 2 0 rfl rfl (t + 1) (by omega) dX3_walk_172 (fun H locs hP hD hS => ?_)
              have hP : va_P (dC, dI) vwCl [(m0, .inr (3, [.int (iI cd), .int (iI (n : Int)), .int (iI (w : Int)), .ref mq, .int (iI (rc : Int)), .ref mn, .ref ml, .int (iI (sc : Int)), .ref ms, .ref mr, .ref mg, .ref mp, .int (iI (mo : Int)), .int (iI (fo : Int)), .ref mpl, .ref mdi, .ref mc])), (mg, .inl (cI, 256, .inl (iA G))), (mp, .inl (cI, 32, .inl (iA (zU P9 (t + 1) (((16 : Int) * (i9 - 1)) + j9)))))] H := hP
              have hD : va_D A [(m0, .inr (3, [.int (iI cd), .int (iI (n : Int)), .int (iI (w : Int)), .ref mq, .int (iI (rc : Int)), .ref mn, .ref ml, .int (iI (sc : Int)), .ref ms, .ref mr, .ref mg, .ref mp, .int (iI (mo : Int)), .int (iI (fo : Int)), .ref mpl, .ref mdi, .ref mc])), (mg, .inl (cI, 256, .inl (iA G))), (mp, .inl (cI, 32, .inl (iA (zU P9 (t + 1) (((16 : Int) * (i9 - 1)) + j9)))))] := hD
              refine z_iinc (k := 9) (b := ((t + 1 + 1 : Nat) : Int)) (lv' := [(3, .int (iI ((t + 1 + 1 : Nat) : Int))), (2, .int (iI j9)), (1, .int (iI (i9 - 1))), (9, .int (iI (1 : Int))), (8, .int (iI (0 : Int))), (7, .int (iI z77)), (6, .int (iI z63)), (5, .int (iI z53)), (4, .int (iI z43)), (0, .ref m0)]) hx hb dX3_walk_173 hl rfl (by omega) (by decide) rfl (fun ls hl => ?_)
              refine lv_goto (tgt := 30) hx hb dX3_walk_176 (by decide) ?_
              exact ih_lp _ (by omega) (t + 1) (i9 - 1) j9 (zU P9 (t + 1) (16 * (i9 - 1) + (j9))) H locs ls (by have := hA2; omega) (by rw [pseq, hij]; exact pnx_2 (by omega) (by omega)) (tr_on hvq hvr hn.2 hA9 hij (by omega) (pnx_2 (by omega) (by omega))) (wk_path (by rw [pseq, hij]; exact pnx_2 (by omega) (by omega)) hpt) rfl hP hD hS (lv_sub hl [9, 2, 1, 0] rfl)
        · refine lv_iload hx hb dX3_walk_89 (lv_at hl 3 rfl) ?_
          refine z_if_lt (tgt := 98) hx hb dX3_walk_91 (by decide) (by omega) (fun h91 => ?_) (fun h91 => ?_)
          · refine lv_iconst (v := iI (0 : Int)) hx hb dX3_walk_98 (by decide) ?_
            refine lv_istore (lv' := [(8, .int (iI (0 : Int))), (7, .int (iI z77)), (6, .int (iI z63)), (5, .int (iI z53)), (4, .int (iI z43)), (0, .ref m0), (1, .int (iI i9)), (2, .int (iI j9)), (3, .int (iI ((t + 1 : Nat) : Int)))]) hx hb dX3_walk_99 hl (by decide) rfl (fun ls hl => ?_)
            refine lv_iload hx hb dX3_walk_101 (lv_at hl 0 rfl) ?_
            refine z_if_ne (tgt := 122) hx hb dX3_walk_103 (by decide) (by decide) (fun h9 => absurd h9 (by decide)) (fun _ => ?_)
            refine lv_iload hx hb dX3_walk_106 (lv_at hl 3 rfl) ?_
            refine lv_iload hx hb dX3_walk_108 (lv_at hl 1 rfl) ?_
            refine z_icmp_ne (tgt := 122) hx hb dX3_walk_110 (by decide) (by omega) (fun h110 => ?_) (fun h110 => ?_)
            · refine lv_iconst (v := iI (0 : Int)) hx hb dX3_walk_122 (by decide) ?_
              refine lv_istore (lv' := [(9, .int (iI (0 : Int))), (8, .int (iI (0 : Int))), (7, .int (iI z77)), (6, .int (iI z63)), (5, .int (iI z53)), (4, .int (iI z43)), (0, .ref m0), (1, .int (iI i9)), (2, .int (iI j9)), (3, .int (iI ((t + 1 : Nat) : Int)))]) hx hb dX3_walk_123 hl (by decide) rfl (fun ls hl => ?_)
              refine lv_iload hx hb dX3_walk_125 (lv_at hl 1 rfl) ?_
              refine z_if_ne (tgt := 135) hx hb dX3_walk_127 (by decide) (by decide) (fun h9 => absurd h9 (by decide)) (fun _ => ?_)
              refine lv_iload hx hb dX3_walk_130 (lv_at hl 0 rfl) ?_
              refine z_if_eq (tgt := 141) hx hb dX3_walk_132 (by decide) (by decide) (fun _ => ?_) (fun h9 => absurd h9 (by decide))
              refine lv_iload_n hx hb dX3_walk_141 rfl (lv_at hl 7 rfl) ?_
              refine lv_istore_n (lv' := [(1, .int (iI i9)), (9, .int (iI (0 : Int))), (8, .int (iI (0 : Int))), (7, .int (iI z77)), (6, .int (iI z63)), (5, .int (iI z53)), (4, .int (iI z43)), (0, .ref m0), (2, .int (iI j9)), (3, .int (iI ((t + 1 : Nat) : Int)))]) hx hb dX3_walk_142 rfl hl (by decide) rfl (fun ls hl => ?_)
              refine lv_iload hx hb dX3_walk_143 (lv_at hl 2 rfl) ?_
              refine z_if_ne (tgt := 153) hx hb dX3_walk_145 (by decide) (by decide) (fun h9 => absurd h9 (by decide)) (fun _ => ?_)
              refine lv_iload hx hb dX3_walk_148 (lv_at hl 1 rfl) ?_
              refine z_if_ne (tgt := 159) hx hb dX3_walk_150 (by decide) (by decide) (fun h9 => absurd h9 (by decide)) (fun _ => ?_)
              refine lv_iload_n hx hb dX3_walk_153 rfl (lv_at hl 8 rfl) ?_
              refine lv_iconst (v := iI (1 : Int)) hx hb dX3_walk_154 (by decide) ?_
              refine z_isub hx hb dX3_walk_155 ?_
              refine z_top (b := j9 - 1) (by omega) ?_
              refine lv_goto (tgt := 160) hx hb dX3_walk_156 (by decide) ?_
              refine lv_istore_n (lv' := [(2, .int (iI (j9 - 1))), (1, .int (iI i9)), (9, .int (iI (0 : Int))), (8, .int (iI (0 : Int))), (7, .int (iI z77)), (6, .int (iI z63)), (5, .int (iI z53)), (4, .int (iI z43)), (0, .ref m0), (3, .int (iI ((t + 1 : Nat) : Int)))]) hx hb dX3_walk_160 rfl hl (by decide) rfl (fun ls hl => ?_)
              refine lv_aload_n hx hb dX3_walk_161 rfl (lv_at hl 8 rfl) ?_
              refine va_get (D := (dC, dI)) (ci := 3) (v := .ref mp) (C := RX3) (T := TX3) (N := 17) hx hb hts in_X3 hown hK hP 0 rfl rfl 11 (by decide) fl_32 (fun _ h9 => h9) rfl dX3_walk_162 ?_
              refine lv_iload_n hx hb dX3_walk_165 rfl (lv_at hl 9 rfl) ?_
              refine lv_bipush (v := iI (16 : Int)) hx hb dX3_walk_166 (by decide) ?_
              refine lv_iload_n hx hb dX3_walk_168 rfl (lv_at hl 1 rfl) ?_
              refine z_imul hx hb dX3_walk_169 ?_
              refine lv_iload_n hx hb dX3_walk_170 rfl (lv_at hl 0 rfl) ?_
              refine z_iadd hx hb dX3_walk_171 ?_
              refine z_iast hx hb hK hP hD hS 2 0 rfl rfl (t + 1) (by omega) dX3_walk_172 (fun H locs hP hD hS => ?_)
              have hP : va_P (dC, dI) vwCl [(m0, .inr (3, [.int (iI cd), .int (iI (n : Int)), .int (iI (w : Int)), .ref mq, .int (iI (rc : Int)), .ref mn, .ref ml, .int (iI (sc : Int)), .ref ms, .ref mr, .ref mg, .ref mp, .int (iI (mo : Int)), .int (iI (fo : Int)), .ref mpl, .ref mdi, .ref mc])), (mg, .inl (cI, 256, .inl (iA G))), (mp, .inl (cI, 32, .inl (iA (zU P9 (t + 1) (((16 : Int) * i9) + (j9 - 1))))))] H := hP
              have hD : va_D A [(m0, .inr (3, [.int (iI cd), .int (iI (n : Int)), .int (iI (w : Int)), .ref mq, .int (iI (rc : Int)), .ref mn, .ref ml, .int (iI (sc : Int)), .ref ms, .ref mr, .ref mg, .ref mp, .int (iI (mo : Int)), .int (iI (fo : Int)), .ref mpl, .ref mdi, .ref mc])), (mg, .inl (cI, 256, .inl (iA G))), (mp, .inl (cI, 32, .inl (iA (zU P9 (t + 1) (((16 : Int) * i9) + (j9 - 1))))))] := hD
              refine z_iinc (k := 9) (b := ((t + 1 + 1 : Nat) : Int)) (lv' := [(3, .int (iI ((t + 1 + 1 : Nat) : Int))), (2, .int (iI (j9 - 1))), (1, .int (iI i9)), (9, .int (iI (0 : Int))), (8, .int (iI (0 : Int))), (7, .int (iI z77)), (6, .int (iI z63)), (5, .int (iI z53)), (4, .int (iI z43)), (0, .ref m0)]) hx hb dX3_walk_173 hl rfl (by omega) (by decide) rfl (fun ls hl => ?_)
              refine lv_goto (tgt := 30) hx hb dX3_walk_176 (by decide) ?_
              exact ih_lp _ (by omega) (t + 1) i9 (j9 - 1) (zU P9 (t + 1) (16 * (i9) + (j9 - 1))) H locs ls (by have := hA2; omega) (by rw [pseq, hij]; exact pnx_3 (by omega) (by omega)) (tr_on hvq hvr hn.2 hA9 hij (by omega) (pnx_3 (by omega) (by omega))) (wk_path (by rw [pseq, hij]; exact pnx_3 (by omega) (by omega)) hpt) rfl hP hD hS (lv_sub hl [9, 2, 1, 0] rfl)
            · refine lv_iload hx hb dX3_walk_113 (lv_at hl 3 rfl) ?_
              refine z_if_lt (tgt := 122) hx hb dX3_walk_115 (by decide) (by omega) (fun h115 => ?_) (fun h115 => ?_)
              · refine lv_iconst (v := iI (0 : Int)) hx hb dX3_walk_122 (by decide) ?_
                refine lv_istore (lv' := [(9, .int (iI (0 : Int))), (8, .int (iI (0 : Int))), (7, .int (iI z77)), (6, .int (iI z63)), (5, .int (iI z53)), (4, .int (iI z43)), (0, .ref m0), (1, .int (iI i9)), (2, .int (iI j9)), (3, .int (iI ((t + 1 : Nat) : Int)))]) hx hb dX3_walk_123 hl (by decide) rfl (fun ls hl => ?_)
                refine lv_iload hx hb dX3_walk_125 (lv_at hl 1 rfl) ?_
                refine z_if_ne (tgt := 135) hx hb dX3_walk_127 (by decide) (by decide) (fun h9 => absurd h9 (by decide)) (fun _ => ?_)
                refine lv_iload hx hb dX3_walk_130 (lv_at hl 0 rfl) ?_
                refine z_if_eq (tgt := 141) hx hb dX3_walk_132 (by decide) (by decide) (fun _ => ?_) (fun h9 => absurd h9 (by decide))
                refine lv_iload_n hx hb dX3_walk_141 rfl (lv_at hl 7 rfl) ?_
                refine lv_istore_n (lv' := [(1, .int (iI i9)), (9, .int (iI (0 : Int))), (8, .int (iI (0 : Int))), (7, .int (iI z77)), (6, .int (iI z63)), (5, .int (iI z53)), (4, .int (iI z43)), (0, .ref m0), (2, .int (iI j9)), (3, .int (iI ((t + 1 : Nat) : Int)))]) hx hb dX3_walk_142 rfl hl (by decide) rfl (fun ls hl => ?_)
                refine lv_iload hx hb dX3_walk_143 (lv_at hl 2 rfl) ?_
                refine z_if_ne (tgt := 153) hx hb dX3_walk_145 (by decide) (by decide) (fun h9 => absurd h9 (by decide)) (fun _ => ?_)
                refine lv_iload hx hb dX3_walk_148 (lv_at hl 1 rfl) ?_
                refine z_if_ne (tgt := 159) hx hb dX3_walk_150 (by decide) (by decide) (fun h9 => absurd h9 (by decide)) (fun _ => ?_)
                refine lv_iload_n hx hb dX3_walk_153 rfl (lv_at hl 8 rfl) ?_
                refine lv_iconst (v := iI (1 : Int)) hx hb dX3_walk_154 (by decide) ?_
                refine z_isub hx hb dX3_walk_155 ?_
                refine z_top (b := j9 - 1) (by omega) ?_
                refine lv_goto (tgt := 160) hx hb dX3_walk_156 (by decide) ?_
                refine lv_istore_n (lv' := [(2, .int (iI (j9 - 1))), (1, .int (iI i9)), (9, .int (iI (0 : Int))), (8, .int (iI (0 : Int))), (7, .int (iI z77)), (6, .int (iI z63)), (5, .int (iI z53)), (4, .int (iI z43)), (0, .ref m0), (3, .int (iI ((t + 1 : Nat) : Int)))]) hx hb dX3_walk_160 rfl hl (by decide) rfl (fun ls hl => ?_)
                refine lv_aload_n hx hb dX3_walk_161 rfl (lv_at hl 8 rfl) ?_
                refine va_get (D := (dC, dI)) (ci := 3) (v := .ref mp) (C := RX3) (T := TX3) (N := 17) hx hb hts in_X3 hown hK hP 0 rfl rfl 11 (by decide) fl_32 (fun _ h9 => h9) rfl dX3_walk_162 ?_
                refine lv_iload_n hx hb dX3_walk_165 rfl (lv_at hl 9 rfl) ?_
                refine lv_bipush (v := iI (16 : Int)) hx hb dX3_walk_166 (by decide) ?_
                refine lv_iload_n hx hb dX3_walk_168 rfl (lv_at hl 1 rfl) ?_
                refine z_imul hx hb dX3_walk_169 ?_
                refine lv_iload_n hx hb dX3_walk_170 rfl (lv_at hl 0 rfl) ?_
                refine z_iadd hx hb dX3_walk_171 ?_
                refine z_iast hx hb hK hP hD hS 2 0 rfl rfl (t + 1) (by omega) dX3_walk_172 (fun H locs hP hD hS => ?_)
                have hP : va_P (dC, dI) vwCl [(m0, .inr (3, [.int (iI cd), .int (iI (n : Int)), .int (iI (w : Int)), .ref mq, .int (iI (rc : Int)), .ref mn, .ref ml, .int (iI (sc : Int)), .ref ms, .ref mr, .ref mg, .ref mp, .int (iI (mo : Int)), .int (iI (fo : Int)), .ref mpl, .ref mdi, .ref mc])), (mg, .inl (cI, 256, .inl (iA G))), (mp, .inl (cI, 32, .inl (iA (zU P9 (t + 1) (((16 : Int) * i9) + (j9 - 1))))))] H := hP
                have hD : va_D A [(m0, .inr (3, [.int (iI cd), .int (iI (n : Int)), .int (iI (w : Int)), .ref mq, .int (iI (rc : Int)), .ref mn, .ref ml, .int (iI (sc : Int)), .ref ms, .ref mr, .ref mg, .ref mp, .int (iI (mo : Int)), .int (iI (fo : Int)), .ref mpl, .ref mdi, .ref mc])), (mg, .inl (cI, 256, .inl (iA G))), (mp, .inl (cI, 32, .inl (iA (zU P9 (t + 1) (((16 : Int) * i9) + (j9 - 1))))))] := hD
                refine z_iinc (k := 9) (b := ((t + 1 + 1 : Nat) : Int)) (lv' := [(3, .int (iI ((t + 1 + 1 : Nat) : Int))), (2, .int (iI (j9 - 1))), (1, .int (iI i9)), (9, .int (iI (0 : Int))), (8, .int (iI (0 : Int))), (7, .int (iI z77)), (6, .int (iI z63)), (5, .int (iI z53)), (4, .int (iI z43)), (0, .ref m0)]) hx hb dX3_walk_173 hl rfl (by omega) (by decide) rfl (fun ls hl => ?_)
                refine lv_goto (tgt := 30) hx hb dX3_walk_176 (by decide) ?_
                exact ih_lp _ (by omega) (t + 1) i9 (j9 - 1) (zU P9 (t + 1) (16 * (i9) + (j9 - 1))) H locs ls (by have := hA2; omega) (by rw [pseq, hij]; exact pnx_3 (by omega) (by omega)) (tr_on hvq hvr hn.2 hA9 hij (by omega) (pnx_3 (by omega) (by omega))) (wk_path (by rw [pseq, hij]; exact pnx_3 (by omega) (by omega)) hpt) rfl hP hD hS (lv_sub hl [9, 2, 1, 0] rfl)
              · refine lv_iconst (v := iI (1 : Int)) hx hb dX3_walk_118 (by decide) ?_
                refine lv_goto (tgt := 123) hx hb dX3_walk_119 (by decide) ?_
                refine lv_istore (lv' := [(9, .int (iI (1 : Int))), (8, .int (iI (0 : Int))), (7, .int (iI z77)), (6, .int (iI z63)), (5, .int (iI z53)), (4, .int (iI z43)), (0, .ref m0), (1, .int (iI i9)), (2, .int (iI j9)), (3, .int (iI ((t + 1 : Nat) : Int)))]) hx hb dX3_walk_123 hl (by decide) rfl (fun ls hl => ?_)
                refine lv_iload hx hb dX3_walk_125 (lv_at hl 1 rfl) ?_
                refine z_if_ne (tgt := 135) hx hb dX3_walk_127 (by decide) (by decide) (fun h9 => absurd h9 (by decide)) (fun _ => ?_)
                refine lv_iload hx hb dX3_walk_130 (lv_at hl 0 rfl) ?_
                refine z_if_eq (tgt := 141) hx hb dX3_walk_132 (by decide) (by decide) (fun h9 => absurd h9 (by decide)) (fun _ => ?_)
                refine lv_iload_n hx hb dX3_walk_135 rfl (lv_at hl 7 rfl) ?_
                refine lv_iconst (v := iI (1 : Int)) hx hb dX3_walk_136 (by decide) ?_
                refine z_isub hx hb dX3_walk_137 ?_
                refine z_top (b := i9 - 1) (by omega) ?_
                refine lv_goto (tgt := 142) hx hb dX3_walk_138 (by decide) ?_
                refine lv_istore_n (lv' := [(1, .int (iI (i9 - 1))), (9, .int (iI (1 : Int))), (8, .int (iI (0 : Int))), (7, .int (iI z77)), (6, .int (iI z63)), (5, .int (iI z53)), (4, .int (iI z43)), (0, .ref m0), (2, .int (iI j9)), (3, .int (iI ((t + 1 : Nat) : Int)))]) hx hb dX3_walk_142 rfl hl (by decide) rfl (fun ls hl => ?_)
                refine lv_iload hx hb dX3_walk_143 (lv_at hl 2 rfl) ?_
                refine z_if_ne (tgt := 153) hx hb dX3_walk_145 (by decide) (by decide) (fun h9 => absurd h9 (by decide)) (fun _ => ?_)
                refine lv_iload hx hb dX3_walk_148 (lv_at hl 1 rfl) ?_
                refine z_if_ne (tgt := 159) hx hb dX3_walk_150 (by decide) (by decide) (fun _ => ?_) (fun h9 => absurd h9 (by decide))
                refine lv_iload_n hx hb dX3_walk_159 rfl (lv_at hl 8 rfl) ?_
                refine lv_istore_n (lv' := [(2, .int (iI j9)), (1, .int (iI (i9 - 1))), (9, .int (iI (1 : Int))), (8, .int (iI (0 : Int))), (7, .int (iI z77)), (6, .int (iI z63)), (5, .int (iI z53)), (4, .int (iI z43)), (0, .ref m0), (3, .int (iI ((t + 1 : Nat) : Int)))]) hx hb dX3_walk_160 rfl hl (by decide) rfl (fun ls hl => ?_)
                refine lv_aload_n hx hb dX3_walk_161 rfl (lv_at hl 8 rfl) ?_
                refine va_get (D := (dC, dI)) (ci := 3) (v := .ref mp) (C := RX3) (T := TX3) (N := 17) hx hb hts in_X3 hown hK hP 0 rfl rfl 11 (by decide) fl_32 (fun _ h9 => h9) rfl dX3_walk_162 ?_
                refine lv_iload_n hx hb dX3_walk_165 rfl (lv_at hl 9 rfl) ?_
                refine lv_bipush (v := iI (16 : Int)) hx hb dX3_walk_166 (by decide) ?_
                refine lv_iload_n hx hb dX3_walk_168 rfl (lv_at hl 1 rfl) ?_
                refine z_imul hx hb dX3_walk_169 ?_
                refine lv_iload_n hx hb dX3_walk_170 rfl (lv_at hl 0 rfl) ?_
                refine z_iadd hx hb dX3_walk_171 ?_
                refine z_iast hx hb hK hP hD hS 2 0 rfl rfl (t + 1) (by omega) dX3_walk_172 (fun H locs hP hD hS => ?_)
                have hP : va_P (dC, dI) vwCl [(m0, .inr (3, [.int (iI cd), .int (iI (n : Int)), .int (iI (w : Int)), .ref mq, .int (iI (rc : Int)), .ref mn, .ref ml, .int (iI (sc : Int)), .ref ms, .ref mr, .ref mg, .ref mp, .int (iI (mo : Int)), .int (iI (fo : Int)), .ref mpl, .ref mdi, .ref mc])), (mg, .inl (cI, 256, .inl (iA G))), (mp, .inl (cI, 32, .inl (iA (zU P9 (t + 1) (((16 : Int) * (i9 - 1)) + j9)))))] H := hP
                have hD : va_D A [(m0, .inr (3, [.int (iI cd), .int (iI (n : Int)), .int (iI (w : Int)), .ref mq, .int (iI (rc : Int)), .ref mn, .ref ml, .int (iI (sc : Int)), .ref ms, .ref mr, .ref mg, .ref mp, .int (iI (mo : Int)), .int (iI (fo : Int)), .ref mpl, .ref mdi, .ref mc])), (mg, .inl (cI, 256, .inl (iA G))), (mp, .inl (cI, 32, .inl (iA (zU P9 (t + 1) (((16 : Int) * (i9 - 1)) + j9)))))] := hD
                refine z_iinc (k := 9) (b := ((t + 1 + 1 : Nat) : Int)) (lv' := [(3, .int (iI ((t + 1 + 1 : Nat) : Int))), (2, .int (iI j9)), (1, .int (iI (i9 - 1))), (9, .int (iI (1 : Int))), (8, .int (iI (0 : Int))), (7, .int (iI z77)), (6, .int (iI z63)), (5, .int (iI z53)), (4, .int (iI z43)), (0, .ref m0)]) hx hb dX3_walk_173 hl rfl (by omega) (by decide) rfl (fun ls hl => ?_)
                refine lv_goto (tgt := 30) hx hb dX3_walk_176 (by decide) ?_
                exact ih_lp _ (by omega) (t + 1) (i9 - 1) j9 (zU P9 (t + 1) (16 * (i9 - 1) + (j9))) H locs ls (by have := hA2; omega) (by rw [pseq, hij]; exact pnx_2 (by omega) (by omega)) (tr_on hvq hvr hn.2 hA9 hij (by omega) (pnx_2 (by omega) (by omega))) (wk_path (by rw [pseq, hij]; exact pnx_2 (by omega) (by omega)) hpt) rfl hP hD hS (lv_sub hl [9, 2, 1, 0] rfl)
          · refine lv_iconst (v := iI (1 : Int)) hx hb dX3_walk_94 (by decide) ?_
            refine lv_goto (tgt := 99) hx hb dX3_walk_95 (by decide) ?_
            refine lv_istore (lv' := [(8, .int (iI (1 : Int))), (7, .int (iI z77)), (6, .int (iI z63)), (5, .int (iI z53)), (4, .int (iI z43)), (0, .ref m0), (1, .int (iI i9)), (2, .int (iI j9)), (3, .int (iI ((t + 1 : Nat) : Int)))]) hx hb dX3_walk_99 hl (by decide) rfl (fun ls hl => ?_)
            refine lv_iload hx hb dX3_walk_101 (lv_at hl 0 rfl) ?_
            refine z_if_ne (tgt := 122) hx hb dX3_walk_103 (by decide) (by decide) (fun _ => ?_) (fun h9 => absurd h9 (by decide))
            refine lv_iconst (v := iI (0 : Int)) hx hb dX3_walk_122 (by decide) ?_
            refine lv_istore (lv' := [(9, .int (iI (0 : Int))), (8, .int (iI (1 : Int))), (7, .int (iI z77)), (6, .int (iI z63)), (5, .int (iI z53)), (4, .int (iI z43)), (0, .ref m0), (1, .int (iI i9)), (2, .int (iI j9)), (3, .int (iI ((t + 1 : Nat) : Int)))]) hx hb dX3_walk_123 hl (by decide) rfl (fun ls hl => ?_)
            refine lv_iload hx hb dX3_walk_125 (lv_at hl 1 rfl) ?_
            refine z_if_ne (tgt := 135) hx hb dX3_walk_127 (by decide) (by decide) (fun _ => ?_) (fun h9 => absurd h9 (by decide))
            refine lv_iload_n hx hb dX3_walk_135 rfl (lv_at hl 7 rfl) ?_
            refine lv_iconst (v := iI (1 : Int)) hx hb dX3_walk_136 (by decide) ?_
            refine z_isub hx hb dX3_walk_137 ?_
            refine z_top (b := i9 - 1) (by omega) ?_
            refine lv_goto (tgt := 142) hx hb dX3_walk_138 (by decide) ?_
            refine lv_istore_n (lv' := [(1, .int (iI (i9 - 1))), (9, .int (iI (0 : Int))), (8, .int (iI (1 : Int))), (7, .int (iI z77)), (6, .int (iI z63)), (5, .int (iI z53)), (4, .int (iI z43)), (0, .ref m0), (2, .int (iI j9)), (3, .int (iI ((t + 1 : Nat) : Int)))]) hx hb dX3_walk_142 rfl hl (by decide) rfl (fun ls hl => ?_)
            refine lv_iload hx hb dX3_walk_143 (lv_at hl 2 rfl) ?_
            refine z_if_ne (tgt := 153) hx hb dX3_walk_145 (by decide) (by decide) (fun _ => ?_) (fun h9 => absurd h9 (by decide))
            refine lv_iload_n hx hb dX3_walk_153 rfl (lv_at hl 8 rfl) ?_
            refine lv_iconst (v := iI (1 : Int)) hx hb dX3_walk_154 (by decide) ?_
            refine z_isub hx hb dX3_walk_155 ?_
            refine z_top (b := j9 - 1) (by omega) ?_
            refine lv_goto (tgt := 160) hx hb dX3_walk_156 (by decide) ?_
            refine lv_istore_n (lv' := [(2, .int (iI (j9 - 1))), (1, .int (iI (i9 - 1))), (9, .int (iI (0 : Int))), (8, .int (iI (1 : Int))), (7, .int (iI z77)), (6, .int (iI z63)), (5, .int (iI z53)), (4, .int (iI z43)), (0, .ref m0), (3, .int (iI ((t + 1 : Nat) : Int)))]) hx hb dX3_walk_160 rfl hl (by decide) rfl (fun ls hl => ?_)
            refine lv_aload_n hx hb dX3_walk_161 rfl (lv_at hl 8 rfl) ?_
            refine va_get (D := (dC, dI)) (ci := 3) (v := .ref mp) (C := RX3) (T := TX3) (N := 17) hx hb hts in_X3 hown hK hP 0 rfl rfl 11 (by decide) fl_32 (fun _ h9 => h9) rfl dX3_walk_162 ?_
            refine lv_iload_n hx hb dX3_walk_165 rfl (lv_at hl 9 rfl) ?_
            refine lv_bipush (v := iI (16 : Int)) hx hb dX3_walk_166 (by decide) ?_
            refine lv_iload_n hx hb dX3_walk_168 rfl (lv_at hl 1 rfl) ?_
            refine z_imul hx hb dX3_walk_169 ?_
            refine lv_iload_n hx hb dX3_walk_170 rfl (lv_at hl 0 rfl) ?_
            refine z_iadd hx hb dX3_walk_171 ?_
            refine z_iast hx hb hK hP hD hS 2 0 rfl rfl (t + 1) (by omega) dX3_walk_172 (fun H locs hP hD hS => ?_)
            have hP : va_P (dC, dI) vwCl [(m0, .inr (3, [.int (iI cd), .int (iI (n : Int)), .int (iI (w : Int)), .ref mq, .int (iI (rc : Int)), .ref mn, .ref ml, .int (iI (sc : Int)), .ref ms, .ref mr, .ref mg, .ref mp, .int (iI (mo : Int)), .int (iI (fo : Int)), .ref mpl, .ref mdi, .ref mc])), (mg, .inl (cI, 256, .inl (iA G))), (mp, .inl (cI, 32, .inl (iA (zU P9 (t + 1) (((16 : Int) * (i9 - 1)) + (j9 - 1))))))] H := hP
            have hD : va_D A [(m0, .inr (3, [.int (iI cd), .int (iI (n : Int)), .int (iI (w : Int)), .ref mq, .int (iI (rc : Int)), .ref mn, .ref ml, .int (iI (sc : Int)), .ref ms, .ref mr, .ref mg, .ref mp, .int (iI (mo : Int)), .int (iI (fo : Int)), .ref mpl, .ref mdi, .ref mc])), (mg, .inl (cI, 256, .inl (iA G))), (mp, .inl (cI, 32, .inl (iA (zU P9 (t + 1) (((16 : Int) * (i9 - 1)) + (j9 - 1))))))] := hD
            refine z_iinc (k := 9) (b := ((t + 1 + 1 : Nat) : Int)) (lv' := [(3, .int (iI ((t + 1 + 1 : Nat) : Int))), (2, .int (iI (j9 - 1))), (1, .int (iI (i9 - 1))), (9, .int (iI (0 : Int))), (8, .int (iI (1 : Int))), (7, .int (iI z77)), (6, .int (iI z63)), (5, .int (iI z53)), (4, .int (iI z43)), (0, .ref m0)]) hx hb dX3_walk_173 hl rfl (by omega) (by decide) rfl (fun ls hl => ?_)
            refine lv_goto (tgt := 30) hx hb dX3_walk_176 (by decide) ?_
            exact ih_lp _ (by omega) (t + 1) (i9 - 1) (j9 - 1) (zU P9 (t + 1) (16 * (i9 - 1) + (j9 - 1))) H locs ls (by have := hA2; omega) (by rw [pseq, hij]; exact pnx_1 (by omega) (by omega)) (tr_on hvq hvr hn.2 hA9 hij (by omega) (pnx_1 (by omega) (by omega))) (wk_path (by rw [pseq, hij]; exact pnx_1 (by omega) (by omega)) hpt) rfl hP hD hS (lv_sub hl [9, 2, 1, 0] rfl)
  exact lp _ 0 ((n : Int) - 1) ((n : Int) - 1) (zU P 0 (16 * ((n : Int) - 1) + ((n : Int) - 1))) _ _ ls (by omega) (rfl) (tr_start (by omega)) (fun u h => by have e9 : u = 0 := (by omega); subst e9; rw [zU_s]; rfl) rfl hP hD hS (lv_sub hl [3, 2, 1, 0] rfl)
end
section
def alI (n w i j : Nat) (q r : Nat → Int) (lim al : Int) : Prop := (al = 1 ∧ ∀ b, b < j → inb w i b → lim ≤ cst w q r i b) ∨ (al = 0 ∧ ∃ b, b < n ∧ inb w i b ∧ cst w q r i b < lim)
theorem alI_0 {n w i : Nat} {q r : Nat → Int} {lim : Int} : alI n w i 0 q r lim 1 := Or.inl ⟨rfl, fun b h => absurd h (Nat.not_lt_zero _)⟩
theorem alI_01 {n w i j : Nat} {q r : Nat → Int} {lim al : Int} (h : alI n w i j q r lim al) : al = 1 ∨ al = 0 := by
  rcases h with h | h
  · exact Or.inl h.1
  · exact Or.inr h.1
theorem alI_ex {n w i j : Nat} {q r : Nat → Int} {lim al : Int} (h : alI n w i j q r lim al) (h0 : al = 0) : ∃ b, b < n ∧ inb w i b ∧ cst w q r i b < lim := by
  rcases h with h | h
  · have := h.1
    omega
  · exact h.2
theorem alI_all {n w i j : Nat} {q r : Nat → Int} {lim al : Int} (h : alI n w i j q r lim al) (h0 : al ≠ 0) : ∀ b, b < j → inb w i b → lim ≤ cst w q r i b := by
  rcases h with h | h
  · exact h.2
  · exact absurd h.1 h0
theorem gu_on {n w i j : Nat} {q r : Nat → Int} {al lim : Int} (h : alI n w i j q r lim al) (ha : al ≠ 0) (hj : inb w i j → lim ≤ cst w q r i j) : alI n w i (j + 1) q r lim 1 := by
  have h2 := alI_all h ha
  refine Or.inl ⟨rfl, fun b h1 h3 => ?_⟩
  by_cases e : b = j
  · subst e; exact hj h3
  · exact h2 b (by omega) h3
theorem gu_off {n w i j : Nat} {q r : Nat → Int} {al lim : Int} (h : alI n w i j q r lim al) (hj : al ≠ 0 → ∃ b, b < n ∧ inb w i b ∧ cst w q r i b < lim) : alI n w i (j + 1) q r lim 0 := by
  refine Or.inr ⟨rfl, ?_⟩
  rcases h with h | h
  · exact hj (by have := h.1; omega)
  · exact h.2
set_option maxRecDepth 100000 in
set_option maxHeartbeats 4000000 in
theorem c_mGivesUp (l : Launch) (dC : Nat → ClassId) (dI : Nat → Nat → Nat) (cI : ClassId) (m0 mq mn ml ms mr mg mp mpl mdi mc : Nat) (cd : Int) (n w rc sc mo fo : Nat) (q r G : Nat → Int) (lim : Int) (hn : 2 ≤ n ∧ n ≤ 16) (hw : w ≤ 15) (hvq : vals n q) (hvr : vals n r) (hfull : ∀ a b, a < n → b < n → inb w a b → G (16 * a + b) = cst w q r a b) (hlim : -2147483648 ≤ lim ∧ lim ≤ 2147483647) : Met l yX3_givesUp wsX3_givesUp ({ frames := 2, cells := 0, slots := 0, locals := 44 }) (rdP dC dI [(cI, .int)] [(m0, .inr (3, [.int (iI cd), .int (iI (n : Int)), .int (iI (w : Int)), .ref mq, .int (iI (rc : Int)), .ref mn, .ref ml, .int (iI (sc : Int)), .ref ms, .ref mr, .ref mg, .ref mp, .int (iI (mo : Int)), .int (iI (fo : Int)), .ref mpl, .ref mdi, .ref mc])), (mg, .inl (cI, 256, .inl (iA G)))] [.ref m0, .int (iI lim)]) (rdQ (fun z => (z = 1 ∧ givesUp n w q r lim) ∨ (z = 0 ∧ ¬ givesUp n w q r lim))) 0 0 (fun _ => False) := by
  refine Met.ofW (cc := cX3_givesUp) (maxL := 5) (ret := (some .boolean)) (by decide) rfl ?_
  intro p e s m args below meth c s₁ B hml hv
  obtain ⟨rfl, hP, hK⟩ := hv
  have hx := B.exec
  have hb := B.bytes
  have hr := B.returns
  have hts : ∀ w ∈ wsX3_givesUp, w.before _ s = true := atoms_spec (ws := wsX3_givesUp) B.pre
  have hown : s.vm.findClass RX3 = some m.cls := findClass_of_methodNamed B.named
  have hlocks := B.notSynchronized
  have hl := lv_entry ([.ref m0, .int (iI lim)]) (n := 5) (Nat.le_of_ble_eq_true rfl)
  rw [lg_entry_eq]
  generalize (lg_sl ([.ref m0, .int (iI lim)]) ++ List.replicate (5 - (lg_sl ([.ref m0, .int (iI lim)])).length) Slot.unset).toArray = ls at hl ⊢
  have hl : lv_has ls 5 [(0, .ref m0), (1, .int (iI lim))] := hl
  generalize hargs : ([.ref m0, .int (iI lim)] : List Value).toArray = args at hts ⊢
  refine z_intro (fun R Q hR hQ => ?_)
  have hRf : R.frames = 2 := by rw [hR]; rfl
  have hRl : R.locals = 44 := by rw [hR]; rfl
  have hRc : R.cells = 0 := by rw [hR]; rfl
  have hRs : R.slots = 0 := by rw [hR]; rfl
  have in_X3 : ∀ w ∈ u_ws RX3 TX3 17, w ∈ wsX3_givesUp := fun w h => List.mem_cons_of_mem _ (inW_X3 w h)
  have fl_7 := wa_hts hts wd_485
  have fl_29 := wa_hts hts wd_494
  clear hR hargs B
  refine lv_iconst (v := iI (0 : Int)) hx hb dX3_givesUp_0 (by decide) ?_
  refine lv_istore_n (lv' := [(2, .int (iI (0 : Int))), (0, .ref m0), (1, .int (iI lim))]) hx hb dX3_givesUp_1 rfl hl (by decide) rfl (fun ls hl => ?_)
  have lpo : ∀ (k9 : Nat) (i : Nat) (ls : Array Slot), (i ≤ n) → (∀ a, a < i → ∃ b, b < n ∧ inb w a b ∧ cst w q r a b < lim) → n - i = k9 → lv_has ls 5 [(0, .ref m0), (1, .int (iI lim)), (2, .int (iI (i : Int)))] → W p l e R s m args below meth c s.heap [] 0 0 Q (F0 m 2 ls []) := by
    intro k9
    induction k9 using Nat.strongRecOn with
    | ind k9 ih_lpo =>
      intro i ls hi hng hk9 hl
      refine lv_iload_n hx hb dX3_givesUp_2 rfl (lv_at hl 2 rfl) ?_
      refine lv_aload_n hx hb dX3_givesUp_3 rfl (lv_at hl 0 rfl) ?_
      refine va_get (D := (dC, dI)) (ci := 3) (v := .int (iI (n : Int))) (C := RX3) (T := TX3) (N := 17) hx hb hts in_X3 hown hK hP 0 rfl rfl 1 (by decide) fl_7 (fun _ h9 => h9) rfl dX3_givesUp_4 ?_
      refine z_icmp_ge (tgt := 78) hx hb dX3_givesUp_7 (by decide) (by omega) (fun h7 => ?_) (fun h7 => ?_)
      · refine lv_iconst (v := iI (0 : Int)) hx hb dX3_givesUp_78 (by decide) ?_
        exact zr_retz (z := (0 : Int)) hx hb hr hlocks hQ (by omega) (Or.inr ⟨rfl, fun h9 => by obtain ⟨a, a1, a2⟩ := h9; obtain ⟨b, b1, b2, b3⟩ := hng a (by omega); have := a2 b b1 b2; omega⟩) dX3_givesUp_79
      · refine lv_iconst (v := iI (1 : Int)) hx hb dX3_givesUp_10 (by decide) ?_
        refine lv_istore_n (lv' := [(3, .int (iI (1 : Int))), (0, .ref m0), (1, .int (iI lim)), (2, .int (iI (i : Int)))]) hx hb dX3_givesUp_11 rfl hl (by decide) rfl (fun ls hl => ?_)
        refine lv_iconst (v := iI (0 : Int)) hx hb dX3_givesUp_12 (by decide) ?_
        refine lv_istore (lv' := [(4, .int (iI (0 : Int))), (3, .int (iI (1 : Int))), (0, .ref m0), (1, .int (iI lim)), (2, .int (iI (i : Int)))]) hx hb dX3_givesUp_13 hl (by decide) rfl (fun ls hl => ?_)
        have lpi : ∀ (k9 : Nat) (j : Nat) (al : Int) (ls : Array Slot), (j ≤ n) → (alI n w i j q r lim al) → n - j = k9 → lv_has ls 5 [(0, .ref m0), (1, .int (iI lim)), (2, .int (iI (i : Int))), (3, .int (iI al)), (4, .int (iI (j : Int)))] → W p l e R s m args below meth c s.heap [] 0 0 Q (F0 m 15 ls []) := by
          intro k9
          induction k9 using Nat.strongRecOn with
          | ind k9 ih_lpi =>
            intro j al ls hj hal hk9 hl
            have h01 : al = 1 ∨ al = 0 := alI_01 hal
            refine lv_iload hx hb dX3_givesUp_15 (lv_at hl 4 rfl) ?_
            refine lv_aload_n hx hb dX3_givesUp_17 rfl (lv_at hl 0 rfl) ?_
            refine va_get (D := (dC, dI)) (ci := 3) (v := .int (iI (n : Int))) (C := RX3) (T := TX3) (N := 17) hx hb hts in_X3 hown hK hP 0 rfl rfl 1 (by decide) fl_7 (fun _ h9 => h9) rfl dX3_givesUp_18 ?_
            refine z_icmp_ge (tgt := 66) hx hb dX3_givesUp_21 (by decide) (by omega) (fun h21 => ?_) (fun h21 => ?_)
            · refine lv_iload_n hx hb dX3_givesUp_66 rfl (lv_at hl 3 rfl) ?_
              refine z_if_eq (tgt := 72) hx hb dX3_givesUp_67 (by decide) (by omega) (fun h67 => ?_) (fun h67 => ?_)
              · refine z_iinc (k := 2) (b := ((i + 1 : Nat) : Int)) (lv' := [(2, .int (iI ((i + 1 : Nat) : Int))), (0, .ref m0), (1, .int (iI lim)), (3, .int (iI al)), (4, .int (iI (j : Int)))]) hx hb dX3_givesUp_72 hl rfl (by omega) (by decide) rfl (fun ls hl => ?_)
                refine lv_goto (tgt := 2) hx hb dX3_givesUp_75 (by decide) ?_
                exact ih_lpo _ (by omega) (i + 1) ls (by omega) (fun a h => by by_cases g9 : a = i; (subst g9; exact alI_ex hal (by omega)); exact hng a (by omega)) rfl (lv_sub hl [1, 2, 0] rfl)
              · refine lv_iconst (v := iI (1 : Int)) hx hb dX3_givesUp_70 (by decide) ?_
                exact zr_retz (z := (1 : Int)) hx hb hr hlocks hQ (by omega) (Or.inl ⟨rfl, i, by omega, fun b b1 b2 => alI_all hal (by omega) b (by omega) b2⟩) dX3_givesUp_71
            · refine lv_iload_n hx hb dX3_givesUp_24 rfl (lv_at hl 3 rfl) ?_
              refine z_if_eq (tgt := 58) hx hb dX3_givesUp_25 (by decide) (by omega) (fun h25 => ?_) (fun h25 => ?_)
              · refine lv_iconst (v := iI (0 : Int)) hx hb dX3_givesUp_58 (by decide) ?_
                refine lv_istore_n (lv' := [(3, .int (iI (0 : Int))), (0, .ref m0), (1, .int (iI lim)), (2, .int (iI (i : Int))), (4, .int (iI (j : Int)))]) hx hb dX3_givesUp_59 rfl hl (by decide) rfl (fun ls hl => ?_)
                refine z_iinc (k := 4) (b := ((j + 1 : Nat) : Int)) (lv' := [(4, .int (iI ((j + 1 : Nat) : Int))), (3, .int (iI (0 : Int))), (0, .ref m0), (1, .int (iI lim)), (2, .int (iI (i : Int)))]) hx hb dX3_givesUp_60 hl rfl (by omega) (by decide) rfl (fun ls hl => ?_)
                refine lv_goto (tgt := 15) hx hb dX3_givesUp_63 (by decide) ?_
                exact ih_lpi _ (by omega) (j + 1) 0 ls (by omega) (gu_off hal (fun h9 => ⟨j, by omega, by omega, by omega⟩)) rfl (lv_sub hl [2, 3, 4, 1, 0] rfl)
              · refine lv_aload_n hx hb dX3_givesUp_28 rfl (lv_at hl 0 rfl) ?_
                refine lv_iload_n hx hb dX3_givesUp_29 rfl (lv_at hl 2 rfl) ?_
                refine lv_iload hx hb dX3_givesUp_30 (lv_at hl 4 rfl) ?_
                refine zr_i (va_runV (As := [.int (iI (i : Int)), .int (iI (j : Int))]) (rest := []) ⟨hx, hb, hml, hown, hts⟩ (c_inBand l dC dI cI m0 mq mn ml ms mr mg mp mpl mdi mc cd n w rc sc mo fo (i : Int) (j : Int) hn hw (by omega) (by omega)) (cwV 2 hts (ga_V wd_579 wd_581 wd_17 wd_31 wd_582) rfl rfl rfl (by decide +kernel) ⟨(show 1 + 1 ≤ R.frames by omega), (show 8 + (3 + 11) + 22 ≤ R.locals by omega)⟩) (rd_preV (q0 := 0) (ci := 3) hP hK [0] rfl rfl rfl) rfl rfl hl.1 rfl (lv_room (Nat.le_of_ble_eq_true rfl)) dX3_givesUp_32 ⟨by omega, by omega⟩) (fun z32 hz32 => ?_)
                refine z_if_eq (tgt := 54) hx hb dX3_givesUp_35 (by decide) (by omega) (fun h35 => ?_) (fun h35 => ?_)
                · refine lv_iconst (v := iI (1 : Int)) hx hb dX3_givesUp_54 (by decide) ?_
                  refine lv_goto (tgt := 59) hx hb dX3_givesUp_55 (by decide) ?_
                  refine lv_istore_n (lv' := [(3, .int (iI (1 : Int))), (0, .ref m0), (1, .int (iI lim)), (2, .int (iI (i : Int))), (4, .int (iI (j : Int)))]) hx hb dX3_givesUp_59 rfl hl (by decide) rfl (fun ls hl => ?_)
                  refine z_iinc (k := 4) (b := ((j + 1 : Nat) : Int)) (lv' := [(4, .int (iI ((j + 1 : Nat) : Int))), (3, .int (iI (1 : Int))), (0, .ref m0), (1, .int (iI lim)), (2, .int (iI (i : Int)))]) hx hb dX3_givesUp_60 hl rfl (by omega) (by decide) rfl (fun ls hl => ?_)
                  refine lv_goto (tgt := 15) hx hb dX3_givesUp_63 (by decide) ?_
                  exact ih_lpi _ (by omega) (j + 1) 1 ls (by omega) (gu_on hal (by omega) (fun h9 => by omega)) rfl (lv_sub hl [2, 3, 4, 1, 0] rfl)
                · have hbj : inb w i j := by omega
                  have ec := hfull i j (by omega) (by omega) hbj
                  have hcr := cst_rg hvq hvr hn.2 (show i < n by omega) (show j < n by omega) hbj
                  refine lv_aload_n hx hb dX3_givesUp_38 rfl (lv_at hl 0 rfl) ?_
                  refine va_get (D := (dC, dI)) (ci := 3) (v := .ref mg) (C := RX3) (T := TX3) (N := 17) hx hb hts in_X3 hown hK hP 0 rfl rfl 10 (by decide) fl_29 (fun _ h9 => h9) rfl dX3_givesUp_39 ?_
                  refine lv_bipush (v := iI (16 : Int)) hx hb dX3_givesUp_42 (by decide) ?_
                  refine lv_iload_n hx hb dX3_givesUp_44 rfl (lv_at hl 2 rfl) ?_
                  refine z_imul hx hb dX3_givesUp_45 ?_
                  refine lv_iload hx hb dX3_givesUp_46 (lv_at hl 4 rfl) ?_
                  refine z_iadd hx hb dX3_givesUp_48 ?_
                  refine z_iald hx hb hK hP 1 0 rfl rfl ((16 * i) + j) (by omega) dX3_givesUp_49 ?_
                  rw [ec]
                  refine lv_iload_n hx hb dX3_givesUp_50 rfl (lv_at hl 1 rfl) ?_
                  refine z_icmp_lt (tgt := 58) hx hb dX3_givesUp_51 (by decide) (by omega) (fun h51 => ?_) (fun h51 => ?_)
                  · refine lv_iconst (v := iI (0 : Int)) hx hb dX3_givesUp_58 (by decide) ?_
                    refine lv_istore_n (lv' := [(3, .int (iI (0 : Int))), (0, .ref m0), (1, .int (iI lim)), (2, .int (iI (i : Int))), (4, .int (iI (j : Int)))]) hx hb dX3_givesUp_59 rfl hl (by decide) rfl (fun ls hl => ?_)
                    refine z_iinc (k := 4) (b := ((j + 1 : Nat) : Int)) (lv' := [(4, .int (iI ((j + 1 : Nat) : Int))), (3, .int (iI (0 : Int))), (0, .ref m0), (1, .int (iI lim)), (2, .int (iI (i : Int)))]) hx hb dX3_givesUp_60 hl rfl (by omega) (by decide) rfl (fun ls hl => ?_)
                    refine lv_goto (tgt := 15) hx hb dX3_givesUp_63 (by decide) ?_
                    exact ih_lpi _ (by omega) (j + 1) 0 ls (by omega) (gu_off hal (fun h9 => ⟨j, by omega, by omega, by omega⟩)) rfl (lv_sub hl [2, 3, 4, 1, 0] rfl)
                  · refine lv_iconst (v := iI (1 : Int)) hx hb dX3_givesUp_54 (by decide) ?_
                    refine lv_goto (tgt := 59) hx hb dX3_givesUp_55 (by decide) ?_
                    refine lv_istore_n (lv' := [(3, .int (iI (1 : Int))), (0, .ref m0), (1, .int (iI lim)), (2, .int (iI (i : Int))), (4, .int (iI (j : Int)))]) hx hb dX3_givesUp_59 rfl hl (by decide) rfl (fun ls hl => ?_)
                    refine z_iinc (k := 4) (b := ((j + 1 : Nat) : Int)) (lv' := [(4, .int (iI ((j + 1 : Nat) : Int))), (3, .int (iI (1 : Int))), (0, .ref m0), (1, .int (iI lim)), (2, .int (iI (i : Int)))]) hx hb dX3_givesUp_60 hl rfl (by omega) (by decide) rfl (fun ls hl => ?_)
                    refine lv_goto (tgt := 15) hx hb dX3_givesUp_63 (by decide) ?_
                    exact ih_lpi _ (by omega) (j + 1) 1 ls (by omega) (gu_on hal (by omega) (fun h9 => by omega)) rfl (lv_sub hl [2, 3, 4, 1, 0] rfl)
        exact lpi _ 0 1 ls (by omega) (alI_0) rfl (lv_sub hl [2, 3, 4, 1, 0] rfl)
  exact lpo _ 0 ls (by omega) (fun a h => absurd h (Nat.not_lt_zero _)) rfl (lv_sub hl [1, 2, 0] rfl)
set_option maxRecDepth 100000 in
set_option maxHeartbeats 4000000 in
theorem c_start (l : Launch) (dC : Nat → ClassId) (dI : Nat → Nat → Nat) (cI : ClassId) (m0 mq mn ml ms mr mg mp mpl mdi mc : Nat) (cd : Int) (n w rc sc mo fo : Nat) (k0 : Nat) (T : Nat → Int) (sz : Nat)  : Met l yX3_start wsX3_start ({ frames := 0, cells := 0, slots := 0, locals := 0 }) (wrP dC dI [(cI, .int)] [(m0, .inr (3, [.int (iI cd), .int (iI (n : Int)), .int (iI (w : Int)), .ref mq, .int (iI (rc : Int)), .ref mn, .ref ml, .int (iI (sc : Int)), .ref ms, .ref mr, .ref mg, .ref mp, .int (iI (mo : Int)), .int (iI (fo : Int)), .ref mpl, .ref mdi, .ref mc])), (mc, .inl (cI, 5, .inl (iA T)))] sz [.ref m0, .int (iI (k0 : Int))]) (wrQv dC dI [(cI, .int)] [(m0, .inr (3, [.int (iI cd), .int (iI (n : Int)), .int (iI (w : Int)), .ref mq, .int (iI (rc : Int)), .ref mn, .ref ml, .int (iI (sc : Int)), .ref ms, .ref mr, .ref mg, .ref mp, .int (iI (mo : Int)), .int (iI (fo : Int)), .ref mpl, .ref mdi, .ref mc])), (mc, .inl (cI, 5, .inl (iA T)))] sz (S := Unit) (fun _ => True) (fun _ => [(m0, .inr (3, [.int (iI cd), .int (iI (n : Int)), .int (iI (w : Int)), .ref mq, .int (iI (rc : Int)), .ref mn, .ref ml, .int (iI (sc : Int)), .ref ms, .ref mr, .ref mg, .ref mp, .int (iI (k0 : Int)), .int (iI (0 : Int)), .ref mpl, .ref mdi, .ref mc])), (mc, .inl (cI, 5, .inl (iA (zF T 5 0))))])) 0 0 (va_A [(m0, .inr (3, [.int (iI cd), .int (iI (n : Int)), .int (iI (w : Int)), .ref mq, .int (iI (rc : Int)), .ref mn, .ref ml, .int (iI (sc : Int)), .ref ms, .ref mr, .ref mg, .ref mp, .int (iI (mo : Int)), .int (iI (fo : Int)), .ref mpl, .ref mdi, .ref mc])), (mc, .inl (cI, 5, .inl (iA T)))] sz) := by
  refine Met.ofW (cc := cX3_start) (maxL := 3) (ret := none) (by decide) rfl ?_
  intro p e s m args below meth c s₁ B hml hv
  obtain ⟨rfl, hsz, hP, hK, hD0⟩ := hv
  have hx := B.exec
  have hb := B.bytes
  have hr := B.returns
  have hts : ∀ w ∈ wsX3_start, w.before _ s = true := atoms_spec (ws := wsX3_start) B.pre
  have hown : s.vm.findClass RX3 = some m.cls := findClass_of_methodNamed B.named
  have hlocks := B.notSynchronized
  subst hsz
  have hD := hD0.self (sz := s.heap.size)
  have hA : ∀ q9 : Nat, s.heap.size ≤ q9 → va_A [(m0, .inr (3, [.int (iI cd), .int (iI (n : Int)), .int (iI (w : Int)), .ref mq, .int (iI (rc : Int)), .ref mn, .ref ml, .int (iI (sc : Int)), .ref ms, .ref mr, .ref mg, .ref mp, .int (iI (mo : Int)), .int (iI (fo : Int)), .ref mpl, .ref mdi, .ref mc])), (mc, .inl (cI, 5, .inl (iA T)))] s.heap.size q9 := fun q9 h => Or.inr h
  have hS : va_S (va_A [(m0, .inr (3, [.int (iI cd), .int (iI (n : Int)), .int (iI (w : Int)), .ref mq, .int (iI (rc : Int)), .ref mn, .ref ml, .int (iI (sc : Int)), .ref ms, .ref mr, .ref mg, .ref mp, .int (iI (mo : Int)), .int (iI (fo : Int)), .ref mpl, .ref mdi, .ref mc])), (mc, .inl (cI, 5, .inl (iA T)))] s.heap.size) s.heap s.heap [] := va_S.rf
  generalize hAe : va_A [(m0, .inr (3, [.int (iI cd), .int (iI (n : Int)), .int (iI (w : Int)), .ref mq, .int (iI (rc : Int)), .ref mn, .ref ml, .int (iI (sc : Int)), .ref ms, .ref mr, .ref mg, .ref mp, .int (iI (mo : Int)), .int (iI (fo : Int)), .ref mpl, .ref mdi, .ref mc])), (mc, .inl (cI, 5, .inl (iA T)))] s.heap.size = A at hD hA hS
  have hP : va_P (dC, dI) vwCl [(m0, .inr (3, [.int (iI cd), .int (iI (n : Int)), .int (iI (w : Int)), .ref mq, .int (iI (rc : Int)), .ref mn, .ref ml, .int (iI (sc : Int)), .ref ms, .ref mr, .ref mg, .ref mp, .int (iI (mo : Int)), .int (iI (fo : Int)), .ref mpl, .ref mdi, .ref mc])), (mc, .inl (cI, 5, .inl (iA T)))] s.heap := hP
  have hl := lv_entry ([.ref m0, .int (iI (k0 : Int))]) (n := 3) (Nat.le_of_ble_eq_true rfl)
  rw [lg_entry_eq]
  generalize (lg_sl ([.ref m0, .int (iI (k0 : Int))]) ++ List.replicate (3 - (lg_sl ([.ref m0, .int (iI (k0 : Int))])).length) Slot.unset).toArray = ls at hl ⊢
  have hl : lv_has ls 3 [(0, .ref m0), (1, .int (iI (k0 : Int)))] := hl
  generalize hargs : ([.ref m0, .int (iI (k0 : Int))] : List Value).toArray = args at hts ⊢
  refine z_intro (fun R Q hR hQ => ?_)
  have hRf : R.frames = 0 := by rw [hR]; rfl
  have hRl : R.locals = 0 := by rw [hR]; rfl
  have hRc : R.cells = 0 := by rw [hR]; rfl
  have hRs : R.slots = 0 := by rw [hR]; rfl
  have in_X3 : ∀ w ∈ u_ws RX3 TX3 17, w ∈ wsX3_start := fun w h => List.mem_cons_of_mem _ (inW_X3 w h)
  have fl_41 := wa_hts hts wd_500
  have fl_54 := wa_hts hts wd_497
  have fl_94 := wa_hts hts wd_496
  clear hR hargs B
  refine lv_aload_n hx hb dX3_start_0 rfl (lv_at hl 0 rfl) ?_
  refine lv_iload_n hx hb dX3_start_1 rfl (lv_at hl 1 rfl) ?_
  refine va_put (D := (dC, dI)) (ci := 3) (v := .int (iI (k0 : Int))) (ty := .int) (C := RX3) (T := TX3) (N := 17) hx hb hts in_X3 tyX3 tyX3_ok nmX3 hown hK hP hD hS 0 rfl rfl 12 (by decide) fl_94 (fun _ h9 => h9) rfl (by decide +kernel) rfl rfl (Nat.le_of_ble_eq_true rfl) dX3_start_2 (fun H locs hP hD hS => ?_)
  have hP : va_P (dC, dI) vwCl [(m0, .inr (3, [.int (iI cd), .int (iI (n : Int)), .int (iI (w : Int)), .ref mq, .int (iI (rc : Int)), .ref mn, .ref ml, .int (iI (sc : Int)), .ref ms, .ref mr, .ref mg, .ref mp, .int (iI (k0 : Int)), .int (iI (fo : Int)), .ref mpl, .ref mdi, .ref mc])), (mc, .inl (cI, 5, .inl (iA T)))] H := hP
  have hD : va_D A [(m0, .inr (3, [.int (iI cd), .int (iI (n : Int)), .int (iI (w : Int)), .ref mq, .int (iI (rc : Int)), .ref mn, .ref ml, .int (iI (sc : Int)), .ref ms, .ref mr, .ref mg, .ref mp, .int (iI (k0 : Int)), .int (iI (fo : Int)), .ref mpl, .ref mdi, .ref mc])), (mc, .inl (cI, 5, .inl (iA T)))] := hD
  refine lv_aload_n hx hb dX3_start_5 rfl (lv_at hl 0 rfl) ?_
  refine lv_iconst (v := iI (0 : Int)) hx hb dX3_start_6 (by decide) ?_
  refine va_put (D := (dC, dI)) (ci := 3) (v := .int (iI (0 : Int))) (ty := .int) (C := RX3) (T := TX3) (N := 17) hx hb hts in_X3 tyX3 tyX3_ok nmX3 hown hK hP hD hS 0 rfl rfl 13 (by decide) fl_54 (fun _ h9 => h9) rfl (by decide +kernel) rfl rfl (Nat.le_of_ble_eq_true rfl) dX3_start_7 (fun H locs hP hD hS => ?_)
  have hP : va_P (dC, dI) vwCl [(m0, .inr (3, [.int (iI cd), .int (iI (n : Int)), .int (iI (w : Int)), .ref mq, .int (iI (rc : Int)), .ref mn, .ref ml, .int (iI (sc : Int)), .ref ms, .ref mr, .ref mg, .ref mp, .int (iI (k0 : Int)), .int (iI (0 : Int)), .ref mpl, .ref mdi, .ref mc])), (mc, .inl (cI, 5, .inl (iA T)))] H := hP
  have hD : va_D A [(m0, .inr (3, [.int (iI cd), .int (iI (n : Int)), .int (iI (w : Int)), .ref mq, .int (iI (rc : Int)), .ref mn, .ref ml, .int (iI (sc : Int)), .ref ms, .ref mr, .ref mg, .ref mp, .int (iI (k0 : Int)), .int (iI (0 : Int)), .ref mpl, .ref mdi, .ref mc])), (mc, .inl (cI, 5, .inl (iA T)))] := hD
  refine lv_iconst (v := iI (0 : Int)) hx hb dX3_start_10 (by decide) ?_
  refine lv_istore_n (lv' := [(2, .int (iI (0 : Int))), (0, .ref m0), (1, .int (iI (k0 : Int)))]) hx hb dX3_start_11 rfl hl (by decide) rfl (fun ls hl => ?_)
  have lp : ∀ (k9 : Nat) (i : Nat) (T9 : Nat → Int) (H : Heap) (locs : List Loc) (ls : Array Slot), (i ≤ 5) → (T9 = zF T i 0) → 5 - i = k9 → va_P (dC, dI) vwCl [(m0, .inr (3, [.int (iI cd), .int (iI (n : Int)), .int (iI (w : Int)), .ref mq, .int (iI (rc : Int)), .ref mn, .ref ml, .int (iI (sc : Int)), .ref ms, .ref mr, .ref mg, .ref mp, .int (iI (k0 : Int)), .int (iI (0 : Int)), .ref mpl, .ref mdi, .ref mc])), (mc, .inl (cI, 5, .inl (iA T9)))] H → va_D A [(m0, .inr (3, [.int (iI cd), .int (iI (n : Int)), .int (iI (w : Int)), .ref mq, .int (iI (rc : Int)), .ref mn, .ref ml, .int (iI (sc : Int)), .ref ms, .ref mr, .ref mg, .ref mp, .int (iI (k0 : Int)), .int (iI (0 : Int)), .ref mpl, .ref mdi, .ref mc])), (mc, .inl (cI, 5, .inl (iA T9)))] → va_S A s.heap H locs → lv_has ls 3 [(0, .ref m0), (1, .int (iI (k0 : Int))), (2, .int (iI (i : Int)))] → W p l e R s m args below meth c H locs 0 0 Q (F0 m 12 ls []) := by
    intro k9
    induction k9 using Nat.strongRecOn with
    | ind k9 ih_lp =>
      intro i T9 H locs ls hi hT9 hk9 hP hD hS hl
      refine lv_iload_n hx hb dX3_start_12 rfl (lv_at hl 2 rfl) ?_
      refine lv_iconst (v := iI (5 : Int)) hx hb dX3_start_13 (by decide) ?_
      refine z_icmp_ge (tgt := 30) hx hb dX3_start_14 (by decide) (by omega) (fun h14 => ?_) (fun h14 => ?_)
      · have ein : i = 5 := by omega
        rw [hT9, ein] at hP hD
        subst hAe
        exact zw_retv (()) hx hb hr hlocks hQ (trivial) hP hK hD hS dX3_start_30
      · refine lv_aload_n hx hb dX3_start_17 rfl (lv_at hl 0 rfl) ?_
        refine va_get (D := (dC, dI)) (ci := 3) (v := .ref mc) (C := RX3) (T := TX3) (N := 17) hx hb hts in_X3 hown hK hP 0 rfl rfl 16 (by decide) fl_41 (fun _ h9 => h9) rfl dX3_start_18 ?_
        refine lv_iload_n hx hb dX3_start_21 rfl (lv_at hl 2 rfl) ?_
        refine lv_iconst (v := iI (0 : Int)) hx hb dX3_start_22 (by decide) ?_
        refine z_iast hx hb hK hP hD hS 1 0 rfl rfl i (by omega) dX3_start_23 (fun H locs hP hD hS => ?_)
        have hP : va_P (dC, dI) vwCl [(m0, .inr (3, [.int (iI cd), .int (iI (n : Int)), .int (iI (w : Int)), .ref mq, .int (iI (rc : Int)), .ref mn, .ref ml, .int (iI (sc : Int)), .ref ms, .ref mr, .ref mg, .ref mp, .int (iI (k0 : Int)), .int (iI (0 : Int)), .ref mpl, .ref mdi, .ref mc])), (mc, .inl (cI, 5, .inl (iA (zU T9 i (0 : Int)))))] H := hP
        have hD : va_D A [(m0, .inr (3, [.int (iI cd), .int (iI (n : Int)), .int (iI (w : Int)), .ref mq, .int (iI (rc : Int)), .ref mn, .ref ml, .int (iI (sc : Int)), .ref ms, .ref mr, .ref mg, .ref mp, .int (iI (k0 : Int)), .int (iI (0 : Int)), .ref mpl, .ref mdi, .ref mc])), (mc, .inl (cI, 5, .inl (iA (zU T9 i (0 : Int)))))] := hD
        refine z_iinc (k := 2) (b := ((i + 1 : Nat) : Int)) (lv' := [(2, .int (iI ((i + 1 : Nat) : Int))), (0, .ref m0), (1, .int (iI (k0 : Int)))]) hx hb dX3_start_24 hl rfl (by omega) (by decide) rfl (fun ls hl => ?_)
        refine lv_goto (tgt := 12) hx hb dX3_start_27 (by decide) ?_
        exact ih_lp _ (by omega) (i + 1) (zU T9 i 0) H locs ls (by omega) (by rw [hT9]; exact zF_step) rfl hP hD hS (lv_sub hl [1, 2, 0] rfl)
  exact lp _ 0 T _ _ ls (by omega) ((zF_0 _ _).symm) rfl hP hD hS (lv_sub hl [1, 2, 0] rfl)
set_option maxRecDepth 100000 in
set_option maxHeartbeats 4000000 in
theorem c_tally (l : Launch) (dC : Nat → ClassId) (dI : Nat → Nat → Nat) (cI : ClassId) (m0 mq mn ml ms mr mg mp mpl mdi mc : Nat) (cd : Int) (n w rc sc mo fo : Nat) (k0 : Nat) (T : Nat → Int) (sz : Nat) (hk0 : k0 < 5) : Met l yX3_tally wsX3_tally ({ frames := 0, cells := 0, slots := 0, locals := 0 }) (wrP dC dI [(cI, .int)] [(m0, .inr (3, [.int (iI cd), .int (iI (n : Int)), .int (iI (w : Int)), .ref mq, .int (iI (rc : Int)), .ref mn, .ref ml, .int (iI (sc : Int)), .ref ms, .ref mr, .ref mg, .ref mp, .int (iI (mo : Int)), .int (iI (fo : Int)), .ref mpl, .ref mdi, .ref mc])), (mc, .inl (cI, 5, .inl (iA T)))] sz [.ref m0, .int (iI (k0 : Int))]) (wrQv dC dI [(cI, .int)] [(m0, .inr (3, [.int (iI cd), .int (iI (n : Int)), .int (iI (w : Int)), .ref mq, .int (iI (rc : Int)), .ref mn, .ref ml, .int (iI (sc : Int)), .ref ms, .ref mr, .ref mg, .ref mp, .int (iI (mo : Int)), .int (iI (fo : Int)), .ref mpl, .ref mdi, .ref mc])), (mc, .inl (cI, 5, .inl (iA T)))] sz (S := Unit) (fun _ => True) (fun _ => [(m0, .inr (3, [.int (iI cd), .int (iI (n : Int)), .int (iI (w : Int)), .ref mq, .int (iI (rc : Int)), .ref mn, .ref ml, .int (iI (sc : Int)), .ref ms, .ref mr, .ref mg, .ref mp, .int (iI (mo : Int)), .int (iI (fo : Int)), .ref mpl, .ref mdi, .ref mc])), (mc, .inl (cI, 5, .inl (iA (bmp T k0))))])) 0 0 (va_A [(m0, .inr (3, [.int (iI cd), .int (iI (n : Int)), .int (iI (w : Int)), .ref mq, .int (iI (rc : Int)), .ref mn, .ref ml, .int (iI (sc : Int)), .ref ms, .ref mr, .ref mg, .ref mp, .int (iI (mo : Int)), .int (iI (fo : Int)), .ref mpl, .ref mdi, .ref mc])), (mc, .inl (cI, 5, .inl (iA T)))] sz) := by
  refine Met.ofW (cc := cX3_tally) (maxL := 2) (ret := none) (by decide) rfl ?_
  intro p e s m args below meth c s₁ B hml hv
  obtain ⟨rfl, hsz, hP, hK, hD0⟩ := hv
  have hx := B.exec
  have hb := B.bytes
  have hr := B.returns
  have hts : ∀ w ∈ wsX3_tally, w.before _ s = true := atoms_spec (ws := wsX3_tally) B.pre
  have hown : s.vm.findClass RX3 = some m.cls := findClass_of_methodNamed B.named
  have hlocks := B.notSynchronized
  subst hsz
  have hD := hD0.self (sz := s.heap.size)
  have hA : ∀ q9 : Nat, s.heap.size ≤ q9 → va_A [(m0, .inr (3, [.int (iI cd), .int (iI (n : Int)), .int (iI (w : Int)), .ref mq, .int (iI (rc : Int)), .ref mn, .ref ml, .int (iI (sc : Int)), .ref ms, .ref mr, .ref mg, .ref mp, .int (iI (mo : Int)), .int (iI (fo : Int)), .ref mpl, .ref mdi, .ref mc])), (mc, .inl (cI, 5, .inl (iA T)))] s.heap.size q9 := fun q9 h => Or.inr h
  have hS : va_S (va_A [(m0, .inr (3, [.int (iI cd), .int (iI (n : Int)), .int (iI (w : Int)), .ref mq, .int (iI (rc : Int)), .ref mn, .ref ml, .int (iI (sc : Int)), .ref ms, .ref mr, .ref mg, .ref mp, .int (iI (mo : Int)), .int (iI (fo : Int)), .ref mpl, .ref mdi, .ref mc])), (mc, .inl (cI, 5, .inl (iA T)))] s.heap.size) s.heap s.heap [] := va_S.rf
  generalize hAe : va_A [(m0, .inr (3, [.int (iI cd), .int (iI (n : Int)), .int (iI (w : Int)), .ref mq, .int (iI (rc : Int)), .ref mn, .ref ml, .int (iI (sc : Int)), .ref ms, .ref mr, .ref mg, .ref mp, .int (iI (mo : Int)), .int (iI (fo : Int)), .ref mpl, .ref mdi, .ref mc])), (mc, .inl (cI, 5, .inl (iA T)))] s.heap.size = A at hD hA hS
  have hP : va_P (dC, dI) vwCl [(m0, .inr (3, [.int (iI cd), .int (iI (n : Int)), .int (iI (w : Int)), .ref mq, .int (iI (rc : Int)), .ref mn, .ref ml, .int (iI (sc : Int)), .ref ms, .ref mr, .ref mg, .ref mp, .int (iI (mo : Int)), .int (iI (fo : Int)), .ref mpl, .ref mdi, .ref mc])), (mc, .inl (cI, 5, .inl (iA T)))] s.heap := hP
  have hl := lv_entry ([.ref m0, .int (iI (k0 : Int))]) (n := 2) (Nat.le_of_ble_eq_true rfl)
  rw [lg_entry_eq]
  generalize (lg_sl ([.ref m0, .int (iI (k0 : Int))]) ++ List.replicate (2 - (lg_sl ([.ref m0, .int (iI (k0 : Int))])).length) Slot.unset).toArray = ls at hl ⊢
  have hl : lv_has ls 2 [(0, .ref m0), (1, .int (iI (k0 : Int)))] := hl
  generalize hargs : ([.ref m0, .int (iI (k0 : Int))] : List Value).toArray = args at hts ⊢
  refine z_intro (fun R Q hR hQ => ?_)
  have hRf : R.frames = 0 := by rw [hR]; rfl
  have hRl : R.locals = 0 := by rw [hR]; rfl
  have hRc : R.cells = 0 := by rw [hR]; rfl
  have hRs : R.slots = 0 := by rw [hR]; rfl
  have in_X3 : ∀ w ∈ u_ws RX3 TX3 17, w ∈ wsX3_tally := fun w h => List.mem_cons_of_mem _ (inW_X3 w h)
  have fl_41 := wa_hts hts wd_500
  clear hR hargs B
  refine lv_aload_n hx hb dX3_tally_0 rfl (lv_at hl 0 rfl) ?_
  refine va_get (D := (dC, dI)) (ci := 3) (v := .ref mc) (C := RX3) (T := TX3) (N := 17) hx hb hts in_X3 hown hK hP 0 rfl rfl 16 (by decide) fl_41 (fun _ h9 => h9) rfl dX3_tally_1 ?_
  refine lv_iload_n hx hb dX3_tally_4 rfl (lv_at hl 1 rfl) ?_
  refine lv_aload_n hx hb dX3_tally_5 rfl (lv_at hl 0 rfl) ?_
  refine va_get (D := (dC, dI)) (ci := 3) (v := .ref mc) (C := RX3) (T := TX3) (N := 17) hx hb hts in_X3 hown hK hP 0 rfl rfl 16 (by decide) fl_41 (fun _ h9 => h9) rfl dX3_tally_6 ?_
  refine lv_iload_n hx hb dX3_tally_9 rfl (lv_at hl 1 rfl) ?_
  refine z_iald hx hb hK hP 1 0 rfl rfl k0 (by omega) dX3_tally_10 ?_
  refine lv_iconst (v := iI (1 : Int)) hx hb dX3_tally_11 (by decide) ?_
  refine z_iadd hx hb dX3_tally_12 ?_
  refine z_iast hx hb hK hP hD hS 1 0 rfl rfl k0 (by omega) dX3_tally_13 (fun H locs hP hD hS => ?_)
  have hP : va_P (dC, dI) vwCl [(m0, .inr (3, [.int (iI cd), .int (iI (n : Int)), .int (iI (w : Int)), .ref mq, .int (iI (rc : Int)), .ref mn, .ref ml, .int (iI (sc : Int)), .ref ms, .ref mr, .ref mg, .ref mp, .int (iI (mo : Int)), .int (iI (fo : Int)), .ref mpl, .ref mdi, .ref mc])), (mc, .inl (cI, 5, .inl (iA (zU T k0 ((T k0) + (1 : Int))))))] H := hP
  have hD : va_D A [(m0, .inr (3, [.int (iI cd), .int (iI (n : Int)), .int (iI (w : Int)), .ref mq, .int (iI (rc : Int)), .ref mn, .ref ml, .int (iI (sc : Int)), .ref ms, .ref mr, .ref mg, .ref mp, .int (iI (mo : Int)), .int (iI (fo : Int)), .ref mpl, .ref mdi, .ref mc])), (mc, .inl (cI, 5, .inl (iA (zU T k0 ((T k0) + (1 : Int))))))] := hD
  subst hAe
  exact zw_retv (()) hx hb hr hlocks hQ (trivial) hP hK hD hS dX3_tally_14
end
section
set_option maxRecDepth 100000 in
set_option maxHeartbeats 4000000 in
theorem c_turn (l : Launch) (dC : Nat → ClassId) (dI : Nat → Nat → Nat) (cI : ClassId) (m0 mq mn ml ms mr mg mp mpl mdi mc : Nat) (cd : Int) (n w rc sc mo fo : Nat) (pl : Int) (q r G PL DI T : Nat → Int) (sz : Nat) (hn : 2 ≤ n ∧ n ≤ 16) (hw : w ≤ 15) (hvq : vals n q) (hvr : vals n r) (hG : rgA G) (hlk : lok mo (fo, PL, DI, T)) (hmo : 1 ≤ mo ∧ mo ≤ 12) (hfo : fo ≤ mo) : Met l yX3_turn wsX3_turn ({ frames := 4, cells := 0, slots := 0, locals := 90 }) (wrP dC dI [(cI, .int)] [(m0, .inr (3, [.int (iI cd), .int (iI (n : Int)), .int (iI (w : Int)), .ref mq, .int (iI (rc : Int)), .ref mn, .ref ml, .int (iI (sc : Int)), .ref ms, .ref mr, .ref mg, .ref mp, .int (iI (mo : Int)), .int (iI (fo : Int)), .ref mpl, .ref mdi, .ref mc])), (mq, .inl (cI, 16, .inl (iA q))), (mr, .inl (cI, 16, .inl (iA r))), (mg, .inl (cI, 256, .inl (iA G))), (mpl, .inl (cI, 13, .inl (iA PL))), (mdi, .inl (cI, 13, .inl (iA DI))), (mc, .inl (cI, 5, .inl (iA T)))] sz [.ref m0, .int (iI pl)]) (wrQv dC dI [(cI, .int)] [(m0, .inr (3, [.int (iI cd), .int (iI (n : Int)), .int (iI (w : Int)), .ref mq, .int (iI (rc : Int)), .ref mn, .ref ml, .int (iI (sc : Int)), .ref ms, .ref mr, .ref mg, .ref mp, .int (iI (mo : Int)), .int (iI (fo : Int)), .ref mpl, .ref mdi, .ref mc])), (mq, .inl (cI, 16, .inl (iA q))), (mr, .inl (cI, 16, .inl (iA r))), (mg, .inl (cI, 256, .inl (iA G))), (mpl, .inl (cI, 13, .inl (iA PL))), (mdi, .inl (cI, 13, .inl (iA DI))), (mc, .inl (cI, 5, .inl (iA T)))] sz (S := (Lst × (Nat → Int))) (fun u => lsim u.1 (wgh n w q r mo pl (fo, PL, DI, T)) ∧ lok mo u.1 ∧ rgA u.2) (fun u => [(m0, .inr (3, [.int (iI cd), .int (iI (n : Int)), .int (iI (w : Int)), .ref mq, .int (iI (rc : Int)), .ref mn, .ref ml, .int (iI (sc : Int)), .ref ms, .ref mr, .ref mg, .ref mp, .int (iI (mo : Int)), .int (iI ((u.1.1 : Nat) : Int)), .ref mpl, .ref mdi, .ref mc])), (mq, .inl (cI, 16, .inl (iA q))), (mr, .inl (cI, 16, .inl (iA r))), (mg, .inl (cI, 256, .inl (iA u.2))), (mpl, .inl (cI, 13, .inl (iA u.1.2.1))), (mdi, .inl (cI, 13, .inl (iA u.1.2.2.1))), (mc, .inl (cI, 5, .inl (iA u.1.2.2.2)))])) 0 0 (va_A [(m0, .inr (3, [.int (iI cd), .int (iI (n : Int)), .int (iI (w : Int)), .ref mq, .int (iI (rc : Int)), .ref mn, .ref ml, .int (iI (sc : Int)), .ref ms, .ref mr, .ref mg, .ref mp, .int (iI (mo : Int)), .int (iI (fo : Int)), .ref mpl, .ref mdi, .ref mc])), (mq, .inl (cI, 16, .inl (iA q))), (mr, .inl (cI, 16, .inl (iA r))), (mg, .inl (cI, 256, .inl (iA G))), (mpl, .inl (cI, 13, .inl (iA PL))), (mdi, .inl (cI, 13, .inl (iA DI))), (mc, .inl (cI, 5, .inl (iA T)))] sz) := by
  refine Met.ofW (cc := cX3_turn) (maxL := 6) (ret := none) (by decide) rfl ?_
  intro p e s m args below meth c s₁ B hml hv
  obtain ⟨rfl, hsz, hP, hK, hD0⟩ := hv
  have hx := B.exec
  have hb := B.bytes
  have hr := B.returns
  have hts : ∀ w ∈ wsX3_turn, w.before _ s = true := atoms_spec (ws := wsX3_turn) B.pre
  have hown : s.vm.findClass RX3 = some m.cls := findClass_of_methodNamed B.named
  have hlocks := B.notSynchronized
  subst hsz
  have hD := hD0.self (sz := s.heap.size)
  have hA : ∀ q9 : Nat, s.heap.size ≤ q9 → va_A [(m0, .inr (3, [.int (iI cd), .int (iI (n : Int)), .int (iI (w : Int)), .ref mq, .int (iI (rc : Int)), .ref mn, .ref ml, .int (iI (sc : Int)), .ref ms, .ref mr, .ref mg, .ref mp, .int (iI (mo : Int)), .int (iI (fo : Int)), .ref mpl, .ref mdi, .ref mc])), (mq, .inl (cI, 16, .inl (iA q))), (mr, .inl (cI, 16, .inl (iA r))), (mg, .inl (cI, 256, .inl (iA G))), (mpl, .inl (cI, 13, .inl (iA PL))), (mdi, .inl (cI, 13, .inl (iA DI))), (mc, .inl (cI, 5, .inl (iA T)))] s.heap.size q9 := fun q9 h => Or.inr h
  have hS : va_S (va_A [(m0, .inr (3, [.int (iI cd), .int (iI (n : Int)), .int (iI (w : Int)), .ref mq, .int (iI (rc : Int)), .ref mn, .ref ml, .int (iI (sc : Int)), .ref ms, .ref mr, .ref mg, .ref mp, .int (iI (mo : Int)), .int (iI (fo : Int)), .ref mpl, .ref mdi, .ref mc])), (mq, .inl (cI, 16, .inl (iA q))), (mr, .inl (cI, 16, .inl (iA r))), (mg, .inl (cI, 256, .inl (iA G))), (mpl, .inl (cI, 13, .inl (iA PL))), (mdi, .inl (cI, 13, .inl (iA DI))), (mc, .inl (cI, 5, .inl (iA T)))] s.heap.size) s.heap s.heap [] := va_S.rf
  generalize hAe : va_A [(m0, .inr (3, [.int (iI cd), .int (iI (n : Int)), .int (iI (w : Int)), .ref mq, .int (iI (rc : Int)), .ref mn, .ref ml, .int (iI (sc : Int)), .ref ms, .ref mr, .ref mg, .ref mp, .int (iI (mo : Int)), .int (iI (fo : Int)), .ref mpl, .ref mdi, .ref mc])), (mq, .inl (cI, 16, .inl (iA q))), (mr, .inl (cI, 16, .inl (iA r))), (mg, .inl (cI, 256, .inl (iA G))), (mpl, .inl (cI, 13, .inl (iA PL))), (mdi, .inl (cI, 13, .inl (iA DI))), (mc, .inl (cI, 5, .inl (iA T)))] s.heap.size = A at hD hA hS
  have hP : va_P (dC, dI) vwCl [(m0, .inr (3, [.int (iI cd), .int (iI (n : Int)), .int (iI (w : Int)), .ref mq, .int (iI (rc : Int)), .ref mn, .ref ml, .int (iI (sc : Int)), .ref ms, .ref mr, .ref mg, .ref mp, .int (iI (mo : Int)), .int (iI (fo : Int)), .ref mpl, .ref mdi, .ref mc])), (mq, .inl (cI, 16, .inl (iA q))), (mr, .inl (cI, 16, .inl (iA r))), (mg, .inl (cI, 256, .inl (iA G))), (mpl, .inl (cI, 13, .inl (iA PL))), (mdi, .inl (cI, 13, .inl (iA DI))), (mc, .inl (cI, 5, .inl (iA T)))] s.heap := hP
  have hl := lv_entry ([.ref m0, .int (iI pl)]) (n := 6) (Nat.le_of_ble_eq_true rfl)
  rw [lg_entry_eq]
  generalize (lg_sl ([.ref m0, .int (iI pl)]) ++ List.replicate (6 - (lg_sl ([.ref m0, .int (iI pl)])).length) Slot.unset).toArray = ls at hl ⊢
  have hl : lv_has ls 6 [(0, .ref m0), (1, .int (iI pl))] := hl
  generalize hargs : ([.ref m0, .int (iI pl)] : List Value).toArray = args at hts ⊢
  refine z_intro (fun R Q hR hQ => ?_)
  have hRf : R.frames = 4 := by rw [hR]; rfl
  have hRl : R.locals = 90 := by rw [hR]; rfl
  have hRc : R.cells = 0 := by rw [hR]; rfl
  have hRs : R.slots = 0 := by rw [hR]; rfl
  have in_X3 : ∀ w ∈ u_ws RX3 TX3 17, w ∈ wsX3_turn := fun w h => List.mem_cons_of_mem _ (inW_X3 w h)
  have fl_7 := wa_hts hts wd_485
  have fl_35 := wa_hts hts wd_498
  have fl_38 := wa_hts hts wd_499
  have fl_54 := wa_hts hts wd_497
  have fl_94 := wa_hts hts wd_496
  clear hR hargs B
  refine lv_aload_n hx hb dX3_turn_0 rfl (lv_at hl 0 rfl) ?_
  refine va_get (D := (dC, dI)) (ci := 3) (v := .int (iI (fo : Int))) (C := RX3) (T := TX3) (N := 17) hx hb hts in_X3 hown hK hP 0 rfl rfl 13 (by decide) fl_54 (fun _ h9 => h9) rfl dX3_turn_1 ?_
  refine lv_aload_n hx hb dX3_turn_4 rfl (lv_at hl 0 rfl) ?_
  refine va_get (D := (dC, dI)) (ci := 3) (v := .int (iI (mo : Int))) (C := RX3) (T := TX3) (N := 17) hx hb hts in_X3 hown hK hP 0 rfl rfl 12 (by decide) fl_94 (fun _ h9 => h9) rfl dX3_turn_5 ?_
  refine z_icmp_ne (tgt := 15) hx hb dX3_turn_8 (by decide) (by omega) (fun h8 => ?_) (fun h8 => ?_)
  · refine lv_iconst (v := iI (0 : Int)) hx hb dX3_turn_15 (by decide) ?_
    refine lv_istore_n (lv' := [(2, .int (iI (0 : Int))), (0, .ref m0), (1, .int (iI pl))]) hx hb dX3_turn_16 rfl hl (by decide) rfl (fun ls hl => ?_)
    refine lv_iload_n hx hb dX3_turn_17 rfl (lv_at hl 0 rfl) ?_
    refine z_if_eq (tgt := 35) hx hb dX3_turn_18 (by decide) (by decide) (fun _ => ?_) (fun h9 => absurd h9 (by decide))
    refine lv_iconst (v := iI (0 : Int)) hx hb dX3_turn_35 (by decide) ?_
    refine lv_istore_n (lv' := [(3, .int (iI (0 : Int))), (2, .int (iI (0 : Int))), (0, .ref m0), (1, .int (iI pl))]) hx hb dX3_turn_36 rfl hl (by decide) rfl (fun ls hl => ?_)
    have hrD : rgA DI := hlk.2.1
    have rdl := hrD (mo - 1)
    have hfm : fo ≠ mo := by omega
    have hfl : fo ≤ mo := hlk.1
    refine lv_iconst (v := iI (0 : Int)) hx hb dX3_turn_37 (by decide) ?_
    refine lv_istore (lv' := [(4, .int (iI (0 : Int))), (3, .int (iI (0 : Int))), (2, .int (iI (0 : Int))), (0, .ref m0), (1, .int (iI pl))]) hx hb dX3_turn_38 hl (by decide) rfl (fun ls hl => ?_)
    refine lv_iload hx hb dX3_turn_40 (lv_at hl 0 rfl) ?_
    refine lv_iconst (v := iI (3 : Int)) hx hb dX3_turn_42 (by decide) ?_
    refine z_icmp_ge (tgt := 73) hx hb dX3_turn_43 (by decide) (by decide) (fun h9 => absurd h9 (by decide)) (fun _ => ?_)
    refine lv_iload_n hx hb dX3_turn_46 rfl (lv_at hl 2 rfl) ?_
    refine z_if_eq (tgt := 73) hx hb dX3_turn_47 (by decide) (by decide) (fun _ => ?_) (fun h9 => absurd h9 (by decide))
    refine lv_aload_n hx hb dX3_turn_73 rfl (lv_at hl 3 rfl) ?_
    refine lv_iconst (v := iI (3 : Int)) hx hb dX3_turn_74 (by decide) ?_
    refine zw_v (wr := [(mq, .inl (cI, 16, .inl (iA q))), (mr, .inl (cI, 16, .inl (iA r))), (mg, .inl (cI, 256, .inl (iA G))), (mpl, .inl (cI, 13, .inl (iA PL))), (mdi, .inl (cI, 13, .inl (iA DI)))]) (va_runV (As := [.int (iI (3 : Int))]) (rest := []) ⟨hx, hb, hml, hown, hts⟩ (c_tally l dC dI cI m0 mq mn ml ms mr mg mp mpl mdi mc cd n w rc sc mo fo 3 T _ (by omega)) (cwV 1 hts (ga_V wd_626 wd_628 wd_24 wd_31 wd_629) rfl rfl rfl (by decide +kernel) ⟨(show 0 + 1 ≤ R.frames by omega), (show 8 + (2 + 11) + 0 ≤ R.locals by omega)⟩) (wr_preV (q0 := 0) (ci := 3) hP hK hD [0, 6] (by decide) rfl rfl rfl rfl) rfl rfl hl.1 rfl (lv_room (Nat.le_of_ble_eq_true rfl)) dX3_turn_75 ⟨by omega, by omega⟩) hP hD hS hA [0, 6] [1, 2, 3, 4, 5] rfl rfl (by decide) (by decide) (fun u75 H locs hw75 hP hD hS => ?_)
    have hP := hP.sub (ws' := [(m0, .inr (3, [.int (iI cd), .int (iI (n : Int)), .int (iI (w : Int)), .ref mq, .int (iI (rc : Int)), .ref mn, .ref ml, .int (iI (sc : Int)), .ref ms, .ref mr, .ref mg, .ref mp, .int (iI (mo : Int)), .int (iI (fo : Int)), .ref mpl, .ref mdi, .ref mc])), (mq, .inl (cI, 16, .inl (iA q))), (mr, .inl (cI, 16, .inl (iA r))), (mg, .inl (cI, 256, .inl (iA G))), (mpl, .inl (cI, 13, .inl (iA PL))), (mdi, .inl (cI, 13, .inl (iA DI))), (mc, .inl (cI, 5, .inl (iA (bmp T 3))))]) [5, 0, 1, 2, 3, 4, 6] rfl
    have hD := hD.sub (ws' := [(m0, .inr (3, [.int (iI cd), .int (iI (n : Int)), .int (iI (w : Int)), .ref mq, .int (iI (rc : Int)), .ref mn, .ref ml, .int (iI (sc : Int)), .ref ms, .ref mr, .ref mg, .ref mp, .int (iI (mo : Int)), .int (iI (fo : Int)), .ref mpl, .ref mdi, .ref mc])), (mq, .inl (cI, 16, .inl (iA q))), (mr, .inl (cI, 16, .inl (iA r))), (mg, .inl (cI, 256, .inl (iA G))), (mpl, .inl (cI, 13, .inl (iA PL))), (mdi, .inl (cI, 13, .inl (iA DI))), (mc, .inl (cI, 5, .inl (iA (bmp T 3))))]) [5, 0, 1, 2, 3, 4, 6] (by decide) rfl
    refine lv_aload_n hx hb dX3_turn_78 rfl (lv_at hl 3 rfl) ?_
    refine zw_v (wr := [(mpl, .inl (cI, 13, .inl (iA PL))), (mdi, .inl (cI, 13, .inl (iA DI))), (mc, .inl (cI, 5, .inl (iA (bmp T 3))))]) (va_runV (As := []) (rest := []) ⟨hx, hb, hml, hown, hts⟩ (c_fill l dC dI cI m0 mq mn ml ms mr mg mp mpl mdi mc cd n w rc sc mo fo q r G _ hn hw hvq hvr hG) (cwV 0 hts (ga_V wd_575 wd_577 wd_16 wd_31 wd_578) rfl rfl rfl (by decide +kernel) ⟨(show 3 + 1 ≤ R.frames by omega), (show 8 + (5 + 11) + 66 ≤ R.locals by omega)⟩) (wr_preV (q0 := 0) (ci := 3) hP hK hD [0, 1, 2, 3] (by decide) rfl rfl rfl rfl) rfl rfl hl.1 rfl (lv_room (Nat.le_of_ble_eq_true rfl)) dX3_turn_79 ⟨by omega, by omega⟩) hP hD hS hA [0, 1, 2, 3] [4, 5, 6] rfl rfl (by decide) (by decide) (fun u79 H locs hw79 hP hD hS => ?_)
    have hP := hP.sub (ws' := [(m0, .inr (3, [.int (iI cd), .int (iI (n : Int)), .int (iI (w : Int)), .ref mq, .int (iI (rc : Int)), .ref mn, .ref ml, .int (iI (sc : Int)), .ref ms, .ref mr, .ref mg, .ref mp, .int (iI (mo : Int)), .int (iI (fo : Int)), .ref mpl, .ref mdi, .ref mc])), (mq, .inl (cI, 16, .inl (iA q))), (mr, .inl (cI, 16, .inl (iA r))), (mg, .inl (cI, 256, .inl (iA u79))), (mpl, .inl (cI, 13, .inl (iA PL))), (mdi, .inl (cI, 13, .inl (iA DI))), (mc, .inl (cI, 5, .inl (iA (bmp T 3))))]) [3, 4, 5, 6, 0, 1, 2] rfl
    have hD := hD.sub (ws' := [(m0, .inr (3, [.int (iI cd), .int (iI (n : Int)), .int (iI (w : Int)), .ref mq, .int (iI (rc : Int)), .ref mn, .ref ml, .int (iI (sc : Int)), .ref ms, .ref mr, .ref mg, .ref mp, .int (iI (mo : Int)), .int (iI (fo : Int)), .ref mpl, .ref mdi, .ref mc])), (mq, .inl (cI, 16, .inl (iA q))), (mr, .inl (cI, 16, .inl (iA r))), (mg, .inl (cI, 256, .inl (iA u79))), (mpl, .inl (cI, 13, .inl (iA PL))), (mdi, .inl (cI, 13, .inl (iA DI))), (mc, .inl (cI, 5, .inl (iA (bmp T 3))))]) [3, 4, 5, 6, 0, 1, 2] (by decide) rfl
    refine lv_iload_n hx hb dX3_turn_82 rfl (lv_at hl 2 rfl) ?_
    refine z_if_eq (tgt := 100) hx hb dX3_turn_83 (by decide) (by decide) (fun _ => ?_) (fun h9 => absurd h9 (by decide))
    refine lv_aload_n hx hb dX3_turn_100 rfl (lv_at hl 3 rfl) ?_
    refine lv_aload_n hx hb dX3_turn_101 rfl (lv_at hl 3 rfl) ?_
    refine va_get (D := (dC, dI)) (ci := 3) (v := .int (iI (n : Int))) (C := RX3) (T := TX3) (N := 17) hx hb hts in_X3 hown hK hP 0 rfl rfl 1 (by decide) fl_7 (fun _ h9 => h9) rfl dX3_turn_102 ?_
    refine lv_iconst (v := iI (1 : Int)) hx hb dX3_turn_105 (by decide) ?_
    refine z_isub hx hb dX3_turn_106 ?_
    refine z_top (b := ((n - 1 : Nat) : Int)) (by omega) ?_
    refine lv_aload_n hx hb dX3_turn_107 rfl (lv_at hl 3 rfl) ?_
    refine va_get (D := (dC, dI)) (ci := 3) (v := .int (iI (n : Int))) (C := RX3) (T := TX3) (N := 17) hx hb hts in_X3 hown hK hP 0 rfl rfl 1 (by decide) fl_7 (fun _ h9 => h9) rfl dX3_turn_108 ?_
    refine lv_iconst (v := iI (1 : Int)) hx hb dX3_turn_111 (by decide) ?_
    refine z_isub hx hb dX3_turn_112 ?_
    refine z_top (b := ((n - 1 : Nat) : Int)) (by omega) ?_
    refine zr_i (va_runV (As := [.int (iI ((n - 1 : Nat) : Int)), .int (iI ((n - 1 : Nat) : Int))]) (rest := []) ⟨hx, hb, hml, hown, hts⟩ (c_mCostAt l dC dI cI m0 mq mn ml ms mr mg mp mpl mdi mc cd n w rc sc mo fo u79 ((n - 1 : Nat) : Int) ((n - 1 : Nat) : Int) hn hw (by omega) (by omega)) (cwV 2 hts (ga_V wd_583 wd_585 wd_18 wd_31 wd_586) rfl rfl rfl (by decide +kernel) ⟨(show 2 + 1 ≤ R.frames by omega), (show 8 + (3 + 11) + 44 ≤ R.locals by omega)⟩) (rd_preV (q0 := 0) (ci := 3) hP hK [0, 3] rfl rfl rfl) rfl rfl hl.1 rfl (lv_room (Nat.le_of_ble_eq_true rfl)) dX3_turn_113 ⟨by omega, by omega⟩) (fun d9 hd9 => ?_)
    have hcr := cst_rg hvq hvr hn.2 (w := w) (i := n - 1) (j := n - 1) (by omega) (by omega) (by omega)
    have ed9 : d9 = cst w q r (n - 1) (n - 1) := by
      rw [hd9]
      unfold mAt
      rw [if_pos (by omega), show (16 * ((n - 1 : Nat) : Int) + ((n - 1 : Nat) : Int)).toNat = 16 * (n - 1) + (n - 1) by omega]
      exact hw79.2 _ _ (by omega) (by omega) (by omega)
    refine lv_istore (lv' := [(4, .int (iI d9)), (3, .int (iI (0 : Int))), (2, .int (iI (0 : Int))), (0, .ref m0), (1, .int (iI pl))]) hx hb dX3_turn_116 hl (by decide) rfl (fun ls hl => ?_)
    refine lv_iload_n hx hb dX3_turn_118 rfl (lv_at hl 2 rfl) ?_
    refine z_if_eq (tgt := 129) hx hb dX3_turn_119 (by decide) (by decide) (fun _ => ?_) (fun h9 => absurd h9 (by decide))
    refine lv_aload_n hx hb dX3_turn_129 rfl (lv_at hl 3 rfl) ?_
    refine va_get (D := (dC, dI)) (ci := 3) (v := .int (iI (fo : Int))) (C := RX3) (T := TX3) (N := 17) hx hb hts in_X3 hown hK hP 0 rfl rfl 13 (by decide) fl_54 (fun _ h9 => h9) rfl dX3_turn_130 ?_
    refine lv_istore (lv' := [(5, .int (iI (fo : Int))), (4, .int (iI d9)), (3, .int (iI (0 : Int))), (2, .int (iI (0 : Int))), (0, .ref m0), (1, .int (iI pl))]) hx hb dX3_turn_133 hl (by decide) rfl (fun ls hl => ?_)
    have lpi : ∀ (k9 : Nat) (a : Nat) (P9 D9 : Nat → Int) (H : Heap) (locs : List Loc) (ls : Array Slot), (a ≤ fo) → (P9 = shf PL a fo) → (D9 = shf DI a fo) → (scn DI d9 a = scn DI d9 fo) → a = k9 → va_P (dC, dI) vwCl [(m0, .inr (3, [.int (iI cd), .int (iI (n : Int)), .int (iI (w : Int)), .ref mq, .int (iI (rc : Int)), .ref mn, .ref ml, .int (iI (sc : Int)), .ref ms, .ref mr, .ref mg, .ref mp, .int (iI (mo : Int)), .int (iI (fo : Int)), .ref mpl, .ref mdi, .ref mc])), (mq, .inl (cI, 16, .inl (iA q))), (mr, .inl (cI, 16, .inl (iA r))), (mg, .inl (cI, 256, .inl (iA u79))), (mpl, .inl (cI, 13, .inl (iA P9))), (mdi, .inl (cI, 13, .inl (iA D9))), (mc, .inl (cI, 5, .inl (iA (bmp T 3))))] H → va_D A [(m0, .inr (3, [.int (iI cd), .int (iI (n : Int)), .int (iI (w : Int)), .ref mq, .int (iI (rc : Int)), .ref mn, .ref ml, .int (iI (sc : Int)), .ref ms, .ref mr, .ref mg, .ref mp, .int (iI (mo : Int)), .int (iI (fo : Int)), .ref mpl, .ref mdi, .ref mc])), (mq, .inl (cI, 16, .inl (iA q))), (mr, .inl (cI, 16, .inl (iA r))), (mg, .inl (cI, 256, .inl (iA u79))), (mpl, .inl (cI, 13, .inl (iA P9))), (mdi, .inl (cI, 13, .inl (iA D9))), (mc, .inl (cI, 5, .inl (iA (bmp T 3))))] → va_S A s.heap H locs → lv_has ls 6 [(0, .ref m0), (1, .int (iI pl)), (2, .int (iI (0 : Int))), (4, .int (iI d9)), (5, .int (iI (a : Int)))] → W p l e R s m args below meth c H locs 0 0 Q (F0 m 135 ls []) := by
      intro k9
      induction k9 using Nat.strongRecOn with
      | ind k9 ih_lpi =>
        intro a P9 D9 H locs ls ha eP eD hsc hk9 hP hD hS hl
        have hD9 : D9 (a - 1) = DI (a - 1) ∨ a = 0 := by
          by_cases h9 : a = 0
          · exact Or.inr h9
          · rw [eD]; exact Or.inl (shf_at (by omega))
        have rD9 := hrD (a - 1)
        refine lv_iload hx hb dX3_turn_135 (lv_at hl 4 rfl) ?_
        refine z_if_le (tgt := 192) hx hb dX3_turn_137 (by decide) (by omega) (fun h137 => ?_) (fun h137 => ?_)
        · have esc : a = scn DI d9 fo := by
            rw [← hsc]
            exact (scn_stop (by omega)).symm
          refine lv_aload_n hx hb dX3_turn_192 rfl (lv_at hl 0 rfl) ?_
          refine va_get (D := (dC, dI)) (ci := 3) (v := .ref mdi) (C := RX3) (T := TX3) (N := 17) hx hb hts in_X3 hown hK hP 0 rfl rfl 15 (by decide) fl_38 (fun _ h9 => h9) rfl dX3_turn_193 ?_
          refine lv_iload hx hb dX3_turn_196 (lv_at hl 4 rfl) ?_
          refine lv_iload hx hb dX3_turn_198 (lv_at hl 3 rfl) ?_
          refine z_iast hx hb hK hP hD hS 5 0 rfl rfl a (by omega) dX3_turn_200 (fun H locs hP hD hS => ?_)
          have hP : va_P (dC, dI) vwCl [(m0, .inr (3, [.int (iI cd), .int (iI (n : Int)), .int (iI (w : Int)), .ref mq, .int (iI (rc : Int)), .ref mn, .ref ml, .int (iI (sc : Int)), .ref ms, .ref mr, .ref mg, .ref mp, .int (iI (mo : Int)), .int (iI (fo : Int)), .ref mpl, .ref mdi, .ref mc])), (mq, .inl (cI, 16, .inl (iA q))), (mr, .inl (cI, 16, .inl (iA r))), (mg, .inl (cI, 256, .inl (iA u79))), (mpl, .inl (cI, 13, .inl (iA P9))), (mdi, .inl (cI, 13, .inl (iA (zU D9 a d9)))), (mc, .inl (cI, 5, .inl (iA (bmp T 3))))] H := hP
          have hD : va_D A [(m0, .inr (3, [.int (iI cd), .int (iI (n : Int)), .int (iI (w : Int)), .ref mq, .int (iI (rc : Int)), .ref mn, .ref ml, .int (iI (sc : Int)), .ref ms, .ref mr, .ref mg, .ref mp, .int (iI (mo : Int)), .int (iI (fo : Int)), .ref mpl, .ref mdi, .ref mc])), (mq, .inl (cI, 16, .inl (iA q))), (mr, .inl (cI, 16, .inl (iA r))), (mg, .inl (cI, 256, .inl (iA u79))), (mpl, .inl (cI, 13, .inl (iA P9))), (mdi, .inl (cI, 13, .inl (iA (zU D9 a d9)))), (mc, .inl (cI, 5, .inl (iA (bmp T 3))))] := hD
          refine lv_aload_n hx hb dX3_turn_201 rfl (lv_at hl 0 rfl) ?_
          refine va_get (D := (dC, dI)) (ci := 3) (v := .ref mpl) (C := RX3) (T := TX3) (N := 17) hx hb hts in_X3 hown hK hP 0 rfl rfl 14 (by decide) fl_35 (fun _ h9 => h9) rfl dX3_turn_202 ?_
          refine lv_iload hx hb dX3_turn_205 (lv_at hl 4 rfl) ?_
          refine lv_iload_n hx hb dX3_turn_207 rfl (lv_at hl 1 rfl) ?_
          refine z_iast hx hb hK hP hD hS 4 0 rfl rfl a (by omega) dX3_turn_208 (fun H locs hP hD hS => ?_)
          have hP : va_P (dC, dI) vwCl [(m0, .inr (3, [.int (iI cd), .int (iI (n : Int)), .int (iI (w : Int)), .ref mq, .int (iI (rc : Int)), .ref mn, .ref ml, .int (iI (sc : Int)), .ref ms, .ref mr, .ref mg, .ref mp, .int (iI (mo : Int)), .int (iI (fo : Int)), .ref mpl, .ref mdi, .ref mc])), (mq, .inl (cI, 16, .inl (iA q))), (mr, .inl (cI, 16, .inl (iA r))), (mg, .inl (cI, 256, .inl (iA u79))), (mpl, .inl (cI, 13, .inl (iA (zU P9 a pl)))), (mdi, .inl (cI, 13, .inl (iA (zU D9 a d9)))), (mc, .inl (cI, 5, .inl (iA (bmp T 3))))] H := hP
          have hD : va_D A [(m0, .inr (3, [.int (iI cd), .int (iI (n : Int)), .int (iI (w : Int)), .ref mq, .int (iI (rc : Int)), .ref mn, .ref ml, .int (iI (sc : Int)), .ref ms, .ref mr, .ref mg, .ref mp, .int (iI (mo : Int)), .int (iI (fo : Int)), .ref mpl, .ref mdi, .ref mc])), (mq, .inl (cI, 16, .inl (iA q))), (mr, .inl (cI, 16, .inl (iA r))), (mg, .inl (cI, 256, .inl (iA u79))), (mpl, .inl (cI, 13, .inl (iA (zU P9 a pl)))), (mdi, .inl (cI, 13, .inl (iA (zU D9 a d9)))), (mc, .inl (cI, 5, .inl (iA (bmp T 3))))] := hD
          refine lv_aload_n hx hb dX3_turn_209 rfl (lv_at hl 0 rfl) ?_
          refine lv_aload_n hx hb dX3_turn_210 rfl (lv_at hl 0 rfl) ?_
          refine va_get (D := (dC, dI)) (ci := 3) (v := .int (iI (fo : Int))) (C := RX3) (T := TX3) (N := 17) hx hb hts in_X3 hown hK hP 0 rfl rfl 13 (by decide) fl_54 (fun _ h9 => h9) rfl dX3_turn_211 ?_
          refine lv_aload_n hx hb dX3_turn_214 rfl (lv_at hl 0 rfl) ?_
          refine va_get (D := (dC, dI)) (ci := 3) (v := .int (iI (mo : Int))) (C := RX3) (T := TX3) (N := 17) hx hb hts in_X3 hown hK hP 0 rfl rfl 12 (by decide) fl_94 (fun _ h9 => h9) rfl dX3_turn_215 ?_
          refine z_icmp_ge (tgt := 230) hx hb dX3_turn_218 (by decide) (by omega) (fun h218 => ?_) (fun h218 => ?_)
          · refine lv_aload_n hx hb dX3_turn_230 rfl (lv_at hl 0 rfl) ?_
            refine va_get (D := (dC, dI)) (ci := 3) (v := .int (iI (mo : Int))) (C := RX3) (T := TX3) (N := 17) hx hb hts in_X3 hown hK hP 0 rfl rfl 12 (by decide) fl_94 (fun _ h9 => h9) rfl dX3_turn_231 ?_
            refine z_top (b := ((min (fo + 1) mo : Nat) : Int)) (by omega) ?_
            refine va_put (D := (dC, dI)) (ci := 3) (v := .int (iI ((min (fo + 1) mo : Nat) : Int))) (ty := .int) (C := RX3) (T := TX3) (N := 17) hx hb hts in_X3 tyX3 tyX3_ok nmX3 hown hK hP hD hS 0 rfl rfl 13 (by decide) fl_54 (fun _ h9 => h9) rfl (by decide +kernel) rfl rfl (Nat.le_of_ble_eq_true rfl) dX3_turn_234 (fun H locs hP hD hS => ?_)
            have hP : va_P (dC, dI) vwCl [(m0, .inr (3, [.int (iI cd), .int (iI (n : Int)), .int (iI (w : Int)), .ref mq, .int (iI (rc : Int)), .ref mn, .ref ml, .int (iI (sc : Int)), .ref ms, .ref mr, .ref mg, .ref mp, .int (iI (mo : Int)), .int (iI ((min (fo + 1) mo : Nat) : Int)), .ref mpl, .ref mdi, .ref mc])), (mq, .inl (cI, 16, .inl (iA q))), (mr, .inl (cI, 16, .inl (iA r))), (mg, .inl (cI, 256, .inl (iA u79))), (mpl, .inl (cI, 13, .inl (iA (zU P9 a pl)))), (mdi, .inl (cI, 13, .inl (iA (zU D9 a d9)))), (mc, .inl (cI, 5, .inl (iA (bmp T 3))))] H := hP
            have hD : va_D A [(m0, .inr (3, [.int (iI cd), .int (iI (n : Int)), .int (iI (w : Int)), .ref mq, .int (iI (rc : Int)), .ref mn, .ref ml, .int (iI (sc : Int)), .ref ms, .ref mr, .ref mg, .ref mp, .int (iI (mo : Int)), .int (iI ((min (fo + 1) mo : Nat) : Int)), .ref mpl, .ref mdi, .ref mc])), (mq, .inl (cI, 16, .inl (iA q))), (mr, .inl (cI, 16, .inl (iA r))), (mg, .inl (cI, 256, .inl (iA u79))), (mpl, .inl (cI, 13, .inl (iA (zU P9 a pl)))), (mdi, .inl (cI, 13, .inl (iA (zU D9 a d9)))), (mc, .inl (cI, 5, .inl (iA (bmp T 3))))] := hD
            have eP9 : zU P9 a pl = insF PL (scn DI (cst w q r (n - 1) (n - 1)) fo) fo pl := by rw [eP, shf_end, esc, ed9]
            have eD9 : zU D9 a d9 = insF DI (scn DI (cst w q r (n - 1) (n - 1)) fo) fo (cst w q r (n - 1) (n - 1)) := by rw [eD, shf_end, esc, ed9]
            rw [eP9, eD9] at hP hD
            subst hAe
            exact zw_retv (((min (fo + 1) mo, insF PL (scn DI (cst w q r (n - 1) (n - 1)) fo) fo pl, insF DI (scn DI (cst w q r (n - 1) (n - 1)) fo) fo (cst w q r (n - 1) (n - 1)), bmp T 3), u79)) hx hb hr hlocks hQ (⟨ins_sim (by omega) hlk.1 (Or.inl hfm), lok_ins hlk hcr, hw79.1⟩) hP hK hD hS dX3_turn_237
          · refine lv_aload_n hx hb dX3_turn_221 rfl (lv_at hl 0 rfl) ?_
            refine va_get (D := (dC, dI)) (ci := 3) (v := .int (iI (fo : Int))) (C := RX3) (T := TX3) (N := 17) hx hb hts in_X3 hown hK hP 0 rfl rfl 13 (by decide) fl_54 (fun _ h9 => h9) rfl dX3_turn_222 ?_
            refine lv_iconst (v := iI (1 : Int)) hx hb dX3_turn_225 (by decide) ?_
            refine z_iadd hx hb dX3_turn_226 ?_
            refine lv_goto (tgt := 234) hx hb dX3_turn_227 (by decide) ?_
            refine z_top (b := ((min (fo + 1) mo : Nat) : Int)) (by omega) ?_
            refine va_put (D := (dC, dI)) (ci := 3) (v := .int (iI ((min (fo + 1) mo : Nat) : Int))) (ty := .int) (C := RX3) (T := TX3) (N := 17) hx hb hts in_X3 tyX3 tyX3_ok nmX3 hown hK hP hD hS 0 rfl rfl 13 (by decide) fl_54 (fun _ h9 => h9) rfl (by decide +kernel) rfl rfl (Nat.le_of_ble_eq_true rfl) dX3_turn_234 (fun H locs hP hD hS => ?_)
            have hP : va_P (dC, dI) vwCl [(m0, .inr (3, [.int (iI cd), .int (iI (n : Int)), .int (iI (w : Int)), .ref mq, .int (iI (rc : Int)), .ref mn, .ref ml, .int (iI (sc : Int)), .ref ms, .ref mr, .ref mg, .ref mp, .int (iI (mo : Int)), .int (iI ((min (fo + 1) mo : Nat) : Int)), .ref mpl, .ref mdi, .ref mc])), (mq, .inl (cI, 16, .inl (iA q))), (mr, .inl (cI, 16, .inl (iA r))), (mg, .inl (cI, 256, .inl (iA u79))), (mpl, .inl (cI, 13, .inl (iA (zU P9 a pl)))), (mdi, .inl (cI, 13, .inl (iA (zU D9 a d9)))), (mc, .inl (cI, 5, .inl (iA (bmp T 3))))] H := hP
            have hD : va_D A [(m0, .inr (3, [.int (iI cd), .int (iI (n : Int)), .int (iI (w : Int)), .ref mq, .int (iI (rc : Int)), .ref mn, .ref ml, .int (iI (sc : Int)), .ref ms, .ref mr, .ref mg, .ref mp, .int (iI (mo : Int)), .int (iI ((min (fo + 1) mo : Nat) : Int)), .ref mpl, .ref mdi, .ref mc])), (mq, .inl (cI, 16, .inl (iA q))), (mr, .inl (cI, 16, .inl (iA r))), (mg, .inl (cI, 256, .inl (iA u79))), (mpl, .inl (cI, 13, .inl (iA (zU P9 a pl)))), (mdi, .inl (cI, 13, .inl (iA (zU D9 a d9)))), (mc, .inl (cI, 5, .inl (iA (bmp T 3))))] := hD
            have eP9 : zU P9 a pl = insF PL (scn DI (cst w q r (n - 1) (n - 1)) fo) fo pl := by rw [eP, shf_end, esc, ed9]
            have eD9 : zU D9 a d9 = insF DI (scn DI (cst w q r (n - 1) (n - 1)) fo) fo (cst w q r (n - 1) (n - 1)) := by rw [eD, shf_end, esc, ed9]
            rw [eP9, eD9] at hP hD
            subst hAe
            exact zw_retv (((min (fo + 1) mo, insF PL (scn DI (cst w q r (n - 1) (n - 1)) fo) fo pl, insF DI (scn DI (cst w q r (n - 1) (n - 1)) fo) fo (cst w q r (n - 1) (n - 1)), bmp T 3), u79)) hx hb hr hlocks hQ (⟨ins_sim (by omega) hlk.1 (Or.inl hfm), lok_ins hlk hcr, hw79.1⟩) hP hK hD hS dX3_turn_237
        · refine lv_aload_n hx hb dX3_turn_140 rfl (lv_at hl 0 rfl) ?_
          refine va_get (D := (dC, dI)) (ci := 3) (v := .ref mdi) (C := RX3) (T := TX3) (N := 17) hx hb hts in_X3 hown hK hP 0 rfl rfl 15 (by decide) fl_38 (fun _ h9 => h9) rfl dX3_turn_141 ?_
          refine lv_iload hx hb dX3_turn_144 (lv_at hl 4 rfl) ?_
          refine lv_iconst (v := iI (1 : Int)) hx hb dX3_turn_146 (by decide) ?_
          refine z_isub hx hb dX3_turn_147 ?_
          refine z_top (b := ((a - 1 : Nat) : Int)) (by omega) ?_
          refine z_iald hx hb hK hP 5 0 rfl rfl (a - 1) (by omega) dX3_turn_148 ?_
          have eD9 : D9 (a - 1) = DI (a - 1) := by omega
          have rD9b : -2147483648 ≤ D9 (a - 1) ∧ D9 (a - 1) ≤ 2147483647 := by omega
          refine lv_iload hx hb dX3_turn_149 (lv_at hl 3 rfl) ?_
          refine z_icmp_le (tgt := 192) hx hb dX3_turn_151 (by decide) (by omega) (fun h151 => ?_) (fun h151 => ?_)
          · have esc : a = scn DI d9 fo := by
              rw [← hsc]
              exact (scn_stop (by omega)).symm
            refine lv_aload_n hx hb dX3_turn_192 rfl (lv_at hl 0 rfl) ?_
            refine va_get (D := (dC, dI)) (ci := 3) (v := .ref mdi) (C := RX3) (T := TX3) (N := 17) hx hb hts in_X3 hown hK hP 0 rfl rfl 15 (by decide) fl_38 (fun _ h9 => h9) rfl dX3_turn_193 ?_
            refine lv_iload hx hb dX3_turn_196 (lv_at hl 4 rfl) ?_
            refine lv_iload hx hb dX3_turn_198 (lv_at hl 3 rfl) ?_
            refine z_iast hx hb hK hP hD hS 5 0 rfl rfl a (by omega) dX3_turn_200 (fun H locs hP hD hS => ?_)
            have hP : va_P (dC, dI) vwCl [(m0, .inr (3, [.int (iI cd), .int (iI (n : Int)), .int (iI (w : Int)), .ref mq, .int (iI (rc : Int)), .ref mn, .ref ml, .int (iI (sc : Int)), .ref ms, .ref mr, .ref mg, .ref mp, .int (iI (mo : Int)), .int (iI (fo : Int)), .ref mpl, .ref mdi, .ref mc])), (mq, .inl (cI, 16, .inl (iA q))), (mr, .inl (cI, 16, .inl (iA r))), (mg, .inl (cI, 256, .inl (iA u79))), (mpl, .inl (cI, 13, .inl (iA P9))), (mdi, .inl (cI, 13, .inl (iA (zU D9 a d9)))), (mc, .inl (cI, 5, .inl (iA (bmp T 3))))] H := hP
            have hD : va_D A [(m0, .inr (3, [.int (iI cd), .int (iI (n : Int)), .int (iI (w : Int)), .ref mq, .int (iI (rc : Int)), .ref mn, .ref ml, .int (iI (sc : Int)), .ref ms, .ref mr, .ref mg, .ref mp, .int (iI (mo : Int)), .int (iI (fo : Int)), .ref mpl, .ref mdi, .ref mc])), (mq, .inl (cI, 16, .inl (iA q))), (mr, .inl (cI, 16, .inl (iA r))), (mg, .inl (cI, 256, .inl (iA u79))), (mpl, .inl (cI, 13, .inl (iA P9))), (mdi, .inl (cI, 13, .inl (iA (zU D9 a d9)))), (mc, .inl (cI, 5, .inl (iA (bmp T 3))))] := hD
            refine lv_aload_n hx hb dX3_turn_201 rfl (lv_at hl 0 rfl) ?_
            refine va_get (D := (dC, dI)) (ci := 3) (v := .ref mpl) (C := RX3) (T := TX3) (N := 17) hx hb hts in_X3 hown hK hP 0 rfl rfl 14 (by decide) fl_35 (fun _ h9 => h9) rfl dX3_turn_202 ?_
            refine lv_iload hx hb dX3_turn_205 (lv_at hl 4 rfl) ?_
            refine lv_iload_n hx hb dX3_turn_207 rfl (lv_at hl 1 rfl) ?_
            refine z_iast hx hb hK hP hD hS 4 0 rfl rfl a (by omega) dX3_turn_208 (fun H locs hP hD hS => ?_)
            have hP : va_P (dC, dI) vwCl [(m0, .inr (3, [.int (iI cd), .int (iI (n : Int)), .int (iI (w : Int)), .ref mq, .int (iI (rc : Int)), .ref mn, .ref ml, .int (iI (sc : Int)), .ref ms, .ref mr, .ref mg, .ref mp, .int (iI (mo : Int)), .int (iI (fo : Int)), .ref mpl, .ref mdi, .ref mc])), (mq, .inl (cI, 16, .inl (iA q))), (mr, .inl (cI, 16, .inl (iA r))), (mg, .inl (cI, 256, .inl (iA u79))), (mpl, .inl (cI, 13, .inl (iA (zU P9 a pl)))), (mdi, .inl (cI, 13, .inl (iA (zU D9 a d9)))), (mc, .inl (cI, 5, .inl (iA (bmp T 3))))] H := hP
            have hD : va_D A [(m0, .inr (3, [.int (iI cd), .int (iI (n : Int)), .int (iI (w : Int)), .ref mq, .int (iI (rc : Int)), .ref mn, .ref ml, .int (iI (sc : Int)), .ref ms, .ref mr, .ref mg, .ref mp, .int (iI (mo : Int)), .int (iI (fo : Int)), .ref mpl, .ref mdi, .ref mc])), (mq, .inl (cI, 16, .inl (iA q))), (mr, .inl (cI, 16, .inl (iA r))), (mg, .inl (cI, 256, .inl (iA u79))), (mpl, .inl (cI, 13, .inl (iA (zU P9 a pl)))), (mdi, .inl (cI, 13, .inl (iA (zU D9 a d9)))), (mc, .inl (cI, 5, .inl (iA (bmp T 3))))] := hD
            refine lv_aload_n hx hb dX3_turn_209 rfl (lv_at hl 0 rfl) ?_
            refine lv_aload_n hx hb dX3_turn_210 rfl (lv_at hl 0 rfl) ?_
            refine va_get (D := (dC, dI)) (ci := 3) (v := .int (iI (fo : Int))) (C := RX3) (T := TX3) (N := 17) hx hb hts in_X3 hown hK hP 0 rfl rfl 13 (by decide) fl_54 (fun _ h9 => h9) rfl dX3_turn_211 ?_
            refine lv_aload_n hx hb dX3_turn_214 rfl (lv_at hl 0 rfl) ?_
            refine va_get (D := (dC, dI)) (ci := 3) (v := .int (iI (mo : Int))) (C := RX3) (T := TX3) (N := 17) hx hb hts in_X3 hown hK hP 0 rfl rfl 12 (by decide) fl_94 (fun _ h9 => h9) rfl dX3_turn_215 ?_
            refine z_icmp_ge (tgt := 230) hx hb dX3_turn_218 (by decide) (by omega) (fun h218 => ?_) (fun h218 => ?_)
            · refine lv_aload_n hx hb dX3_turn_230 rfl (lv_at hl 0 rfl) ?_
              refine va_get (D := (dC, dI)) (ci := 3) (v := .int (iI (mo : Int))) (C := RX3) (T := TX3) (N := 17) hx hb hts in_X3 hown hK hP 0 rfl rfl 12 (by decide) fl_94 (fun _ h9 => h9) rfl dX3_turn_231 ?_
              refine z_top (b := ((min (fo + 1) mo : Nat) : Int)) (by omega) ?_
              refine va_put (D := (dC, dI)) (ci := 3) (v := .int (iI ((min (fo + 1) mo : Nat) : Int))) (ty := .int) (C := RX3) (T := TX3) (N := 17) hx hb hts in_X3 tyX3 tyX3_ok nmX3 hown hK hP hD hS 0 rfl rfl 13 (by decide) fl_54 (fun _ h9 => h9) rfl (by decide +kernel) rfl rfl (Nat.le_of_ble_eq_true rfl) dX3_turn_234 (fun H locs hP hD hS => ?_)
              have hP : va_P (dC, dI) vwCl [(m0, .inr (3, [.int (iI cd), .int (iI (n : Int)), .int (iI (w : Int)), .ref mq, .int (iI (rc : Int)), .ref mn, .ref ml, .int (iI (sc : Int)), .ref ms, .ref mr, .ref mg, .ref mp, .int (iI (mo : Int)), .int (iI ((min (fo + 1) mo : Nat) : Int)), .ref mpl, .ref mdi, .ref mc])), (mq, .inl (cI, 16, .inl (iA q))), (mr, .inl (cI, 16, .inl (iA r))), (mg, .inl (cI, 256, .inl (iA u79))), (mpl, .inl (cI, 13, .inl (iA (zU P9 a pl)))), (mdi, .inl (cI, 13, .inl (iA (zU D9 a d9)))), (mc, .inl (cI, 5, .inl (iA (bmp T 3))))] H := hP
              have hD : va_D A [(m0, .inr (3, [.int (iI cd), .int (iI (n : Int)), .int (iI (w : Int)), .ref mq, .int (iI (rc : Int)), .ref mn, .ref ml, .int (iI (sc : Int)), .ref ms, .ref mr, .ref mg, .ref mp, .int (iI (mo : Int)), .int (iI ((min (fo + 1) mo : Nat) : Int)), .ref mpl, .ref mdi, .ref mc])), (mq, .inl (cI, 16, .inl (iA q))), (mr, .inl (cI, 16, .inl (iA r))), (mg, .inl (cI, 256, .inl (iA u79))), (mpl, .inl (cI, 13, .inl (iA (zU P9 a pl)))), (mdi, .inl (cI, 13, .inl (iA (zU D9 a d9)))), (mc, .inl (cI, 5, .inl (iA (bmp T 3))))] := hD
              have eP9 : zU P9 a pl = insF PL (scn DI (cst w q r (n - 1) (n - 1)) fo) fo pl := by rw [eP, shf_end, esc, ed9]
              have eD9 : zU D9 a d9 = insF DI (scn DI (cst w q r (n - 1) (n - 1)) fo) fo (cst w q r (n - 1) (n - 1)) := by rw [eD, shf_end, esc, ed9]
              rw [eP9, eD9] at hP hD
              subst hAe
              exact zw_retv (((min (fo + 1) mo, insF PL (scn DI (cst w q r (n - 1) (n - 1)) fo) fo pl, insF DI (scn DI (cst w q r (n - 1) (n - 1)) fo) fo (cst w q r (n - 1) (n - 1)), bmp T 3), u79)) hx hb hr hlocks hQ (⟨ins_sim (by omega) hlk.1 (Or.inl hfm), lok_ins hlk hcr, hw79.1⟩) hP hK hD hS dX3_turn_237
            · refine lv_aload_n hx hb dX3_turn_221 rfl (lv_at hl 0 rfl) ?_
              refine va_get (D := (dC, dI)) (ci := 3) (v := .int (iI (fo : Int))) (C := RX3) (T := TX3) (N := 17) hx hb hts in_X3 hown hK hP 0 rfl rfl 13 (by decide) fl_54 (fun _ h9 => h9) rfl dX3_turn_222 ?_
              refine lv_iconst (v := iI (1 : Int)) hx hb dX3_turn_225 (by decide) ?_
              refine z_iadd hx hb dX3_turn_226 ?_
              refine lv_goto (tgt := 234) hx hb dX3_turn_227 (by decide) ?_
              refine z_top (b := ((min (fo + 1) mo : Nat) : Int)) (by omega) ?_
              refine va_put (D := (dC, dI)) (ci := 3) (v := .int (iI ((min (fo + 1) mo : Nat) : Int))) (ty := .int) (C := RX3) (T := TX3) (N := 17) hx hb hts in_X3 tyX3 tyX3_ok nmX3 hown hK hP hD hS 0 rfl rfl 13 (by decide) fl_54 (fun _ h9 => h9) rfl (by decide +kernel) rfl rfl (Nat.le_of_ble_eq_true rfl) dX3_turn_234 (fun H locs hP hD hS => ?_)
              have hP : va_P (dC, dI) vwCl [(m0, .inr (3, [.int (iI cd), .int (iI (n : Int)), .int (iI (w : Int)), .ref mq, .int (iI (rc : Int)), .ref mn, .ref ml, .int (iI (sc : Int)), .ref ms, .ref mr, .ref mg, .ref mp, .int (iI (mo : Int)), .int (iI ((min (fo + 1) mo : Nat) : Int)), .ref mpl, .ref mdi, .ref mc])), (mq, .inl (cI, 16, .inl (iA q))), (mr, .inl (cI, 16, .inl (iA r))), (mg, .inl (cI, 256, .inl (iA u79))), (mpl, .inl (cI, 13, .inl (iA (zU P9 a pl)))), (mdi, .inl (cI, 13, .inl (iA (zU D9 a d9)))), (mc, .inl (cI, 5, .inl (iA (bmp T 3))))] H := hP
              have hD : va_D A [(m0, .inr (3, [.int (iI cd), .int (iI (n : Int)), .int (iI (w : Int)), .ref mq, .int (iI (rc : Int)), .ref mn, .ref ml, .int (iI (sc : Int)), .ref ms, .ref mr, .ref mg, .ref mp, .int (iI (mo : Int)), .int (iI ((min (fo + 1) mo : Nat) : Int)), .ref mpl, .ref mdi, .ref mc])), (mq, .inl (cI, 16, .inl (iA q))), (mr, .inl (cI, 16, .inl (iA r))), (mg, .inl (cI, 256, .inl (iA u79))), (mpl, .inl (cI, 13, .inl (iA (zU P9 a pl)))), (mdi, .inl (cI, 13, .inl (iA (zU D9 a d9)))), (mc, .inl (cI, 5, .inl (iA (bmp T 3))))] := hD
              have eP9 : zU P9 a pl = insF PL (scn DI (cst w q r (n - 1) (n - 1)) fo) fo pl := by rw [eP, shf_end, esc, ed9]
              have eD9 : zU D9 a d9 = insF DI (scn DI (cst w q r (n - 1) (n - 1)) fo) fo (cst w q r (n - 1) (n - 1)) := by rw [eD, shf_end, esc, ed9]
              rw [eP9, eD9] at hP hD
              subst hAe
              exact zw_retv (((min (fo + 1) mo, insF PL (scn DI (cst w q r (n - 1) (n - 1)) fo) fo pl, insF DI (scn DI (cst w q r (n - 1) (n - 1)) fo) fo (cst w q r (n - 1) (n - 1)), bmp T 3), u79)) hx hb hr hlocks hQ (⟨ins_sim (by omega) hlk.1 (Or.inl hfm), lok_ins hlk hcr, hw79.1⟩) hP hK hD hS dX3_turn_237
          · have h151b : d9 < DI (a - 1) := by omega
            refine lv_aload_n hx hb dX3_turn_154 rfl (lv_at hl 0 rfl) ?_
            refine va_get (D := (dC, dI)) (ci := 3) (v := .ref mdi) (C := RX3) (T := TX3) (N := 17) hx hb hts in_X3 hown hK hP 0 rfl rfl 15 (by decide) fl_38 (fun _ h9 => h9) rfl dX3_turn_155 ?_
            refine lv_iload hx hb dX3_turn_158 (lv_at hl 4 rfl) ?_
            refine lv_aload_n hx hb dX3_turn_160 rfl (lv_at hl 0 rfl) ?_
            refine va_get (D := (dC, dI)) (ci := 3) (v := .ref mdi) (C := RX3) (T := TX3) (N := 17) hx hb hts in_X3 hown hK hP 0 rfl rfl 15 (by decide) fl_38 (fun _ h9 => h9) rfl dX3_turn_161 ?_
            refine lv_iload hx hb dX3_turn_164 (lv_at hl 4 rfl) ?_
            refine lv_iconst (v := iI (1 : Int)) hx hb dX3_turn_166 (by decide) ?_
            refine z_isub hx hb dX3_turn_167 ?_
            refine z_top (b := ((a - 1 : Nat) : Int)) (by omega) ?_
            refine z_iald hx hb hK hP 5 0 rfl rfl (a - 1) (by omega) dX3_turn_168 ?_
            refine z_iast hx hb hK hP hD hS 5 0 rfl rfl a (by omega) dX3_turn_169 (fun H locs hP hD hS => ?_)
            have hP : va_P (dC, dI) vwCl [(m0, .inr (3, [.int (iI cd), .int (iI (n : Int)), .int (iI (w : Int)), .ref mq, .int (iI (rc : Int)), .ref mn, .ref ml, .int (iI (sc : Int)), .ref ms, .ref mr, .ref mg, .ref mp, .int (iI (mo : Int)), .int (iI (fo : Int)), .ref mpl, .ref mdi, .ref mc])), (mq, .inl (cI, 16, .inl (iA q))), (mr, .inl (cI, 16, .inl (iA r))), (mg, .inl (cI, 256, .inl (iA u79))), (mpl, .inl (cI, 13, .inl (iA P9))), (mdi, .inl (cI, 13, .inl (iA (zU D9 a (D9 (a - 1)))))), (mc, .inl (cI, 5, .inl (iA (bmp T 3))))] H := hP
            have hD : va_D A [(m0, .inr (3, [.int (iI cd), .int (iI (n : Int)), .int (iI (w : Int)), .ref mq, .int (iI (rc : Int)), .ref mn, .ref ml, .int (iI (sc : Int)), .ref ms, .ref mr, .ref mg, .ref mp, .int (iI (mo : Int)), .int (iI (fo : Int)), .ref mpl, .ref mdi, .ref mc])), (mq, .inl (cI, 16, .inl (iA q))), (mr, .inl (cI, 16, .inl (iA r))), (mg, .inl (cI, 256, .inl (iA u79))), (mpl, .inl (cI, 13, .inl (iA P9))), (mdi, .inl (cI, 13, .inl (iA (zU D9 a (D9 (a - 1)))))), (mc, .inl (cI, 5, .inl (iA (bmp T 3))))] := hD
            refine lv_aload_n hx hb dX3_turn_170 rfl (lv_at hl 0 rfl) ?_
            refine va_get (D := (dC, dI)) (ci := 3) (v := .ref mpl) (C := RX3) (T := TX3) (N := 17) hx hb hts in_X3 hown hK hP 0 rfl rfl 14 (by decide) fl_35 (fun _ h9 => h9) rfl dX3_turn_171 ?_
            refine lv_iload hx hb dX3_turn_174 (lv_at hl 4 rfl) ?_
            refine lv_aload_n hx hb dX3_turn_176 rfl (lv_at hl 0 rfl) ?_
            refine va_get (D := (dC, dI)) (ci := 3) (v := .ref mpl) (C := RX3) (T := TX3) (N := 17) hx hb hts in_X3 hown hK hP 0 rfl rfl 14 (by decide) fl_35 (fun _ h9 => h9) rfl dX3_turn_177 ?_
            refine lv_iload hx hb dX3_turn_180 (lv_at hl 4 rfl) ?_
            refine lv_iconst (v := iI (1 : Int)) hx hb dX3_turn_182 (by decide) ?_
            refine z_isub hx hb dX3_turn_183 ?_
            refine z_top (b := ((a - 1 : Nat) : Int)) (by omega) ?_
            refine z_iald hx hb hK hP 4 0 rfl rfl (a - 1) (by omega) dX3_turn_184 ?_
            refine z_iast hx hb hK hP hD hS 4 0 rfl rfl a (by omega) dX3_turn_185 (fun H locs hP hD hS => ?_)
            have hP : va_P (dC, dI) vwCl [(m0, .inr (3, [.int (iI cd), .int (iI (n : Int)), .int (iI (w : Int)), .ref mq, .int (iI (rc : Int)), .ref mn, .ref ml, .int (iI (sc : Int)), .ref ms, .ref mr, .ref mg, .ref mp, .int (iI (mo : Int)), .int (iI (fo : Int)), .ref mpl, .ref mdi, .ref mc])), (mq, .inl (cI, 16, .inl (iA q))), (mr, .inl (cI, 16, .inl (iA r))), (mg, .inl (cI, 256, .inl (iA u79))), (mpl, .inl (cI, 13, .inl (iA (zU P9 a (P9 (a - 1)))))), (mdi, .inl (cI, 13, .inl (iA (zU D9 a (D9 (a - 1)))))), (mc, .inl (cI, 5, .inl (iA (bmp T 3))))] H := hP
            have hD : va_D A [(m0, .inr (3, [.int (iI cd), .int (iI (n : Int)), .int (iI (w : Int)), .ref mq, .int (iI (rc : Int)), .ref mn, .ref ml, .int (iI (sc : Int)), .ref ms, .ref mr, .ref mg, .ref mp, .int (iI (mo : Int)), .int (iI (fo : Int)), .ref mpl, .ref mdi, .ref mc])), (mq, .inl (cI, 16, .inl (iA q))), (mr, .inl (cI, 16, .inl (iA r))), (mg, .inl (cI, 256, .inl (iA u79))), (mpl, .inl (cI, 13, .inl (iA (zU P9 a (P9 (a - 1)))))), (mdi, .inl (cI, 13, .inl (iA (zU D9 a (D9 (a - 1)))))), (mc, .inl (cI, 5, .inl (iA (bmp T 3))))] := hD
            refine z_iinc (k := 4) (b := ((a - 1 : Nat) : Int)) (lv' := [(5, .int (iI ((a - 1 : Nat) : Int))), (0, .ref m0), (1, .int (iI pl)), (2, .int (iI (0 : Int))), (4, .int (iI d9))]) hx hb dX3_turn_186 hl rfl (by omega) (by decide) rfl (fun ls hl => ?_)
            refine lv_goto (tgt := 135) hx hb dX3_turn_189 (by decide) ?_
            exact ih_lpi _ (by omega) (a - 1) (zU P9 a (P9 (a - 1))) (zU D9 a (D9 (a - 1))) H locs ls (by omega) (by rw [eP]; exact shf_step (by omega) ha) (by rw [eD]; exact shf_step (by omega) ha) (by rw [← hsc]; exact (scn_on (by omega) h151b).symm) rfl hP hD hS (lv_sub hl [1, 2, 3, 4, 0] rfl)
    exact lpi _ fo PL DI _ _ ls (Nat.le_refl _) ((shf_0 _ _).symm) ((shf_0 _ _).symm) (rfl) rfl hP hD hS (lv_sub hl [4, 5, 3, 1, 0] rfl)
  · refine lv_iconst (v := iI (1 : Int)) hx hb dX3_turn_11 (by decide) ?_
    refine lv_goto (tgt := 16) hx hb dX3_turn_12 (by decide) ?_
    refine lv_istore_n (lv' := [(2, .int (iI (1 : Int))), (0, .ref m0), (1, .int (iI pl))]) hx hb dX3_turn_16 rfl hl (by decide) rfl (fun ls hl => ?_)
    refine lv_iload_n hx hb dX3_turn_17 rfl (lv_at hl 0 rfl) ?_
    refine z_if_eq (tgt := 35) hx hb dX3_turn_18 (by decide) (by decide) (fun h9 => absurd h9 (by decide)) (fun _ => ?_)
    refine lv_aload_n hx hb dX3_turn_21 rfl (lv_at hl 1 rfl) ?_
    refine va_get (D := (dC, dI)) (ci := 3) (v := .ref mdi) (C := RX3) (T := TX3) (N := 17) hx hb hts in_X3 hown hK hP 0 rfl rfl 15 (by decide) fl_38 (fun _ h9 => h9) rfl dX3_turn_22 ?_
    refine lv_aload_n hx hb dX3_turn_25 rfl (lv_at hl 1 rfl) ?_
    refine va_get (D := (dC, dI)) (ci := 3) (v := .int (iI (mo : Int))) (C := RX3) (T := TX3) (N := 17) hx hb hts in_X3 hown hK hP 0 rfl rfl 12 (by decide) fl_94 (fun _ h9 => h9) rfl dX3_turn_26 ?_
    refine lv_iconst (v := iI (1 : Int)) hx hb dX3_turn_29 (by decide) ?_
    refine z_isub hx hb dX3_turn_30 ?_
    refine z_top (b := ((mo - 1 : Nat) : Int)) (by omega) ?_
    refine z_iald hx hb hK hP 5 0 rfl rfl (mo - 1) (by omega) dX3_turn_31 ?_
    refine lv_goto (tgt := 36) hx hb dX3_turn_32 (by decide) ?_
    refine lv_istore_n (lv' := [(3, .int (iI (DI (mo - 1)))), (2, .int (iI (1 : Int))), (0, .ref m0), (1, .int (iI pl))]) hx hb dX3_turn_36 rfl hl (by decide) rfl (fun ls hl => ?_)
    have hrD : rgA DI := hlk.2.1
    have rdl := hrD (mo - 1)
    have hfm : fo = mo := by omega
    have hd0 : 0 ≤ DI (mo - 1) := hlk.2.2 (mo - 1) (by show mo - 1 < fo; omega)
    refine lv_iconst (v := iI (0 : Int)) hx hb dX3_turn_37 (by decide) ?_
    refine lv_istore (lv' := [(4, .int (iI (0 : Int))), (3, .int (iI (DI (mo - 1)))), (2, .int (iI (1 : Int))), (0, .ref m0), (1, .int (iI pl))]) hx hb dX3_turn_38 hl (by decide) rfl (fun ls hl => ?_)
    have lpb : ∀ (k9 : Nat) (v : Nat) (ls : Array Slot), (v ≤ 3) → (∀ k : Nat, k < v → lbd n w q r (k : Int) < DI (mo - 1)) → 3 - v = k9 → lv_has ls 6 [(0, .ref m0), (1, .int (iI pl)), (2, .int (iI (1 : Int))), (3, .int (iI (DI (mo - 1)))), (4, .int (iI (v : Int)))] → W p l e R s m args below meth c s.heap [] 0 0 Q (F0 m 40 ls []) := by
      intro k9
      induction k9 using Nat.strongRecOn with
      | ind k9 ih_lpb =>
        intro v ls hv hb9 hk9 hl
        refine lv_iload hx hb dX3_turn_40 (lv_at hl 4 rfl) ?_
        refine lv_iconst (v := iI (3 : Int)) hx hb dX3_turn_42 (by decide) ?_
        refine z_icmp_ge (tgt := 73) hx hb dX3_turn_43 (by decide) (by omega) (fun h43 => ?_) (fun h43 => ?_)
        · have hpz : pas n w q r (DI (mo - 1)) = -1 := (pas_no (fun k h => hb9 k (by omega))).symm
          refine lv_aload_n hx hb dX3_turn_73 rfl (lv_at hl 0 rfl) ?_
          refine lv_iconst (v := iI (3 : Int)) hx hb dX3_turn_74 (by decide) ?_
          refine zw_v (wr := [(mq, .inl (cI, 16, .inl (iA q))), (mr, .inl (cI, 16, .inl (iA r))), (mg, .inl (cI, 256, .inl (iA G))), (mpl, .inl (cI, 13, .inl (iA PL))), (mdi, .inl (cI, 13, .inl (iA DI)))]) (va_runV (As := [.int (iI (3 : Int))]) (rest := []) ⟨hx, hb, hml, hown, hts⟩ (c_tally l dC dI cI m0 mq mn ml ms mr mg mp mpl mdi mc cd n w rc sc mo fo 3 T _ (by omega)) (cwV 1 hts (ga_V wd_626 wd_628 wd_24 wd_31 wd_629) rfl rfl rfl (by decide +kernel) ⟨(show 0 + 1 ≤ R.frames by omega), (show 8 + (2 + 11) + 0 ≤ R.locals by omega)⟩) (wr_preV (q0 := 0) (ci := 3) hP hK hD [0, 6] (by decide) rfl rfl rfl rfl) rfl rfl hl.1 rfl (lv_room (Nat.le_of_ble_eq_true rfl)) dX3_turn_75 ⟨by omega, by omega⟩) hP hD hS hA [0, 6] [1, 2, 3, 4, 5] rfl rfl (by decide) (by decide) (fun u75 H locs hw75 hP hD hS => ?_)
          have hP := hP.sub (ws' := [(m0, .inr (3, [.int (iI cd), .int (iI (n : Int)), .int (iI (w : Int)), .ref mq, .int (iI (rc : Int)), .ref mn, .ref ml, .int (iI (sc : Int)), .ref ms, .ref mr, .ref mg, .ref mp, .int (iI (mo : Int)), .int (iI (fo : Int)), .ref mpl, .ref mdi, .ref mc])), (mq, .inl (cI, 16, .inl (iA q))), (mr, .inl (cI, 16, .inl (iA r))), (mg, .inl (cI, 256, .inl (iA G))), (mpl, .inl (cI, 13, .inl (iA PL))), (mdi, .inl (cI, 13, .inl (iA DI))), (mc, .inl (cI, 5, .inl (iA (bmp T 3))))]) [5, 0, 1, 2, 3, 4, 6] rfl
          have hD := hD.sub (ws' := [(m0, .inr (3, [.int (iI cd), .int (iI (n : Int)), .int (iI (w : Int)), .ref mq, .int (iI (rc : Int)), .ref mn, .ref ml, .int (iI (sc : Int)), .ref ms, .ref mr, .ref mg, .ref mp, .int (iI (mo : Int)), .int (iI (fo : Int)), .ref mpl, .ref mdi, .ref mc])), (mq, .inl (cI, 16, .inl (iA q))), (mr, .inl (cI, 16, .inl (iA r))), (mg, .inl (cI, 256, .inl (iA G))), (mpl, .inl (cI, 13, .inl (iA PL))), (mdi, .inl (cI, 13, .inl (iA DI))), (mc, .inl (cI, 5, .inl (iA (bmp T 3))))]) [5, 0, 1, 2, 3, 4, 6] (by decide) rfl
          refine lv_aload_n hx hb dX3_turn_78 rfl (lv_at hl 0 rfl) ?_
          refine zw_v (wr := [(mpl, .inl (cI, 13, .inl (iA PL))), (mdi, .inl (cI, 13, .inl (iA DI))), (mc, .inl (cI, 5, .inl (iA (bmp T 3))))]) (va_runV (As := []) (rest := []) ⟨hx, hb, hml, hown, hts⟩ (c_fill l dC dI cI m0 mq mn ml ms mr mg mp mpl mdi mc cd n w rc sc mo fo q r G _ hn hw hvq hvr hG) (cwV 0 hts (ga_V wd_575 wd_577 wd_16 wd_31 wd_578) rfl rfl rfl (by decide +kernel) ⟨(show 3 + 1 ≤ R.frames by omega), (show 8 + (5 + 11) + 66 ≤ R.locals by omega)⟩) (wr_preV (q0 := 0) (ci := 3) hP hK hD [0, 1, 2, 3] (by decide) rfl rfl rfl rfl) rfl rfl hl.1 rfl (lv_room (Nat.le_of_ble_eq_true rfl)) dX3_turn_79 ⟨by omega, by omega⟩) hP hD hS hA [0, 1, 2, 3] [4, 5, 6] rfl rfl (by decide) (by decide) (fun u79 H locs hw79 hP hD hS => ?_)
          have hP := hP.sub (ws' := [(m0, .inr (3, [.int (iI cd), .int (iI (n : Int)), .int (iI (w : Int)), .ref mq, .int (iI (rc : Int)), .ref mn, .ref ml, .int (iI (sc : Int)), .ref ms, .ref mr, .ref mg, .ref mp, .int (iI (mo : Int)), .int (iI (fo : Int)), .ref mpl, .ref mdi, .ref mc])), (mq, .inl (cI, 16, .inl (iA q))), (mr, .inl (cI, 16, .inl (iA r))), (mg, .inl (cI, 256, .inl (iA u79))), (mpl, .inl (cI, 13, .inl (iA PL))), (mdi, .inl (cI, 13, .inl (iA DI))), (mc, .inl (cI, 5, .inl (iA (bmp T 3))))]) [3, 4, 5, 6, 0, 1, 2] rfl
          have hD := hD.sub (ws' := [(m0, .inr (3, [.int (iI cd), .int (iI (n : Int)), .int (iI (w : Int)), .ref mq, .int (iI (rc : Int)), .ref mn, .ref ml, .int (iI (sc : Int)), .ref ms, .ref mr, .ref mg, .ref mp, .int (iI (mo : Int)), .int (iI (fo : Int)), .ref mpl, .ref mdi, .ref mc])), (mq, .inl (cI, 16, .inl (iA q))), (mr, .inl (cI, 16, .inl (iA r))), (mg, .inl (cI, 256, .inl (iA u79))), (mpl, .inl (cI, 13, .inl (iA PL))), (mdi, .inl (cI, 13, .inl (iA DI))), (mc, .inl (cI, 5, .inl (iA (bmp T 3))))]) [3, 4, 5, 6, 0, 1, 2] (by decide) rfl
          refine lv_iload_n hx hb dX3_turn_82 rfl (lv_at hl 2 rfl) ?_
          refine z_if_eq (tgt := 100) hx hb dX3_turn_83 (by decide) (by decide) (fun h9 => absurd h9 (by decide)) (fun _ => ?_)
          refine lv_aload_n hx hb dX3_turn_86 rfl (lv_at hl 0 rfl) ?_
          refine lv_iload_n hx hb dX3_turn_87 rfl (lv_at hl 3 rfl) ?_
          refine zr_i (va_runV (As := [.int (iI (DI (mo - 1)))]) (rest := []) ⟨hx, hb, hml, hown, hts⟩ (c_mGivesUp l dC dI cI m0 mq mn ml ms mr mg mp mpl mdi mc cd n w rc sc mo fo q r u79 (DI (mo - 1)) hn hw hvq hvr hw79.2 (by omega)) (cwV 1 hts (ga_V wd_630 wd_632 wd_25 wd_31 wd_633) rfl rfl rfl (by decide +kernel) ⟨(show 2 + 1 ≤ R.frames by omega), (show 8 + (5 + 11) + 44 ≤ R.locals by omega)⟩) (rd_preV (q0 := 0) (ci := 3) hP hK [0, 3] rfl rfl rfl) rfl rfl hl.1 rfl (lv_room (Nat.le_of_ble_eq_true rfl)) dX3_turn_88 ⟨by omega, by omega⟩) (fun z88 hz88 => ?_)
          refine z_if_eq (tgt := 100) hx hb dX3_turn_91 (by decide) (by omega) (fun h91 => ?_) (fun h91 => ?_)
          · refine lv_aload_n hx hb dX3_turn_100 rfl (lv_at hl 0 rfl) ?_
            refine lv_aload_n hx hb dX3_turn_101 rfl (lv_at hl 0 rfl) ?_
            refine va_get (D := (dC, dI)) (ci := 3) (v := .int (iI (n : Int))) (C := RX3) (T := TX3) (N := 17) hx hb hts in_X3 hown hK hP 0 rfl rfl 1 (by decide) fl_7 (fun _ h9 => h9) rfl dX3_turn_102 ?_
            refine lv_iconst (v := iI (1 : Int)) hx hb dX3_turn_105 (by decide) ?_
            refine z_isub hx hb dX3_turn_106 ?_
            refine z_top (b := ((n - 1 : Nat) : Int)) (by omega) ?_
            refine lv_aload_n hx hb dX3_turn_107 rfl (lv_at hl 0 rfl) ?_
            refine va_get (D := (dC, dI)) (ci := 3) (v := .int (iI (n : Int))) (C := RX3) (T := TX3) (N := 17) hx hb hts in_X3 hown hK hP 0 rfl rfl 1 (by decide) fl_7 (fun _ h9 => h9) rfl dX3_turn_108 ?_
            refine lv_iconst (v := iI (1 : Int)) hx hb dX3_turn_111 (by decide) ?_
            refine z_isub hx hb dX3_turn_112 ?_
            refine z_top (b := ((n - 1 : Nat) : Int)) (by omega) ?_
            refine zr_i (va_runV (As := [.int (iI ((n - 1 : Nat) : Int)), .int (iI ((n - 1 : Nat) : Int))]) (rest := []) ⟨hx, hb, hml, hown, hts⟩ (c_mCostAt l dC dI cI m0 mq mn ml ms mr mg mp mpl mdi mc cd n w rc sc mo fo u79 ((n - 1 : Nat) : Int) ((n - 1 : Nat) : Int) hn hw (by omega) (by omega)) (cwV 2 hts (ga_V wd_583 wd_585 wd_18 wd_31 wd_586) rfl rfl rfl (by decide +kernel) ⟨(show 2 + 1 ≤ R.frames by omega), (show 8 + (3 + 11) + 44 ≤ R.locals by omega)⟩) (rd_preV (q0 := 0) (ci := 3) hP hK [0, 3] rfl rfl rfl) rfl rfl hl.1 rfl (lv_room (Nat.le_of_ble_eq_true rfl)) dX3_turn_113 ⟨by omega, by omega⟩) (fun d9 hd9 => ?_)
            have hcr := cst_rg hvq hvr hn.2 (w := w) (i := n - 1) (j := n - 1) (by omega) (by omega) (by omega)
            have ed9 : d9 = cst w q r (n - 1) (n - 1) := by
              rw [hd9]
              unfold mAt
              rw [if_pos (by omega), show (16 * ((n - 1 : Nat) : Int) + ((n - 1 : Nat) : Int)).toNat = 16 * (n - 1) + (n - 1) by omega]
              exact hw79.2 _ _ (by omega) (by omega) (by omega)
            refine lv_istore (lv' := [(4, .int (iI d9)), (0, .ref m0), (1, .int (iI pl)), (2, .int (iI (1 : Int))), (3, .int (iI (DI (mo - 1))))]) hx hb dX3_turn_116 hl (by decide) rfl (fun ls hl => ?_)
            refine lv_iload_n hx hb dX3_turn_118 rfl (lv_at hl 3 rfl) ?_
            refine z_if_eq (tgt := 129) hx hb dX3_turn_119 (by decide) (by decide) (fun h9 => absurd h9 (by decide)) (fun _ => ?_)
            refine lv_iload hx hb dX3_turn_122 (lv_at hl 0 rfl) ?_
            refine lv_iload_n hx hb dX3_turn_124 rfl (lv_at hl 4 rfl) ?_
            refine z_icmp_lt (tgt := 129) hx hb dX3_turn_125 (by decide) (by omega) (fun h125 => ?_) (fun h125 => ?_)
            · refine lv_aload_n hx hb dX3_turn_129 rfl (lv_at hl 1 rfl) ?_
              refine va_get (D := (dC, dI)) (ci := 3) (v := .int (iI (fo : Int))) (C := RX3) (T := TX3) (N := 17) hx hb hts in_X3 hown hK hP 0 rfl rfl 13 (by decide) fl_54 (fun _ h9 => h9) rfl dX3_turn_130 ?_
              refine lv_istore (lv' := [(5, .int (iI (fo : Int))), (4, .int (iI d9)), (0, .ref m0), (1, .int (iI pl)), (2, .int (iI (1 : Int))), (3, .int (iI (DI (mo - 1))))]) hx hb dX3_turn_133 hl (by decide) rfl (fun ls hl => ?_)
              have lpi : ∀ (k9 : Nat) (a : Nat) (P9 D9 : Nat → Int) (H : Heap) (locs : List Loc) (ls : Array Slot), (a ≤ fo) → (P9 = shf PL a fo) → (D9 = shf DI a fo) → (scn DI d9 a = scn DI d9 fo) → a = k9 → va_P (dC, dI) vwCl [(m0, .inr (3, [.int (iI cd), .int (iI (n : Int)), .int (iI (w : Int)), .ref mq, .int (iI (rc : Int)), .ref mn, .ref ml, .int (iI (sc : Int)), .ref ms, .ref mr, .ref mg, .ref mp, .int (iI (mo : Int)), .int (iI (fo : Int)), .ref mpl, .ref mdi, .ref mc])), (mq, .inl (cI, 16, .inl (iA q))), (mr, .inl (cI, 16, .inl (iA r))), (mg, .inl (cI, 256, .inl (iA u79))), (mpl, .inl (cI, 13, .inl (iA P9))), (mdi, .inl (cI, 13, .inl (iA D9))), (mc, .inl (cI, 5, .inl (iA (bmp T 3))))] H → va_D A [(m0, .inr (3, [.int (iI cd), .int (iI (n : Int)), .int (iI (w : Int)), .ref mq, .int (iI (rc : Int)), .ref mn, .ref ml, .int (iI (sc : Int)), .ref ms, .ref mr, .ref mg, .ref mp, .int (iI (mo : Int)), .int (iI (fo : Int)), .ref mpl, .ref mdi, .ref mc])), (mq, .inl (cI, 16, .inl (iA q))), (mr, .inl (cI, 16, .inl (iA r))), (mg, .inl (cI, 256, .inl (iA u79))), (mpl, .inl (cI, 13, .inl (iA P9))), (mdi, .inl (cI, 13, .inl (iA D9))), (mc, .inl (cI, 5, .inl (iA (bmp T 3))))] → va_S A s.heap H locs → lv_has ls 6 [(0, .ref m0), (1, .int (iI pl)), (2, .int (iI (1 : Int))), (4, .int (iI d9)), (5, .int (iI (a : Int)))] → W p l e R s m args below meth c H locs 0 0 Q (F0 m 135 ls []) := by
                intro k9
                induction k9 using Nat.strongRecOn with
                | ind k9 ih_lpi =>
                  intro a P9 D9 H locs ls ha eP eD hsc hk9 hP hD hS hl
                  have hD9 : D9 (a - 1) = DI (a - 1) ∨ a = 0 := by
                    by_cases h9 : a = 0
                    · exact Or.inr h9
                    · rw [eD]; exact Or.inl (shf_at (by omega))
                  have rD9 := hrD (a - 1)
                  refine lv_iload hx hb dX3_turn_135 (lv_at hl 4 rfl) ?_
                  refine z_if_le (tgt := 192) hx hb dX3_turn_137 (by decide) (by omega) (fun h137 => ?_) (fun h137 => ?_)
                  · have esc : a = scn DI d9 fo := by
                      rw [← hsc]
                      exact (scn_stop (by omega)).symm
                    refine lv_aload_n hx hb dX3_turn_192 rfl (lv_at hl 0 rfl) ?_
                    refine va_get (D := (dC, dI)) (ci := 3) (v := .ref mdi) (C := RX3) (T := TX3) (N := 17) hx hb hts in_X3 hown hK hP 0 rfl rfl 15 (by decide) fl_38 (fun _ h9 => h9) rfl dX3_turn_193 ?_
                    refine lv_iload hx hb dX3_turn_196 (lv_at hl 4 rfl) ?_
                    refine lv_iload hx hb dX3_turn_198 (lv_at hl 3 rfl) ?_
                    refine z_iast hx hb hK hP hD hS 5 0 rfl rfl a (by omega) dX3_turn_200 (fun H locs hP hD hS => ?_)
                    have hP : va_P (dC, dI) vwCl [(m0, .inr (3, [.int (iI cd), .int (iI (n : Int)), .int (iI (w : Int)), .ref mq, .int (iI (rc : Int)), .ref mn, .ref ml, .int (iI (sc : Int)), .ref ms, .ref mr, .ref mg, .ref mp, .int (iI (mo : Int)), .int (iI (fo : Int)), .ref mpl, .ref mdi, .ref mc])), (mq, .inl (cI, 16, .inl (iA q))), (mr, .inl (cI, 16, .inl (iA r))), (mg, .inl (cI, 256, .inl (iA u79))), (mpl, .inl (cI, 13, .inl (iA P9))), (mdi, .inl (cI, 13, .inl (iA (zU D9 a d9)))), (mc, .inl (cI, 5, .inl (iA (bmp T 3))))] H := hP
                    have hD : va_D A [(m0, .inr (3, [.int (iI cd), .int (iI (n : Int)), .int (iI (w : Int)), .ref mq, .int (iI (rc : Int)), .ref mn, .ref ml, .int (iI (sc : Int)), .ref ms, .ref mr, .ref mg, .ref mp, .int (iI (mo : Int)), .int (iI (fo : Int)), .ref mpl, .ref mdi, .ref mc])), (mq, .inl (cI, 16, .inl (iA q))), (mr, .inl (cI, 16, .inl (iA r))), (mg, .inl (cI, 256, .inl (iA u79))), (mpl, .inl (cI, 13, .inl (iA P9))), (mdi, .inl (cI, 13, .inl (iA (zU D9 a d9)))), (mc, .inl (cI, 5, .inl (iA (bmp T 3))))] := hD
                    refine lv_aload_n hx hb dX3_turn_201 rfl (lv_at hl 0 rfl) ?_
                    refine va_get (D := (dC, dI)) (ci := 3) (v := .ref mpl) (C := RX3) (T := TX3) (N := 17) hx hb hts in_X3 hown hK hP 0 rfl rfl 14 (by decide) fl_35 (fun _ h9 => h9) rfl dX3_turn_202 ?_
                    refine lv_iload hx hb dX3_turn_205 (lv_at hl 4 rfl) ?_
                    refine lv_iload_n hx hb dX3_turn_207 rfl (lv_at hl 1 rfl) ?_
                    refine z_iast hx hb hK hP hD hS 4 0 rfl rfl a (by omega) dX3_turn_208 (fun H locs hP hD hS => ?_)
                    have hP : va_P (dC, dI) vwCl [(m0, .inr (3, [.int (iI cd), .int (iI (n : Int)), .int (iI (w : Int)), .ref mq, .int (iI (rc : Int)), .ref mn, .ref ml, .int (iI (sc : Int)), .ref ms, .ref mr, .ref mg, .ref mp, .int (iI (mo : Int)), .int (iI (fo : Int)), .ref mpl, .ref mdi, .ref mc])), (mq, .inl (cI, 16, .inl (iA q))), (mr, .inl (cI, 16, .inl (iA r))), (mg, .inl (cI, 256, .inl (iA u79))), (mpl, .inl (cI, 13, .inl (iA (zU P9 a pl)))), (mdi, .inl (cI, 13, .inl (iA (zU D9 a d9)))), (mc, .inl (cI, 5, .inl (iA (bmp T 3))))] H := hP
                    have hD : va_D A [(m0, .inr (3, [.int (iI cd), .int (iI (n : Int)), .int (iI (w : Int)), .ref mq, .int (iI (rc : Int)), .ref mn, .ref ml, .int (iI (sc : Int)), .ref ms, .ref mr, .ref mg, .ref mp, .int (iI (mo : Int)), .int (iI (fo : Int)), .ref mpl, .ref mdi, .ref mc])), (mq, .inl (cI, 16, .inl (iA q))), (mr, .inl (cI, 16, .inl (iA r))), (mg, .inl (cI, 256, .inl (iA u79))), (mpl, .inl (cI, 13, .inl (iA (zU P9 a pl)))), (mdi, .inl (cI, 13, .inl (iA (zU D9 a d9)))), (mc, .inl (cI, 5, .inl (iA (bmp T 3))))] := hD
                    refine lv_aload_n hx hb dX3_turn_209 rfl (lv_at hl 0 rfl) ?_
                    refine lv_aload_n hx hb dX3_turn_210 rfl (lv_at hl 0 rfl) ?_
                    refine va_get (D := (dC, dI)) (ci := 3) (v := .int (iI (fo : Int))) (C := RX3) (T := TX3) (N := 17) hx hb hts in_X3 hown hK hP 0 rfl rfl 13 (by decide) fl_54 (fun _ h9 => h9) rfl dX3_turn_211 ?_
                    refine lv_aload_n hx hb dX3_turn_214 rfl (lv_at hl 0 rfl) ?_
                    refine va_get (D := (dC, dI)) (ci := 3) (v := .int (iI (mo : Int))) (C := RX3) (T := TX3) (N := 17) hx hb hts in_X3 hown hK hP 0 rfl rfl 12 (by decide) fl_94 (fun _ h9 => h9) rfl dX3_turn_215 ?_
                    refine z_icmp_ge (tgt := 230) hx hb dX3_turn_218 (by decide) (by omega) (fun h218 => ?_) (fun h218 => ?_)
                    · refine lv_aload_n hx hb dX3_turn_230 rfl (lv_at hl 0 rfl) ?_
                      refine va_get (D := (dC, dI)) (ci := 3) (v := .int (iI (mo : Int))) (C := RX3) (T := TX3) (N := 17) hx hb hts in_X3 hown hK hP 0 rfl rfl 12 (by decide) fl_94 (fun _ h9 => h9) rfl dX3_turn_231 ?_
                      refine z_top (b := ((min (fo + 1) mo : Nat) : Int)) (by omega) ?_
                      refine va_put (D := (dC, dI)) (ci := 3) (v := .int (iI ((min (fo + 1) mo : Nat) : Int))) (ty := .int) (C := RX3) (T := TX3) (N := 17) hx hb hts in_X3 tyX3 tyX3_ok nmX3 hown hK hP hD hS 0 rfl rfl 13 (by decide) fl_54 (fun _ h9 => h9) rfl (by decide +kernel) rfl rfl (Nat.le_of_ble_eq_true rfl) dX3_turn_234 (fun H locs hP hD hS => ?_)
                      have hP : va_P (dC, dI) vwCl [(m0, .inr (3, [.int (iI cd), .int (iI (n : Int)), .int (iI (w : Int)), .ref mq, .int (iI (rc : Int)), .ref mn, .ref ml, .int (iI (sc : Int)), .ref ms, .ref mr, .ref mg, .ref mp, .int (iI (mo : Int)), .int (iI ((min (fo + 1) mo : Nat) : Int)), .ref mpl, .ref mdi, .ref mc])), (mq, .inl (cI, 16, .inl (iA q))), (mr, .inl (cI, 16, .inl (iA r))), (mg, .inl (cI, 256, .inl (iA u79))), (mpl, .inl (cI, 13, .inl (iA (zU P9 a pl)))), (mdi, .inl (cI, 13, .inl (iA (zU D9 a d9)))), (mc, .inl (cI, 5, .inl (iA (bmp T 3))))] H := hP
                      have hD : va_D A [(m0, .inr (3, [.int (iI cd), .int (iI (n : Int)), .int (iI (w : Int)), .ref mq, .int (iI (rc : Int)), .ref mn, .ref ml, .int (iI (sc : Int)), .ref ms, .ref mr, .ref mg, .ref mp, .int (iI (mo : Int)), .int (iI ((min (fo + 1) mo : Nat) : Int)), .ref mpl, .ref mdi, .ref mc])), (mq, .inl (cI, 16, .inl (iA q))), (mr, .inl (cI, 16, .inl (iA r))), (mg, .inl (cI, 256, .inl (iA u79))), (mpl, .inl (cI, 13, .inl (iA (zU P9 a pl)))), (mdi, .inl (cI, 13, .inl (iA (zU D9 a d9)))), (mc, .inl (cI, 5, .inl (iA (bmp T 3))))] := hD
                      have hgu : ¬ givesUp n w q r (DI (mo - 1)) := by
                        rcases hz88 with h9 | h9
                        · omega
                        · exact h9.2
                      have eP9 : zU P9 a pl = insF PL (scn DI (cst w q r (n - 1) (n - 1)) fo) fo pl := by rw [eP, shf_end, esc, ed9]
                      have eD9 : zU D9 a d9 = insF DI (scn DI (cst w q r (n - 1) (n - 1)) fo) fo (cst w q r (n - 1) (n - 1)) := by rw [eD, shf_end, esc, ed9]
                      rw [eP9, eD9] at hP hD
                      subst hAe
                      exact zw_retv (((min (fo + 1) mo, insF PL (scn DI (cst w q r (n - 1) (n - 1)) fo) fo pl, insF DI (scn DI (cst w q r (n - 1) (n - 1)) fo) fo (cst w q r (n - 1) (n - 1)), bmp T 3), u79)) hx hb hr hlocks hQ (⟨ins_sim (by omega) hlk.1 (Or.inr ⟨by rw [hfm]; exact hpz, by rw [hfm]; exact hgu, by rw [hfm]; omega⟩), lok_ins hlk hcr, hw79.1⟩) hP hK hD hS dX3_turn_237
                    · refine lv_aload_n hx hb dX3_turn_221 rfl (lv_at hl 0 rfl) ?_
                      refine va_get (D := (dC, dI)) (ci := 3) (v := .int (iI (fo : Int))) (C := RX3) (T := TX3) (N := 17) hx hb hts in_X3 hown hK hP 0 rfl rfl 13 (by decide) fl_54 (fun _ h9 => h9) rfl dX3_turn_222 ?_
                      refine lv_iconst (v := iI (1 : Int)) hx hb dX3_turn_225 (by decide) ?_
                      refine z_iadd hx hb dX3_turn_226 ?_
                      refine lv_goto (tgt := 234) hx hb dX3_turn_227 (by decide) ?_
                      refine z_top (b := ((min (fo + 1) mo : Nat) : Int)) (by omega) ?_
                      refine va_put (D := (dC, dI)) (ci := 3) (v := .int (iI ((min (fo + 1) mo : Nat) : Int))) (ty := .int) (C := RX3) (T := TX3) (N := 17) hx hb hts in_X3 tyX3 tyX3_ok nmX3 hown hK hP hD hS 0 rfl rfl 13 (by decide) fl_54 (fun _ h9 => h9) rfl (by decide +kernel) rfl rfl (Nat.le_of_ble_eq_true rfl) dX3_turn_234 (fun H locs hP hD hS => ?_)
                      have hP : va_P (dC, dI) vwCl [(m0, .inr (3, [.int (iI cd), .int (iI (n : Int)), .int (iI (w : Int)), .ref mq, .int (iI (rc : Int)), .ref mn, .ref ml, .int (iI (sc : Int)), .ref ms, .ref mr, .ref mg, .ref mp, .int (iI (mo : Int)), .int (iI ((min (fo + 1) mo : Nat) : Int)), .ref mpl, .ref mdi, .ref mc])), (mq, .inl (cI, 16, .inl (iA q))), (mr, .inl (cI, 16, .inl (iA r))), (mg, .inl (cI, 256, .inl (iA u79))), (mpl, .inl (cI, 13, .inl (iA (zU P9 a pl)))), (mdi, .inl (cI, 13, .inl (iA (zU D9 a d9)))), (mc, .inl (cI, 5, .inl (iA (bmp T 3))))] H := hP
                      have hD : va_D A [(m0, .inr (3, [.int (iI cd), .int (iI (n : Int)), .int (iI (w : Int)), .ref mq, .int (iI (rc : Int)), .ref mn, .ref ml, .int (iI (sc : Int)), .ref ms, .ref mr, .ref mg, .ref mp, .int (iI (mo : Int)), .int (iI ((min (fo + 1) mo : Nat) : Int)), .ref mpl, .ref mdi, .ref mc])), (mq, .inl (cI, 16, .inl (iA q))), (mr, .inl (cI, 16, .inl (iA r))), (mg, .inl (cI, 256, .inl (iA u79))), (mpl, .inl (cI, 13, .inl (iA (zU P9 a pl)))), (mdi, .inl (cI, 13, .inl (iA (zU D9 a d9)))), (mc, .inl (cI, 5, .inl (iA (bmp T 3))))] := hD
                      have hgu : ¬ givesUp n w q r (DI (mo - 1)) := by
                        rcases hz88 with h9 | h9
                        · omega
                        · exact h9.2
                      have eP9 : zU P9 a pl = insF PL (scn DI (cst w q r (n - 1) (n - 1)) fo) fo pl := by rw [eP, shf_end, esc, ed9]
                      have eD9 : zU D9 a d9 = insF DI (scn DI (cst w q r (n - 1) (n - 1)) fo) fo (cst w q r (n - 1) (n - 1)) := by rw [eD, shf_end, esc, ed9]
                      rw [eP9, eD9] at hP hD
                      subst hAe
                      exact zw_retv (((min (fo + 1) mo, insF PL (scn DI (cst w q r (n - 1) (n - 1)) fo) fo pl, insF DI (scn DI (cst w q r (n - 1) (n - 1)) fo) fo (cst w q r (n - 1) (n - 1)), bmp T 3), u79)) hx hb hr hlocks hQ (⟨ins_sim (by omega) hlk.1 (Or.inr ⟨by rw [hfm]; exact hpz, by rw [hfm]; exact hgu, by rw [hfm]; omega⟩), lok_ins hlk hcr, hw79.1⟩) hP hK hD hS dX3_turn_237
                  · refine lv_aload_n hx hb dX3_turn_140 rfl (lv_at hl 0 rfl) ?_
                    refine va_get (D := (dC, dI)) (ci := 3) (v := .ref mdi) (C := RX3) (T := TX3) (N := 17) hx hb hts in_X3 hown hK hP 0 rfl rfl 15 (by decide) fl_38 (fun _ h9 => h9) rfl dX3_turn_141 ?_
                    refine lv_iload hx hb dX3_turn_144 (lv_at hl 4 rfl) ?_
                    refine lv_iconst (v := iI (1 : Int)) hx hb dX3_turn_146 (by decide) ?_
                    refine z_isub hx hb dX3_turn_147 ?_
                    refine z_top (b := ((a - 1 : Nat) : Int)) (by omega) ?_
                    refine z_iald hx hb hK hP 5 0 rfl rfl (a - 1) (by omega) dX3_turn_148 ?_
                    have eD9 : D9 (a - 1) = DI (a - 1) := by omega
                    have rD9b : -2147483648 ≤ D9 (a - 1) ∧ D9 (a - 1) ≤ 2147483647 := by omega
                    refine lv_iload hx hb dX3_turn_149 (lv_at hl 3 rfl) ?_
                    refine z_icmp_le (tgt := 192) hx hb dX3_turn_151 (by decide) (by omega) (fun h151 => ?_) (fun h151 => ?_)
                    · have esc : a = scn DI d9 fo := by
                        rw [← hsc]
                        exact (scn_stop (by omega)).symm
                      refine lv_aload_n hx hb dX3_turn_192 rfl (lv_at hl 0 rfl) ?_
                      refine va_get (D := (dC, dI)) (ci := 3) (v := .ref mdi) (C := RX3) (T := TX3) (N := 17) hx hb hts in_X3 hown hK hP 0 rfl rfl 15 (by decide) fl_38 (fun _ h9 => h9) rfl dX3_turn_193 ?_
                      refine lv_iload hx hb dX3_turn_196 (lv_at hl 4 rfl) ?_
                      refine lv_iload hx hb dX3_turn_198 (lv_at hl 3 rfl) ?_
                      refine z_iast hx hb hK hP hD hS 5 0 rfl rfl a (by omega) dX3_turn_200 (fun H locs hP hD hS => ?_)
                      have hP : va_P (dC, dI) vwCl [(m0, .inr (3, [.int (iI cd), .int (iI (n : Int)), .int (iI (w : Int)), .ref mq, .int (iI (rc : Int)), .ref mn, .ref ml, .int (iI (sc : Int)), .ref ms, .ref mr, .ref mg, .ref mp, .int (iI (mo : Int)), .int (iI (fo : Int)), .ref mpl, .ref mdi, .ref mc])), (mq, .inl (cI, 16, .inl (iA q))), (mr, .inl (cI, 16, .inl (iA r))), (mg, .inl (cI, 256, .inl (iA u79))), (mpl, .inl (cI, 13, .inl (iA P9))), (mdi, .inl (cI, 13, .inl (iA (zU D9 a d9)))), (mc, .inl (cI, 5, .inl (iA (bmp T 3))))] H := hP
                      have hD : va_D A [(m0, .inr (3, [.int (iI cd), .int (iI (n : Int)), .int (iI (w : Int)), .ref mq, .int (iI (rc : Int)), .ref mn, .ref ml, .int (iI (sc : Int)), .ref ms, .ref mr, .ref mg, .ref mp, .int (iI (mo : Int)), .int (iI (fo : Int)), .ref mpl, .ref mdi, .ref mc])), (mq, .inl (cI, 16, .inl (iA q))), (mr, .inl (cI, 16, .inl (iA r))), (mg, .inl (cI, 256, .inl (iA u79))), (mpl, .inl (cI, 13, .inl (iA P9))), (mdi, .inl (cI, 13, .inl (iA (zU D9 a d9)))), (mc, .inl (cI, 5, .inl (iA (bmp T 3))))] := hD
                      refine lv_aload_n hx hb dX3_turn_201 rfl (lv_at hl 0 rfl) ?_
                      refine va_get (D := (dC, dI)) (ci := 3) (v := .ref mpl) (C := RX3) (T := TX3) (N := 17) hx hb hts in_X3 hown hK hP 0 rfl rfl 14 (by decide) fl_35 (fun _ h9 => h9) rfl dX3_turn_202 ?_
                      refine lv_iload hx hb dX3_turn_205 (lv_at hl 4 rfl) ?_
                      refine lv_iload_n hx hb dX3_turn_207 rfl (lv_at hl 1 rfl) ?_
                      refine z_iast hx hb hK hP hD hS 4 0 rfl rfl a (by omega) dX3_turn_208 (fun H locs hP hD hS => ?_)
                      have hP : va_P (dC, dI) vwCl [(m0, .inr (3, [.int (iI cd), .int (iI (n : Int)), .int (iI (w : Int)), .ref mq, .int (iI (rc : Int)), .ref mn, .ref ml, .int (iI (sc : Int)), .ref ms, .ref mr, .ref mg, .ref mp, .int (iI (mo : Int)), .int (iI (fo : Int)), .ref mpl, .ref mdi, .ref mc])), (mq, .inl (cI, 16, .inl (iA q))), (mr, .inl (cI, 16, .inl (iA r))), (mg, .inl (cI, 256, .inl (iA u79))), (mpl, .inl (cI, 13, .inl (iA (zU P9 a pl)))), (mdi, .inl (cI, 13, .inl (iA (zU D9 a d9)))), (mc, .inl (cI, 5, .inl (iA (bmp T 3))))] H := hP
                      have hD : va_D A [(m0, .inr (3, [.int (iI cd), .int (iI (n : Int)), .int (iI (w : Int)), .ref mq, .int (iI (rc : Int)), .ref mn, .ref ml, .int (iI (sc : Int)), .ref ms, .ref mr, .ref mg, .ref mp, .int (iI (mo : Int)), .int (iI (fo : Int)), .ref mpl, .ref mdi, .ref mc])), (mq, .inl (cI, 16, .inl (iA q))), (mr, .inl (cI, 16, .inl (iA r))), (mg, .inl (cI, 256, .inl (iA u79))), (mpl, .inl (cI, 13, .inl (iA (zU P9 a pl)))), (mdi, .inl (cI, 13, .inl (iA (zU D9 a d9)))), (mc, .inl (cI, 5, .inl (iA (bmp T 3))))] := hD
                      refine lv_aload_n hx hb dX3_turn_209 rfl (lv_at hl 0 rfl) ?_
                      refine lv_aload_n hx hb dX3_turn_210 rfl (lv_at hl 0 rfl) ?_
                      refine va_get (D := (dC, dI)) (ci := 3) (v := .int (iI (fo : Int))) (C := RX3) (T := TX3) (N := 17) hx hb hts in_X3 hown hK hP 0 rfl rfl 13 (by decide) fl_54 (fun _ h9 => h9) rfl dX3_turn_211 ?_
                      refine lv_aload_n hx hb dX3_turn_214 rfl (lv_at hl 0 rfl) ?_
                      refine va_get (D := (dC, dI)) (ci := 3) (v := .int (iI (mo : Int))) (C := RX3) (T := TX3) (N := 17) hx hb hts in_X3 hown hK hP 0 rfl rfl 12 (by decide) fl_94 (fun _ h9 => h9) rfl dX3_turn_215 ?_
                      refine z_icmp_ge (tgt := 230) hx hb dX3_turn_218 (by decide) (by omega) (fun h218 => ?_) (fun h218 => ?_)
                      · refine lv_aload_n hx hb dX3_turn_230 rfl (lv_at hl 0 rfl) ?_
                        refine va_get (D := (dC, dI)) (ci := 3) (v := .int (iI (mo : Int))) (C := RX3) (T := TX3) (N := 17) hx hb hts in_X3 hown hK hP 0 rfl rfl 12 (by decide) fl_94 (fun _ h9 => h9) rfl dX3_turn_231 ?_
                        refine z_top (b := ((min (fo + 1) mo : Nat) : Int)) (by omega) ?_
                        refine va_put (D := (dC, dI)) (ci := 3) (v := .int (iI ((min (fo + 1) mo : Nat) : Int))) (ty := .int) (C := RX3) (T := TX3) (N := 17) hx hb hts in_X3 tyX3 tyX3_ok nmX3 hown hK hP hD hS 0 rfl rfl 13 (by decide) fl_54 (fun _ h9 => h9) rfl (by decide +kernel) rfl rfl (Nat.le_of_ble_eq_true rfl) dX3_turn_234 (fun H locs hP hD hS => ?_)
                        have hP : va_P (dC, dI) vwCl [(m0, .inr (3, [.int (iI cd), .int (iI (n : Int)), .int (iI (w : Int)), .ref mq, .int (iI (rc : Int)), .ref mn, .ref ml, .int (iI (sc : Int)), .ref ms, .ref mr, .ref mg, .ref mp, .int (iI (mo : Int)), .int (iI ((min (fo + 1) mo : Nat) : Int)), .ref mpl, .ref mdi, .ref mc])), (mq, .inl (cI, 16, .inl (iA q))), (mr, .inl (cI, 16, .inl (iA r))), (mg, .inl (cI, 256, .inl (iA u79))), (mpl, .inl (cI, 13, .inl (iA (zU P9 a pl)))), (mdi, .inl (cI, 13, .inl (iA (zU D9 a d9)))), (mc, .inl (cI, 5, .inl (iA (bmp T 3))))] H := hP
                        have hD : va_D A [(m0, .inr (3, [.int (iI cd), .int (iI (n : Int)), .int (iI (w : Int)), .ref mq, .int (iI (rc : Int)), .ref mn, .ref ml, .int (iI (sc : Int)), .ref ms, .ref mr, .ref mg, .ref mp, .int (iI (mo : Int)), .int (iI ((min (fo + 1) mo : Nat) : Int)), .ref mpl, .ref mdi, .ref mc])), (mq, .inl (cI, 16, .inl (iA q))), (mr, .inl (cI, 16, .inl (iA r))), (mg, .inl (cI, 256, .inl (iA u79))), (mpl, .inl (cI, 13, .inl (iA (zU P9 a pl)))), (mdi, .inl (cI, 13, .inl (iA (zU D9 a d9)))), (mc, .inl (cI, 5, .inl (iA (bmp T 3))))] := hD
                        have hgu : ¬ givesUp n w q r (DI (mo - 1)) := by
                          rcases hz88 with h9 | h9
                          · omega
                          · exact h9.2
                        have eP9 : zU P9 a pl = insF PL (scn DI (cst w q r (n - 1) (n - 1)) fo) fo pl := by rw [eP, shf_end, esc, ed9]
                        have eD9 : zU D9 a d9 = insF DI (scn DI (cst w q r (n - 1) (n - 1)) fo) fo (cst w q r (n - 1) (n - 1)) := by rw [eD, shf_end, esc, ed9]
                        rw [eP9, eD9] at hP hD
                        subst hAe
                        exact zw_retv (((min (fo + 1) mo, insF PL (scn DI (cst w q r (n - 1) (n - 1)) fo) fo pl, insF DI (scn DI (cst w q r (n - 1) (n - 1)) fo) fo (cst w q r (n - 1) (n - 1)), bmp T 3), u79)) hx hb hr hlocks hQ (⟨ins_sim (by omega) hlk.1 (Or.inr ⟨by rw [hfm]; exact hpz, by rw [hfm]; exact hgu, by rw [hfm]; omega⟩), lok_ins hlk hcr, hw79.1⟩) hP hK hD hS dX3_turn_237
                      · refine lv_aload_n hx hb dX3_turn_221 rfl (lv_at hl 0 rfl) ?_
                        refine va_get (D := (dC, dI)) (ci := 3) (v := .int (iI (fo : Int))) (C := RX3) (T := TX3) (N := 17) hx hb hts in_X3 hown hK hP 0 rfl rfl 13 (by decide) fl_54 (fun _ h9 => h9) rfl dX3_turn_222 ?_
                        refine lv_iconst (v := iI (1 : Int)) hx hb dX3_turn_225 (by decide) ?_
                        refine z_iadd hx hb dX3_turn_226 ?_
                        refine lv_goto (tgt := 234) hx hb dX3_turn_227 (by decide) ?_
                        refine z_top (b := ((min (fo + 1) mo : Nat) : Int)) (by omega) ?_
                        refine va_put (D := (dC, dI)) (ci := 3) (v := .int (iI ((min (fo + 1) mo : Nat) : Int))) (ty := .int) (C := RX3) (T := TX3) (N := 17) hx hb hts in_X3 tyX3 tyX3_ok nmX3 hown hK hP hD hS 0 rfl rfl 13 (by decide) fl_54 (fun _ h9 => h9) rfl (by decide +kernel) rfl rfl (Nat.le_of_ble_eq_true rfl) dX3_turn_234 (fun H locs hP hD hS => ?_)
                        have hP : va_P (dC, dI) vwCl [(m0, .inr (3, [.int (iI cd), .int (iI (n : Int)), .int (iI (w : Int)), .ref mq, .int (iI (rc : Int)), .ref mn, .ref ml, .int (iI (sc : Int)), .ref ms, .ref mr, .ref mg, .ref mp, .int (iI (mo : Int)), .int (iI ((min (fo + 1) mo : Nat) : Int)), .ref mpl, .ref mdi, .ref mc])), (mq, .inl (cI, 16, .inl (iA q))), (mr, .inl (cI, 16, .inl (iA r))), (mg, .inl (cI, 256, .inl (iA u79))), (mpl, .inl (cI, 13, .inl (iA (zU P9 a pl)))), (mdi, .inl (cI, 13, .inl (iA (zU D9 a d9)))), (mc, .inl (cI, 5, .inl (iA (bmp T 3))))] H := hP
                        have hD : va_D A [(m0, .inr (3, [.int (iI cd), .int (iI (n : Int)), .int (iI (w : Int)), .ref mq, .int (iI (rc : Int)), .ref mn, .ref ml, .int (iI (sc : Int)), .ref ms, .ref mr, .ref mg, .ref mp, .int (iI (mo : Int)), .int (iI ((min (fo + 1) mo : Nat) : Int)), .ref mpl, .ref mdi, .ref mc])), (mq, .inl (cI, 16, .inl (iA q))), (mr, .inl (cI, 16, .inl (iA r))), (mg, .inl (cI, 256, .inl (iA u79))), (mpl, .inl (cI, 13, .inl (iA (zU P9 a pl)))), (mdi, .inl (cI, 13, .inl (iA (zU D9 a d9)))), (mc, .inl (cI, 5, .inl (iA (bmp T 3))))] := hD
                        have hgu : ¬ givesUp n w q r (DI (mo - 1)) := by
                          rcases hz88 with h9 | h9
                          · omega
                          · exact h9.2
                        have eP9 : zU P9 a pl = insF PL (scn DI (cst w q r (n - 1) (n - 1)) fo) fo pl := by rw [eP, shf_end, esc, ed9]
                        have eD9 : zU D9 a d9 = insF DI (scn DI (cst w q r (n - 1) (n - 1)) fo) fo (cst w q r (n - 1) (n - 1)) := by rw [eD, shf_end, esc, ed9]
                        rw [eP9, eD9] at hP hD
                        subst hAe
                        exact zw_retv (((min (fo + 1) mo, insF PL (scn DI (cst w q r (n - 1) (n - 1)) fo) fo pl, insF DI (scn DI (cst w q r (n - 1) (n - 1)) fo) fo (cst w q r (n - 1) (n - 1)), bmp T 3), u79)) hx hb hr hlocks hQ (⟨ins_sim (by omega) hlk.1 (Or.inr ⟨by rw [hfm]; exact hpz, by rw [hfm]; exact hgu, by rw [hfm]; omega⟩), lok_ins hlk hcr, hw79.1⟩) hP hK hD hS dX3_turn_237
                    · have h151b : d9 < DI (a - 1) := by omega
                      refine lv_aload_n hx hb dX3_turn_154 rfl (lv_at hl 0 rfl) ?_
                      refine va_get (D := (dC, dI)) (ci := 3) (v := .ref mdi) (C := RX3) (T := TX3) (N := 17) hx hb hts in_X3 hown hK hP 0 rfl rfl 15 (by decide) fl_38 (fun _ h9 => h9) rfl dX3_turn_155 ?_
                      refine lv_iload hx hb dX3_turn_158 (lv_at hl 4 rfl) ?_
                      refine lv_aload_n hx hb dX3_turn_160 rfl (lv_at hl 0 rfl) ?_
                      refine va_get (D := (dC, dI)) (ci := 3) (v := .ref mdi) (C := RX3) (T := TX3) (N := 17) hx hb hts in_X3 hown hK hP 0 rfl rfl 15 (by decide) fl_38 (fun _ h9 => h9) rfl dX3_turn_161 ?_
                      refine lv_iload hx hb dX3_turn_164 (lv_at hl 4 rfl) ?_
                      refine lv_iconst (v := iI (1 : Int)) hx hb dX3_turn_166 (by decide) ?_
                      refine z_isub hx hb dX3_turn_167 ?_
                      refine z_top (b := ((a - 1 : Nat) : Int)) (by omega) ?_
                      refine z_iald hx hb hK hP 5 0 rfl rfl (a - 1) (by omega) dX3_turn_168 ?_
                      refine z_iast hx hb hK hP hD hS 5 0 rfl rfl a (by omega) dX3_turn_169 (fun H locs hP hD hS => ?_)
                      have hP : va_P (dC, dI) vwCl [(m0, .inr (3, [.int (iI cd), .int (iI (n : Int)), .int (iI (w : Int)), .ref mq, .int (iI (rc : Int)), .ref mn, .ref ml, .int (iI (sc : Int)), .ref ms, .ref mr, .ref mg, .ref mp, .int (iI (mo : Int)), .int (iI (fo : Int)), .ref mpl, .ref mdi, .ref mc])), (mq, .inl (cI, 16, .inl (iA q))), (mr, .inl (cI, 16, .inl (iA r))), (mg, .inl (cI, 256, .inl (iA u79))), (mpl, .inl (cI, 13, .inl (iA P9))), (mdi, .inl (cI, 13, .inl (iA (zU D9 a (D9 (a - 1)))))), (mc, .inl (cI, 5, .inl (iA (bmp T 3))))] H := hP
                      have hD : va_D A [(m0, .inr (3, [.int (iI cd), .int (iI (n : Int)), .int (iI (w : Int)), .ref mq, .int (iI (rc : Int)), .ref mn, .ref ml, .int (iI (sc : Int)), .ref ms, .ref mr, .ref mg, .ref mp, .int (iI (mo : Int)), .int (iI (fo : Int)), .ref mpl, .ref mdi, .ref mc])), (mq, .inl (cI, 16, .inl (iA q))), (mr, .inl (cI, 16, .inl (iA r))), (mg, .inl (cI, 256, .inl (iA u79))), (mpl, .inl (cI, 13, .inl (iA P9))), (mdi, .inl (cI, 13, .inl (iA (zU D9 a (D9 (a - 1)))))), (mc, .inl (cI, 5, .inl (iA (bmp T 3))))] := hD
                      refine lv_aload_n hx hb dX3_turn_170 rfl (lv_at hl 0 rfl) ?_
                      refine va_get (D := (dC, dI)) (ci := 3) (v := .ref mpl) (C := RX3) (T := TX3) (N := 17) hx hb hts in_X3 hown hK hP 0 rfl rfl 14 (by decide) fl_35 (fun _ h9 => h9) rfl dX3_turn_171 ?_
                      refine lv_iload hx hb dX3_turn_174 (lv_at hl 4 rfl) ?_
                      refine lv_aload_n hx hb dX3_turn_176 rfl (lv_at hl 0 rfl) ?_
                      refine va_get (D := (dC, dI)) (ci := 3) (v := .ref mpl) (C := RX3) (T := TX3) (N := 17) hx hb hts in_X3 hown hK hP 0 rfl rfl 14 (by decide) fl_35 (fun _ h9 => h9) rfl dX3_turn_177 ?_
                      refine lv_iload hx hb dX3_turn_180 (lv_at hl 4 rfl) ?_
                      refine lv_iconst (v := iI (1 : Int)) hx hb dX3_turn_182 (by decide) ?_
                      refine z_isub hx hb dX3_turn_183 ?_
                      refine z_top (b := ((a - 1 : Nat) : Int)) (by omega) ?_
                      refine z_iald hx hb hK hP 4 0 rfl rfl (a - 1) (by omega) dX3_turn_184 ?_
                      refine z_iast hx hb hK hP hD hS 4 0 rfl rfl a (by omega) dX3_turn_185 (fun H locs hP hD hS => ?_)
                      have hP : va_P (dC, dI) vwCl [(m0, .inr (3, [.int (iI cd), .int (iI (n : Int)), .int (iI (w : Int)), .ref mq, .int (iI (rc : Int)), .ref mn, .ref ml, .int (iI (sc : Int)), .ref ms, .ref mr, .ref mg, .ref mp, .int (iI (mo : Int)), .int (iI (fo : Int)), .ref mpl, .ref mdi, .ref mc])), (mq, .inl (cI, 16, .inl (iA q))), (mr, .inl (cI, 16, .inl (iA r))), (mg, .inl (cI, 256, .inl (iA u79))), (mpl, .inl (cI, 13, .inl (iA (zU P9 a (P9 (a - 1)))))), (mdi, .inl (cI, 13, .inl (iA (zU D9 a (D9 (a - 1)))))), (mc, .inl (cI, 5, .inl (iA (bmp T 3))))] H := hP
                      have hD : va_D A [(m0, .inr (3, [.int (iI cd), .int (iI (n : Int)), .int (iI (w : Int)), .ref mq, .int (iI (rc : Int)), .ref mn, .ref ml, .int (iI (sc : Int)), .ref ms, .ref mr, .ref mg, .ref mp, .int (iI (mo : Int)), .int (iI (fo : Int)), .ref mpl, .ref mdi, .ref mc])), (mq, .inl (cI, 16, .inl (iA q))), (mr, .inl (cI, 16, .inl (iA r))), (mg, .inl (cI, 256, .inl (iA u79))), (mpl, .inl (cI, 13, .inl (iA (zU P9 a (P9 (a - 1)))))), (mdi, .inl (cI, 13, .inl (iA (zU D9 a (D9 (a - 1)))))), (mc, .inl (cI, 5, .inl (iA (bmp T 3))))] := hD
                      refine z_iinc (k := 4) (b := ((a - 1 : Nat) : Int)) (lv' := [(5, .int (iI ((a - 1 : Nat) : Int))), (0, .ref m0), (1, .int (iI pl)), (2, .int (iI (1 : Int))), (4, .int (iI d9))]) hx hb dX3_turn_186 hl rfl (by omega) (by decide) rfl (fun ls hl => ?_)
                      refine lv_goto (tgt := 135) hx hb dX3_turn_189 (by decide) ?_
                      exact ih_lpi _ (by omega) (a - 1) (zU P9 a (P9 (a - 1))) (zU D9 a (D9 (a - 1))) H locs ls (by omega) (by rw [eP]; exact shf_step (by omega) ha) (by rw [eD]; exact shf_step (by omega) ha) (by rw [← hsc]; exact (scn_on (by omega) h151b).symm) rfl hP hD hS (lv_sub hl [1, 2, 3, 4, 0] rfl)
              exact lpi _ fo PL DI _ _ ls (Nat.le_refl _) ((shf_0 _ _).symm) ((shf_0 _ _).symm) (rfl) rfl hP hD hS (lv_sub hl [2, 3, 4, 1, 0] rfl)
            · have hgu : ¬ givesUp n w q r (DI (mo - 1)) := by
                rcases hz88 with h9 | h9
                · omega
                · exact h9.2
              subst hAe
              exact zw_retv (((fo, PL, DI, bmp T 3), u79)) hx hb hr hlocks hQ (⟨by rw [wgh_3 hfm (by rw [hfm]) hpz hgu (by omega)]; exact lsim.rfl', ⟨hlk.1, hlk.2.1, hlk.2.2⟩, hw79.1⟩) hP hK hD hS dX3_turn_128
          · refine lv_aload_n hx hb dX3_turn_94 rfl (lv_at hl 0 rfl) ?_
            refine lv_iconst (v := iI (4 : Int)) hx hb dX3_turn_95 (by decide) ?_
            refine zw_v (wr := [(mq, .inl (cI, 16, .inl (iA q))), (mr, .inl (cI, 16, .inl (iA r))), (mg, .inl (cI, 256, .inl (iA u79))), (mpl, .inl (cI, 13, .inl (iA PL))), (mdi, .inl (cI, 13, .inl (iA DI)))]) (va_runV (As := [.int (iI (4 : Int))]) (rest := []) ⟨hx, hb, hml, hown, hts⟩ (c_tally l dC dI cI m0 mq mn ml ms mr mg mp mpl mdi mc cd n w rc sc mo fo 4 (bmp T 3) _ (by omega)) (cwV 1 hts (ga_V wd_626 wd_628 wd_24 wd_31 wd_629) rfl rfl rfl (by decide +kernel) ⟨(show 0 + 1 ≤ R.frames by omega), (show 8 + (2 + 11) + 0 ≤ R.locals by omega)⟩) (wr_preV (q0 := 0) (ci := 3) hP hK hD [0, 6] (by decide) rfl rfl rfl rfl) rfl rfl hl.1 rfl (lv_room (Nat.le_of_ble_eq_true rfl)) dX3_turn_96 ⟨by omega, by omega⟩) hP hD hS hA [0, 6] [1, 2, 3, 4, 5] rfl rfl (by decide) (by decide) (fun u96 H locs hw96 hP hD hS => ?_)
            have hP := hP.sub (ws' := [(m0, .inr (3, [.int (iI cd), .int (iI (n : Int)), .int (iI (w : Int)), .ref mq, .int (iI (rc : Int)), .ref mn, .ref ml, .int (iI (sc : Int)), .ref ms, .ref mr, .ref mg, .ref mp, .int (iI (mo : Int)), .int (iI (fo : Int)), .ref mpl, .ref mdi, .ref mc])), (mq, .inl (cI, 16, .inl (iA q))), (mr, .inl (cI, 16, .inl (iA r))), (mg, .inl (cI, 256, .inl (iA u79))), (mpl, .inl (cI, 13, .inl (iA PL))), (mdi, .inl (cI, 13, .inl (iA DI))), (mc, .inl (cI, 5, .inl (iA (bmp (bmp T 3) 4))))]) [5, 0, 1, 2, 3, 4, 6] rfl
            have hD := hD.sub (ws' := [(m0, .inr (3, [.int (iI cd), .int (iI (n : Int)), .int (iI (w : Int)), .ref mq, .int (iI (rc : Int)), .ref mn, .ref ml, .int (iI (sc : Int)), .ref ms, .ref mr, .ref mg, .ref mp, .int (iI (mo : Int)), .int (iI (fo : Int)), .ref mpl, .ref mdi, .ref mc])), (mq, .inl (cI, 16, .inl (iA q))), (mr, .inl (cI, 16, .inl (iA r))), (mg, .inl (cI, 256, .inl (iA u79))), (mpl, .inl (cI, 13, .inl (iA PL))), (mdi, .inl (cI, 13, .inl (iA DI))), (mc, .inl (cI, 5, .inl (iA (bmp (bmp T 3) 4))))]) [5, 0, 1, 2, 3, 4, 6] (by decide) rfl
            have hgu : givesUp n w q r (DI (mo - 1)) := by
              rcases hz88 with h9 | h9
              · exact h9.2
              · omega
            subst hAe
            exact zw_retv (((fo, PL, DI, bmp (bmp T 3) 4), u79)) hx hb hr hlocks hQ (⟨by rw [wgh_2 hfm (by rw [hfm]) hpz hgu]; exact lsim.rfl', ⟨hlk.1, hlk.2.1, hlk.2.2⟩, hw79.1⟩) hP hK hD hS dX3_turn_99
        · refine lv_iload_n hx hb dX3_turn_46 rfl (lv_at hl 2 rfl) ?_
          refine z_if_eq (tgt := 73) hx hb dX3_turn_47 (by decide) (by decide) (fun h9 => absurd h9 (by decide)) (fun _ => ?_)
          refine lv_aload_n hx hb dX3_turn_50 rfl (lv_at hl 0 rfl) ?_
          refine lv_iload hx hb dX3_turn_51 (lv_at hl 4 rfl) ?_
          refine zr_i (va_runV (As := [.int (iI (v : Int))]) (rest := []) ⟨hx, hb, hml, hown, hts⟩ (c_boundOf l dC dI cI m0 mq mn ml ms mr mg mp mpl mdi mc cd n w rc sc mo fo q r (v : Int) hn hw hvq hvr (by omega)) (cwV 1 hts (ga_V wd_594 wd_596 wd_19 wd_31 wd_597) rfl rfl rfl (by decide +kernel) ⟨(show 2 + 1 ≤ R.frames by omega), (show 8 + (4 + 11) + 50 ≤ R.locals by omega)⟩) (rd_preV (q0 := 0) (ci := 3) hP hK [0, 1, 2] rfl rfl rfl) rfl rfl hl.1 rfl (lv_room (Nat.le_of_ble_eq_true rfl)) dX3_turn_53 ⟨by omega, by omega⟩) (fun z53 hz53 => ?_)
          have r53 : 0 ≤ z53 ∧ z53 ≤ 128000000 := by rw [hz53]; exact lbd_rg (by omega) hvq hvr _
          refine lv_iload_n hx hb dX3_turn_56 rfl (lv_at hl 3 rfl) ?_
          refine z_icmp_lt (tgt := 67) hx hb dX3_turn_57 (by decide) (by omega) (fun h57 => ?_) (fun h57 => ?_)
          · refine z_iinc (k := 4) (b := ((v + 1 : Nat) : Int)) (lv' := [(4, .int (iI ((v + 1 : Nat) : Int))), (0, .ref m0), (1, .int (iI pl)), (2, .int (iI (1 : Int))), (3, .int (iI (DI (mo - 1))))]) hx hb dX3_turn_67 hl rfl (by omega) (by decide) rfl (fun ls hl => ?_)
            refine lv_goto (tgt := 40) hx hb dX3_turn_70 (by decide) ?_
            exact ih_lpb _ (by omega) (v + 1) ls (by omega) (fun k h => by by_cases g9 : k = v; (subst g9; rw [← hz53]; exact h57); exact hb9 k (by omega)) rfl (lv_sub hl [1, 2, 3, 4, 0] rfl)
          · refine lv_aload_n hx hb dX3_turn_60 rfl (lv_at hl 0 rfl) ?_
            refine lv_iload hx hb dX3_turn_61 (lv_at hl 4 rfl) ?_
            refine zw_v (wr := [(mq, .inl (cI, 16, .inl (iA q))), (mr, .inl (cI, 16, .inl (iA r))), (mg, .inl (cI, 256, .inl (iA G))), (mpl, .inl (cI, 13, .inl (iA PL))), (mdi, .inl (cI, 13, .inl (iA DI)))]) (va_runV (As := [.int (iI (v : Int))]) (rest := []) ⟨hx, hb, hml, hown, hts⟩ (c_tally l dC dI cI m0 mq mn ml ms mr mg mp mpl mdi mc cd n w rc sc mo fo v T _ (by omega)) (cwV 1 hts (ga_V wd_626 wd_628 wd_24 wd_31 wd_629) rfl rfl rfl (by decide +kernel) ⟨(show 0 + 1 ≤ R.frames by omega), (show 8 + (2 + 11) + 0 ≤ R.locals by omega)⟩) (wr_preV (q0 := 0) (ci := 3) hP hK hD [0, 6] (by decide) rfl rfl rfl rfl) rfl rfl hl.1 rfl (lv_room (Nat.le_of_ble_eq_true rfl)) dX3_turn_63 ⟨by omega, by omega⟩) hP hD hS hA [0, 6] [1, 2, 3, 4, 5] rfl rfl (by decide) (by decide) (fun u63 H locs hw63 hP hD hS => ?_)
            have hP := hP.sub (ws' := [(m0, .inr (3, [.int (iI cd), .int (iI (n : Int)), .int (iI (w : Int)), .ref mq, .int (iI (rc : Int)), .ref mn, .ref ml, .int (iI (sc : Int)), .ref ms, .ref mr, .ref mg, .ref mp, .int (iI (mo : Int)), .int (iI (fo : Int)), .ref mpl, .ref mdi, .ref mc])), (mq, .inl (cI, 16, .inl (iA q))), (mr, .inl (cI, 16, .inl (iA r))), (mg, .inl (cI, 256, .inl (iA G))), (mpl, .inl (cI, 13, .inl (iA PL))), (mdi, .inl (cI, 13, .inl (iA DI))), (mc, .inl (cI, 5, .inl (iA (bmp T v))))]) [5, 0, 1, 2, 3, 4, 6] rfl
            have hD := hD.sub (ws' := [(m0, .inr (3, [.int (iI cd), .int (iI (n : Int)), .int (iI (w : Int)), .ref mq, .int (iI (rc : Int)), .ref mn, .ref ml, .int (iI (sc : Int)), .ref ms, .ref mr, .ref mg, .ref mp, .int (iI (mo : Int)), .int (iI (fo : Int)), .ref mpl, .ref mdi, .ref mc])), (mq, .inl (cI, 16, .inl (iA q))), (mr, .inl (cI, 16, .inl (iA r))), (mg, .inl (cI, 256, .inl (iA G))), (mpl, .inl (cI, 13, .inl (iA PL))), (mdi, .inl (cI, 13, .inl (iA DI))), (mc, .inl (cI, 5, .inl (iA (bmp T v))))]) [5, 0, 1, 2, 3, 4, 6] (by decide) rfl
            subst hAe
            exact zw_retv (((fo, PL, DI, bmp T v), G)) hx hb hr hlocks hQ (⟨by rw [wgh_1 hfm (by rw [hfm]) (pas_at hb9 (by omega) (by rw [← hz53]; exact h57)).symm (by omega)]; exact lsim.rfl', ⟨hlk.1, hlk.2.1, hlk.2.2⟩, hG⟩) hP hK hD hS dX3_turn_66
    exact lpb _ 0 ls (by omega) (fun k h => absurd h (Nat.not_lt_zero _)) rfl (lv_sub hl [3, 4, 2, 1, 0] rfl)
end
