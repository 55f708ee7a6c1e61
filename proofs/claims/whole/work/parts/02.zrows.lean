/-! whole numbers: an int of the machine by the number that it stands for -/
def iI (z : Int) : Int32 := Int32.ofInt z
def iA (F : Nat → Int) : Nat → Int32 := fun k => iI (F k)
def zU (F : Nat → Int) (k : Nat) (z : Int) : Nat → Int := fun j => if j = k then z else F j
def zC (F G : Nat → Int) (sp dp n : Nat) : Nat → Int := fun k => if dp ≤ k ∧ k < dp + n then F (sp + (k - dp)) else G k
theorem zU_s {F : Nat → Int} {k : Nat} {z : Int} : zU F k z k = z := by simp [zU]
theorem zU_n {F : Nat → Int} {k j : Nat} {z : Int} (h : j ≠ k) : zU F k z j = F j := by simp [zU, h]
theorem iI_ti {z : Int} (h : -2147483648 ≤ z ∧ z ≤ 2147483647) : (iI z).toInt = z := by
  unfold iI
  exact Int32.toInt_ofInt_of_le (by omega) (by omega)
theorem iI_of (x : Int32) : x = iI x.toInt := (Int32.ofInt_toInt x).symm
theorem iI_ex (x : Int32) : ∃ z : Int, x = iI z ∧ -2147483648 ≤ z ∧ z ≤ 2147483647 := by
  have h1 := Int32.toInt_lt x
  have h2 := Int32.le_toInt x
  exact ⟨x.toInt, iI_of x, by omega, by omega⟩
theorem iI_add (a b : Int) : iI a + iI b = iI (a + b) := (Int32.ofInt_add a b).symm
theorem iI_sub (a b : Int) : iI a - iI b = iI (a - b) := (Int32.ofInt_sub a b).symm
theorem iI_mul (a b : Int) : iI a * iI b = iI (a * b) := (Int32.ofInt_mul a b).symm
theorem iI_nat (n : Nat) : Int32.ofNat n = iI (n : Int) := Int32.ofInt_eq_ofNat.symm
theorem iI_le {a b : Int} (h : -2147483648 ≤ a ∧ a ≤ 2147483647 ∧ -2147483648 ≤ b ∧ b ≤ 2147483647) : iI a ≤ iI b ↔ a ≤ b := by
  rw [Int32.le_iff_toInt_le, iI_ti (by omega), iI_ti (by omega)]
theorem iI_lt {a b : Int} (h : -2147483648 ≤ a ∧ a ≤ 2147483647 ∧ -2147483648 ≤ b ∧ b ≤ 2147483647) : iI a < iI b ↔ a < b := by
  rw [Int32.lt_iff_toInt_lt, iI_ti (by omega), iI_ti (by omega)]
theorem iI_eq {a b : Int} (h : -2147483648 ≤ a ∧ a ≤ 2147483647 ∧ -2147483648 ≤ b ∧ b ≤ 2147483647) : iI a = iI b ↔ a = b := by
  constructor
  · intro q
    have q2 : (iI a).toInt = (iI b).toInt := by rw [q]
    rw [iI_ti (by omega), iI_ti (by omega)] at q2
    exact q2
  · intro q
    rw [q]
theorem iI_0 : (0 : Int32) = iI 0 := rfl
theorem iI_cl {z : Int} {k : Nat} (h : z = (k : Int)) (hk : k ≤ 2147483647) : (iI z).toNatClampNeg = k := by
  show (iI z).toInt.toNat = k
  rw [iI_ti (by omega), h]
  rfl
theorem iI_in {z : Int} {k n : Nat} (h : z = (k : Int) ∧ k < n ∧ n ≤ 2147483647) : vp_in (iI z) n := by
  intro q
  rcases q with q | q
  · rw [iI_0, iI_lt (by omega)] at q
    omega
  · rw [iI_cl h.1 (by omega)] at q
    omega
theorem iA_upd (F : Nat → Int) (k : Nat) (z : Int) : upd (iA F) k (iI z) = iA (zU F k z) := by
  funext j
  by_cases h : j = k
  · subst h
    simp [upd, iA, zU]
  · simp [upd, iA, zU, h]
theorem iA_cpy (F G : Nat → Int) (sp dp n : Nat) : va_cpy (iA F) (iA G) sp dp n = iA (zC F G sp dp n) := by
  funext j
  by_cases h : dp ≤ j ∧ j < dp + n
  · simp [va_cpy, iA, zC, h]
  · simp [va_cpy, iA, zC, h]
section ZR
variable {p : Program} {l : Launch} {e : Env} {R : Room} {s : State} {m : MethodId} {args : Array Value} {below : List Frame} {meth : Method} {c : Code} {H : Heap} {locs : List Loc} {cells slots : Nat} {Q : State → Prop} {cc : ByteArray} {pc : Nat} {ls : Array Slot} {rest : List Value}
/-- the room and the end get names -/
theorem z_intro {g : JFrame} (k : ∀ (R' : Room) (Q' : State → Prop), R' = R → Q' = Q → W p l e R' s m args below meth c H locs cells slots Q' g) : W p l e R s m args below meth c H locs cells slots Q g := k R Q rfl rfl
theorem z_q {g : JFrame} {Q' : State → Prop} (h : Q = Q') (k : W p l e R s m args below meth c H locs cells slots Q' g) : W p l e R s m args below meth c H locs cells slots Q g := h ▸ k
/-- the number on top is written otherwise -/
theorem z_top {a b : Int} (h : a = b) (k : W p l e R s m args below meth c H locs cells slots Q (F0 m pc ls (.int (iI b) :: rest))) : W p l e R s m args below meth c H locs cells slots Q (F0 m pc ls (.int (iI a) :: rest)) := h ▸ k
theorem z_iadd (hx : p.tables.exec = Jvm.exec) (hb : c.code = cc) {a b : Int} (hdg : decode cc pc = .ok (.iadd, 1)) (k : W p l e R s m args below meth c H locs cells slots Q (F0 m (pc + 1) ls (.int (iI (a + b)) :: rest))) : W p l e R s m args below meth c H locs cells slots Q (F0 m pc ls (.int (iI b) :: .int (iI a) :: rest)) :=
  lv_iadd hx hb hdg (by rw [iI_add]; exact k)
theorem z_isub (hx : p.tables.exec = Jvm.exec) (hb : c.code = cc) {a b : Int} (hdg : decode cc pc = .ok (.isub, 1)) (k : W p l e R s m args below meth c H locs cells slots Q (F0 m (pc + 1) ls (.int (iI (a - b)) :: rest))) : W p l e R s m args below meth c H locs cells slots Q (F0 m pc ls (.int (iI b) :: .int (iI a) :: rest)) :=
  lv_isub hx hb hdg (by rw [iI_sub]; exact k)
theorem z_imul (hx : p.tables.exec = Jvm.exec) (hb : c.code = cc) {a b : Int} (hdg : decode cc pc = .ok (.imul, 1)) (k : W p l e R s m args below meth c H locs cells slots Q (F0 m (pc + 1) ls (.int (iI (a * b)) :: rest))) : W p l e R s m args below meth c H locs cells slots Q (F0 m pc ls (.int (iI b) :: .int (iI a) :: rest)) :=
  lv_imul hx hb hdg (by rw [iI_mul]; exact k)
theorem z_icmp_eq (hx : p.tables.exec = Jvm.exec) (hb : c.code = cc) {a b : Int} {off : Int} {tgt : Nat} (hdg : decode cc pc = .ok (.if_icmp .eq off, 3)) (ht : (pc : Int) + off = (tgt : Int)) (h : -2147483648 ≤ a ∧ a ≤ 2147483647 ∧ -2147483648 ≤ b ∧ b ≤ 2147483647)
    (kt : a = b → W p l e R s m args below meth c H locs cells slots Q (F0 m tgt ls rest)) (kf : a ≠ b → W p l e R s m args below meth c H locs cells slots Q (F0 m (pc + 3) ls rest)) : W p l e R s m args below meth c H locs cells slots Q (F0 m pc ls (.int (iI b) :: .int (iI a) :: rest)) :=
  lv_icmp_eq hx hb hdg ht (fun q => kt ((iI_eq h).mp q)) (fun q => kf (fun w => q ((iI_eq h).mpr w)))
theorem z_icmp_ne (hx : p.tables.exec = Jvm.exec) (hb : c.code = cc) {a b : Int} {off : Int} {tgt : Nat} (hdg : decode cc pc = .ok (.if_icmp .ne off, 3)) (ht : (pc : Int) + off = (tgt : Int)) (h : -2147483648 ≤ a ∧ a ≤ 2147483647 ∧ -2147483648 ≤ b ∧ b ≤ 2147483647)
    (kt : a ≠ b → W p l e R s m args below meth c H locs cells slots Q (F0 m tgt ls rest)) (kf : a = b → W p l e R s m args below meth c H locs cells slots Q (F0 m (pc + 3) ls rest)) : W p l e R s m args below meth c H locs cells slots Q (F0 m pc ls (.int (iI b) :: .int (iI a) :: rest)) :=
  lv_icmp_ne hx hb hdg ht (fun q => kt (fun w => q ((iI_eq h).mpr w))) (fun q => kf ((iI_eq h).mp q))
theorem z_icmp_lt (hx : p.tables.exec = Jvm.exec) (hb : c.code = cc) {a b : Int} {off : Int} {tgt : Nat} (hdg : decode cc pc = .ok (.if_icmp .lt off, 3)) (ht : (pc : Int) + off = (tgt : Int)) (h : -2147483648 ≤ a ∧ a ≤ 2147483647 ∧ -2147483648 ≤ b ∧ b ≤ 2147483647)
    (kt : a < b → W p l e R s m args below meth c H locs cells slots Q (F0 m tgt ls rest)) (kf : b ≤ a → W p l e R s m args below meth c H locs cells slots Q (F0 m (pc + 3) ls rest)) : W p l e R s m args below meth c H locs cells slots Q (F0 m pc ls (.int (iI b) :: .int (iI a) :: rest)) :=
  lv_icmp_lt hx hb hdg ht (fun q => kt ((iI_lt h).mp q)) (fun q => kf (Int.not_lt.mp (fun w => q ((iI_lt h).mpr w))))
theorem z_icmp_ge (hx : p.tables.exec = Jvm.exec) (hb : c.code = cc) {a b : Int} {off : Int} {tgt : Nat} (hdg : decode cc pc = .ok (.if_icmp .ge off, 3)) (ht : (pc : Int) + off = (tgt : Int)) (h : -2147483648 ≤ a ∧ a ≤ 2147483647 ∧ -2147483648 ≤ b ∧ b ≤ 2147483647)
    (kt : b ≤ a → W p l e R s m args below meth c H locs cells slots Q (F0 m tgt ls rest)) (kf : a < b → W p l e R s m args below meth c H locs cells slots Q (F0 m (pc + 3) ls rest)) : W p l e R s m args below meth c H locs cells slots Q (F0 m pc ls (.int (iI b) :: .int (iI a) :: rest)) :=
  lv_icmp_ge hx hb hdg ht (fun q => kt ((iI_le (by omega)).mp q)) (fun q => kf (Int.not_le.mp (fun w => q ((iI_le (by omega)).mpr w))))
theorem z_icmp_gt (hx : p.tables.exec = Jvm.exec) (hb : c.code = cc) {a b : Int} {off : Int} {tgt : Nat} (hdg : decode cc pc = .ok (.if_icmp .gt off, 3)) (ht : (pc : Int) + off = (tgt : Int)) (h : -2147483648 ≤ a ∧ a ≤ 2147483647 ∧ -2147483648 ≤ b ∧ b ≤ 2147483647)
    (kt : b < a → W p l e R s m args below meth c H locs cells slots Q (F0 m tgt ls rest)) (kf : a ≤ b → W p l e R s m args below meth c H locs cells slots Q (F0 m (pc + 3) ls rest)) : W p l e R s m args below meth c H locs cells slots Q (F0 m pc ls (.int (iI b) :: .int (iI a) :: rest)) :=
  lv_icmp_gt hx hb hdg ht (fun q => kt ((iI_lt (by omega)).mp q)) (fun q => kf (Int.not_lt.mp (fun w => q ((iI_lt (by omega)).mpr w))))
theorem z_icmp_le (hx : p.tables.exec = Jvm.exec) (hb : c.code = cc) {a b : Int} {off : Int} {tgt : Nat} (hdg : decode cc pc = .ok (.if_icmp .le off, 3)) (ht : (pc : Int) + off = (tgt : Int)) (h : -2147483648 ≤ a ∧ a ≤ 2147483647 ∧ -2147483648 ≤ b ∧ b ≤ 2147483647)
    (kt : a ≤ b → W p l e R s m args below meth c H locs cells slots Q (F0 m tgt ls rest)) (kf : b < a → W p l e R s m args below meth c H locs cells slots Q (F0 m (pc + 3) ls rest)) : W p l e R s m args below meth c H locs cells slots Q (F0 m pc ls (.int (iI b) :: .int (iI a) :: rest)) :=
  lv_icmp_le hx hb hdg ht (fun q => kt ((iI_le h).mp q)) (fun q => kf (Int.not_le.mp (fun w => q ((iI_le h).mpr w))))
theorem z_if_eq (hx : p.tables.exec = Jvm.exec) (hb : c.code = cc) {a : Int} {off : Int} {tgt : Nat} (hdg : decode cc pc = .ok (.ifCond .eq off, 3)) (ht : (pc : Int) + off = (tgt : Int)) (h : -2147483648 ≤ a ∧ a ≤ 2147483647)
    (kt : a = 0 → W p l e R s m args below meth c H locs cells slots Q (F0 m tgt ls rest)) (kf : a ≠ 0 → W p l e R s m args below meth c H locs cells slots Q (F0 m (pc + 3) ls rest)) : W p l e R s m args below meth c H locs cells slots Q (F0 m pc ls (.int (iI a) :: rest)) :=
  lv_if_eq hx hb hdg ht (fun q => kt (by rw [iI_0] at q; exact (iI_eq ⟨h.1, h.2, by omega, by omega⟩).mp q)) (fun q => kf (fun w => q (by rw [iI_0]; exact (iI_eq ⟨h.1, h.2, by omega, by omega⟩).mpr w)))
theorem z_if_ne (hx : p.tables.exec = Jvm.exec) (hb : c.code = cc) {a : Int} {off : Int} {tgt : Nat} (hdg : decode cc pc = .ok (.ifCond .ne off, 3)) (ht : (pc : Int) + off = (tgt : Int)) (h : -2147483648 ≤ a ∧ a ≤ 2147483647)
    (kt : a ≠ 0 → W p l e R s m args below meth c H locs cells slots Q (F0 m tgt ls rest)) (kf : a = 0 → W p l e R s m args below meth c H locs cells slots Q (F0 m (pc + 3) ls rest)) : W p l e R s m args below meth c H locs cells slots Q (F0 m pc ls (.int (iI a) :: rest)) :=
  lv_if_ne hx hb hdg ht (fun q => kt (fun w => q (by rw [iI_0]; exact (iI_eq ⟨h.1, h.2, by omega, by omega⟩).mpr w))) (fun q => kf (by rw [iI_0] at q; exact (iI_eq ⟨h.1, h.2, by omega, by omega⟩).mp q))
theorem z_if_lt (hx : p.tables.exec = Jvm.exec) (hb : c.code = cc) {a : Int} {off : Int} {tgt : Nat} (hdg : decode cc pc = .ok (.ifCond .lt off, 3)) (ht : (pc : Int) + off = (tgt : Int)) (h : -2147483648 ≤ a ∧ a ≤ 2147483647)
    (kt : a < 0 → W p l e R s m args below meth c H locs cells slots Q (F0 m tgt ls rest)) (kf : 0 ≤ a → W p l e R s m args below meth c H locs cells slots Q (F0 m (pc + 3) ls rest)) : W p l e R s m args below meth c H locs cells slots Q (F0 m pc ls (.int (iI a) :: rest)) :=
  lv_if_lt hx hb hdg ht (fun q => kt (by rw [iI_0] at q; exact (iI_lt ⟨h.1, h.2, by omega, by omega⟩).mp q)) (fun q => kf (Int.not_lt.mp (fun w => q (by rw [iI_0]; exact (iI_lt ⟨h.1, h.2, by omega, by omega⟩).mpr w))))
theorem z_if_ge (hx : p.tables.exec = Jvm.exec) (hb : c.code = cc) {a : Int} {off : Int} {tgt : Nat} (hdg : decode cc pc = .ok (.ifCond .ge off, 3)) (ht : (pc : Int) + off = (tgt : Int)) (h : -2147483648 ≤ a ∧ a ≤ 2147483647)
    (kt : 0 ≤ a → W p l e R s m args below meth c H locs cells slots Q (F0 m tgt ls rest)) (kf : a < 0 → W p l e R s m args below meth c H locs cells slots Q (F0 m (pc + 3) ls rest)) : W p l e R s m args below meth c H locs cells slots Q (F0 m pc ls (.int (iI a) :: rest)) :=
  lv_if_ge hx hb hdg ht (fun q => kt (by rw [iI_0] at q; exact (iI_le ⟨by omega, by omega, h.1, h.2⟩).mp q)) (fun q => kf (Int.not_le.mp (fun w => q (by rw [iI_0]; exact (iI_le ⟨by omega, by omega, h.1, h.2⟩).mpr w))))
theorem z_if_gt (hx : p.tables.exec = Jvm.exec) (hb : c.code = cc) {a : Int} {off : Int} {tgt : Nat} (hdg : decode cc pc = .ok (.ifCond .gt off, 3)) (ht : (pc : Int) + off = (tgt : Int)) (h : -2147483648 ≤ a ∧ a ≤ 2147483647)
    (kt : 0 < a → W p l e R s m args below meth c H locs cells slots Q (F0 m tgt ls rest)) (kf : a ≤ 0 → W p l e R s m args below meth c H locs cells slots Q (F0 m (pc + 3) ls rest)) : W p l e R s m args below meth c H locs cells slots Q (F0 m pc ls (.int (iI a) :: rest)) :=
  lv_if_gt hx hb hdg ht (fun q => kt (by rw [iI_0] at q; exact (iI_lt ⟨by omega, by omega, h.1, h.2⟩).mp q)) (fun q => kf (Int.not_lt.mp (fun w => q (by rw [iI_0]; exact (iI_lt ⟨by omega, by omega, h.1, h.2⟩).mpr w))))
theorem z_if_le (hx : p.tables.exec = Jvm.exec) (hb : c.code = cc) {a : Int} {off : Int} {tgt : Nat} (hdg : decode cc pc = .ok (.ifCond .le off, 3)) (ht : (pc : Int) + off = (tgt : Int)) (h : -2147483648 ≤ a ∧ a ≤ 2147483647)
    (kt : a ≤ 0 → W p l e R s m args below meth c H locs cells slots Q (F0 m tgt ls rest)) (kf : 0 < a → W p l e R s m args below meth c H locs cells slots Q (F0 m (pc + 3) ls rest)) : W p l e R s m args below meth c H locs cells slots Q (F0 m pc ls (.int (iI a) :: rest)) :=
  lv_if_le hx hb hdg ht (fun q => kt (by rw [iI_0] at q; exact (iI_le ⟨h.1, h.2, by omega, by omega⟩).mp q)) (fun q => kf (Int.not_le.mp (fun w => q (by rw [iI_0]; exact (iI_le ⟨h.1, h.2, by omega, by omega⟩).mpr w))))
theorem z_ineg (hx : p.tables.exec = Jvm.exec) (hb : c.code = cc) {a : Int} (hdg : decode cc pc = .ok (.ineg, 1)) (k : W p l e R s m args below meth c H locs cells slots Q (F0 m (pc + 1) ls (.int (iI (-a)) :: rest))) : W p l e R s m args below meth c H locs cells slots Q (F0 m pc ls (.int (iI a) :: rest)) :=
  lv_ineg hx hb hdg (by rw [show -iI a = iI (-a) from (Int32.ofInt_neg a).symm]; exact k)
theorem z_iinc (hx : p.tables.exec = Jvm.exec) (hb : c.code = cc) {i nL k : Nat} {n : Int} {a b : Int} {lv lv' : List (Nat × Value)} (hdg : decode cc pc = .ok (.iinc i n, 3)) (h : lv_has ls nL lv) (hk : lv[k]? = some (i, .int (iI a))) (hv : a + n = b) (hn : i < nL) (hl : (i, Value.int (iI b)) :: lv.filter (fun q => !(q.1 == i) && !(q.1 + 1 == i && q.2.category == 2)) = lv')
    (kk : ∀ ls' : Array Slot, lv_has ls' nL lv' → W p l e R s m args below meth c H locs cells slots Q (F0 m (pc + 3) ls' rest)) : W p l e R s m args below meth c H locs cells slots Q (F0 m pc ls rest) :=
  lv_iinc (v := iI b) hx hb hdg h hk (by rw [show Int32.ofInt n = iI n from rfl, iI_add, hv]) hn hl kk
end ZR
section ZA
variable {p : Program} {l : Launch} {e : Env} {R : Room} {s : State} {m : MethodId} {args : Array Value} {below : List Frame} {meth : Method} {c : Code} {H : Heap} {locs : List Loc} {cells slots : Nat} {Q : State → Prop} {cc : ByteArray} {pc : Nat} {ls : Array Slot} {rest : List Value}
variable {D : va_G} {cl : List vw_C} {tys : List (ClassId × FieldType)} {ws : va_W} {A : Nat → Prop} {H0 : Heap} {a : Nat} {cA : ClassId} {n : Nat} {F : Nat → Int}
theorem z_iald (hx : p.tables.exec = Jvm.exec) (hb : c.code = cc) (hK : va_K D cl tys s) (hP : va_P D cl ws H) (q0 t0 : Nat) (ha : ws[q0]? = some (a, .inl (cA, n, .inl (iA F)))) (ht : tys[t0]? = some (cA, .int)) {z : Int} (k : Nat) (h : z = (k : Int) ∧ k < n ∧ n ≤ 2147483647) (hdg : decode cc pc = .ok (.iaload, 1))
    (kk : W p l e R s m args below meth c H locs cells slots Q (F0 m (pc + 1) ls (.int (iI (F k)) :: rest))) : W p l e R s m args below meth c H locs cells slots Q (F0 m pc ls (.int (iI z) :: .ref a :: rest)) :=
  va_iald hx hb hK hP q0 t0 ha ht (iI_in h) hdg (by rw [iI_cl h.1 (by omega)]; exact kk)
theorem z_iast (hx : p.tables.exec = Jvm.exec) (hb : c.code = cc) (hK : va_K D cl tys s) (hP : va_P D cl ws H) (hD : va_D A ws) (hS : va_S A H0 H locs) (q0 t0 : Nat) (ha : ws[q0]? = some (a, .inl (cA, n, .inl (iA F)))) (ht : tys[t0]? = some (cA, .int)) {z v : Int} (k : Nat) (h : z = (k : Int) ∧ k < n ∧ n ≤ 2147483647) (hdg : decode cc pc = .ok (.iastore, 1))
    (kk : ∀ (H1 : Heap) (locs1 : List Loc), va_P D cl (ws.set q0 (a, .inl (cA, n, .inl (iA (zU F k v))))) H1 → va_D A (ws.set q0 (a, .inl (cA, n, .inl (iA (zU F k v))))) → va_S A H0 H1 locs1 → W p l e R s m args below meth c H1 locs1 cells slots Q (F0 m (pc + 1) ls rest)) : W p l e R s m args below meth c H locs cells slots Q (F0 m pc ls (.int (iI v) :: .int (iI z) :: .ref a :: rest)) :=
  va_iast hx hb hK hP hD hS q0 t0 ha ht (iI_in h) hdg (by rw [iI_cl h.1 (by omega), iA_upd]; exact kk)
theorem z_alen (hx : p.tables.exec = Jvm.exec) (hb : c.code = cc) (hK : va_K D cl tys s) (hP : va_P D cl ws H) (q0 t0 : Nat) (ha : ws[q0]? = some (a, .inl (cA, n, .inl (iA F)))) (ht : tys[t0]? = some (cA, .int)) (hdg : decode cc pc = .ok (.arraylength, 1))
    (kk : W p l e R s m args below meth c H locs cells slots Q (F0 m (pc + 1) ls (.int (iI (n : Int)) :: rest))) : W p l e R s m args below meth c H locs cells slots Q (F0 m pc ls (.ref a :: rest)) :=
  va_alen (x := (n, .inl (iA F))) hx hb hK hP q0 t0 ha ht (iI_nat n) hdg kk
theorem z_max (hx : p.tables.exec = Jvm.exec) (hb : c.code = cc) (hml : c.maxLocals = ls.size) {own : String} {index : Nat} (hown : s.vm.findClass own = some m.cls) (hlink : (Cond.methodLink own index Lib.Math.max.name).before args s = true) (hstat : (Cond.static Lib.Math.max.name).before args s = true) (hini : (Cond.initialized "java/lang/Math").before args s = true) (hcode : (Cond.code Lib.Math.max.name Lib.Math.max.code 2 (some .int)).before args s = true)
    (hframes : 1 ≤ R.frames) (hlocals : (rest.map fun v => v.category).sum + 13 ≤ R.locals) (hc : cells ≤ R.cells) (hs : slots ≤ R.slots) {x y : Int} (h : -2147483648 ≤ x ∧ x ≤ 2147483647 ∧ -2147483648 ≤ y ∧ y ≤ 2147483647) (hdg : decode cc pc = .ok (.invokestatic index, 3))
    (kk : W p l e R s m args below meth c H locs cells slots Q (F0 m (pc + 3) ls (.int (iI (max x y)) :: rest))) : W p l e R s m args below meth c H locs cells slots Q (F0 m pc ls (.int (iI y) :: .int (iI x) :: rest)) :=
  va_mmax hx hb hml hown hlink hstat hini hcode hframes hlocals hc hs hdg (by
    have q : (if iI x < iI y then iI y else iI x) = iI (max x y) := by
      by_cases g : x < y
      · rw [if_pos ((iI_lt h).mpr g), Int.max_eq_right (by omega)]
      · rw [if_neg (fun w => g ((iI_lt h).mp w)), Int.max_eq_left (by omega)]
    rw [q]; exact kk)
theorem z_min (hx : p.tables.exec = Jvm.exec) (hb : c.code = cc) (hml : c.maxLocals = ls.size) {own : String} {index : Nat} (hown : s.vm.findClass own = some m.cls) (hlink : (Cond.methodLink own index Lib.Math.min.name).before args s = true) (hstat : (Cond.static Lib.Math.min.name).before args s = true) (hini : (Cond.initialized "java/lang/Math").before args s = true) (hcode : (Cond.code Lib.Math.min.name Lib.Math.min.code 2 (some .int)).before args s = true)
    (hframes : 1 ≤ R.frames) (hlocals : (rest.map fun v => v.category).sum + 13 ≤ R.locals) (hc : cells ≤ R.cells) (hs : slots ≤ R.slots) {x y : Int} (h : -2147483648 ≤ x ∧ x ≤ 2147483647 ∧ -2147483648 ≤ y ∧ y ≤ 2147483647) (hdg : decode cc pc = .ok (.invokestatic index, 3))
    (kk : W p l e R s m args below meth c H locs cells slots Q (F0 m (pc + 3) ls (.int (iI (min x y)) :: rest))) : W p l e R s m args below meth c H locs cells slots Q (F0 m pc ls (.int (iI y) :: .int (iI x) :: rest)) :=
  va_mmin hx hb hml hown hlink hstat hini hcode hframes hlocals hc hs hdg (by
    have q : (if iI y < iI x then iI y else iI x) = iI (min x y) := by
      by_cases g : y < x
      · rw [if_pos ((iI_lt (by omega)).mpr g), Int.min_eq_right (by omega)]
      · rw [if_neg (fun w => g ((iI_lt (by omega)).mp w)), Int.min_eq_left (by omega)]
    rw [q]; exact kk)
theorem z_copy (hx : p.tables.exec = Jvm.exec) (hb : c.code = cc) (hml : c.maxLocals = ls.size) {own : String} {index : Nat} (hown : s.vm.findClass own = some m.cls) (hlink : (Cond.methodLink own index arraycopyName).before args s = true) (hnat : (Cond.native arraycopyName).before args s = true) (hstat : (Cond.static arraycopyName).before args s = true) (hini : (Cond.initialized "java/lang/System").before args s = true)
    (hK : va_K D cl tys s) (hP : va_P D cl ws H) (hD : va_D A ws) (hS : va_S A H0 H locs) (q0 q1 t0 : Nat) {a0 n0 : Nat} {G : Nat → Int} (ha0 : ws[q0]? = some (a0, .inl (cA, n0, .inl (iA G)))) (ha1 : ws[q1]? = some (a, .inl (cA, n, .inl (iA F)))) (ht0 : tys[t0]? = some (cA, .int))
    {sp dp nn : Int} (sk dk nk : Nat) (h : sp = (sk : Int) ∧ dp = (dk : Int) ∧ nn = (nk : Int) ∧ sk + nk ≤ n0 ∧ dk + nk ≤ n ∧ n0 ≤ 2147483647 ∧ n ≤ 2147483647)
    (hframes : 1 ≤ R.frames) (hlocals : (rest.map fun v => v.category).sum + (nativeFrameWords "java/lang/System" "arraycopy" 5 + 11) ≤ R.locals) (hdg : decode cc pc = .ok (.invokestatic index, 3))
    (kk : ∀ (H1 : Heap) (locs1 : List Loc), va_P D cl (ws.set q1 (a, .inl (cA, n, .inl (iA (zC G F sk dk nk))))) H1 → va_D A (ws.set q1 (a, .inl (cA, n, .inl (iA (zC G F sk dk nk))))) → va_S A H0 H1 locs1 → W p l e R s m args below meth c H1 locs1 cells slots Q (F0 m (pc + 3) ls rest)) : W p l e R s m args below meth c H locs cells slots Q (F0 m pc ls (.int (iI nn) :: .int (iI dp) :: .ref a :: .int (iI sp) :: .ref a0 :: rest)) := by
  obtain ⟨h1, h2, h3, h4, h5, h6, h7⟩ := h
  have nz : ∀ {z : Int} {k : Nat}, z = (k : Int) → k ≤ 2147483647 → ¬ iI z < 0 := by
    intro z k q1 q2 q3
    rw [iI_0, iI_lt (by omega)] at q3
    omega
  refine va_copyi (ty := .int) hx hb hml hown hlink hnat hstat hini hK hP hD hS q0 q1 t0 t0 ha0 ha1 ht0 ht0 rfl (nz h1 (by omega)) (nz h2 (by omega)) (nz h3 (by omega)) ?_ ?_ (fun _ _ => rfl) hframes hlocals hdg ?_
  · rw [iI_cl h1 (by omega), iI_cl h3 (by omega)]; exact h4
  · rw [iI_cl h2 (by omega), iI_cl h3 (by omega)]; exact h5
  · rw [iI_cl h1 (by omega), iI_cl h2 (by omega), iI_cl h3 (by omega), iA_cpy]; exact kk
end ZA
