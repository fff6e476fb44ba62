/-! Int rows: every int of the program is written iI x with x : Int -/
def iI (x : Int) : Int32 := Int32.ofInt x
abbrev ib (x : Int) : Prop := -2147483648 ≤ x ∧ x < 2147483648
theorem iI_add (a b : Int) : iI a + iI b = iI (a + b) := (Int32.ofInt_add a b).symm
theorem iI_sub (a b : Int) : iI a - iI b = iI (a - b) := (Int32.ofInt_sub a b).symm
theorem iI_mul (a b : Int) : iI a * iI b = iI (a * b) := (Int32.ofInt_mul a b).symm
theorem iI_toInt {x : Int} (h : ib x) : (iI x).toInt = x := Int32.toInt_ofInt_of_le (by have := h.1; omega) (by have := h.2; omega)
theorem iI_self (x : Int32) : iI x.toInt = x := Int32.ofInt_toInt x
theorem ib_self (x : Int32) : ib x.toInt := ⟨by have := Int32.le_toInt x; omega, by have := Int32.toInt_lt x; omega⟩
theorem iI_inj {x y : Int} (hx : ib x) (hy : ib y) : iI x = iI y ↔ x = y := by
  constructor
  · intro h
    have h2 : (iI x).toInt = (iI y).toInt := by rw [h]
    rw [iI_toInt hx, iI_toInt hy] at h2
    exact h2
  · intro h
    rw [h]
theorem iI_lt {x y : Int} (hx : ib x) (hy : ib y) : iI x < iI y ↔ x < y := by
  rw [Int32.lt_iff_toInt_lt, iI_toInt hx, iI_toInt hy]
theorem iI_le {x y : Int} (hx : ib x) (hy : ib y) : iI x ≤ iI y ↔ x ≤ y := by
  rw [Int32.le_iff_toInt_le, iI_toInt hx, iI_toInt hy]
theorem ib_0 : ib 0 := ⟨by omega, by omega⟩
theorem iI_0 : iI 0 = 0 := by decide
theorem iI_nI (n : Nat) : iI (n : Int) = nI n := by
  show Int32.ofInt (n : Int) = Int32.ofNat n
  simp [Int32.ofInt, Int32.ofNat]
theorem iI_nat {x : Int} (h : 0 ≤ x) : iI x = nI x.toNat := by
  rw [← iI_nI]
  congr 1
  omega
theorem iI_clamp {x : Int} (h : 0 ≤ x ∧ x < 2147483648) : (iI x).toNatClampNeg = x.toNat := by
  rw [iI_nat h.1]
  exact nI_clamp (by omega)
theorem iI_in {x : Int} {n : Nat} (h : 0 ≤ x ∧ x < (n : Int)) (hn : n < 2147483648) : vp_in (iI x) n := by
  rw [iI_nat h.1]
  exact vp_in_nI (by omega) (by omega)
theorem iI_div {x y : Int} (hx : 0 ≤ x ∧ x < 2147483648) (hy : 0 < y ∧ y < 2147483648) : iI x / iI y = iI (x / y) := by
  have h1 : x = ((x.toNat : Nat) : Int) := by omega
  have h2 : y = ((y.toNat : Nat) : Int) := by omega
  rw [iI_nat hx.1, iI_nat (by omega : 0 ≤ y), pk_div (by omega) (by omega) (by omega), ← iI_nI]
  congr 1
  rw [Int.natCast_ediv, ← h1, ← h2]
theorem iI_rem {x y : Int} (hx : 0 ≤ x ∧ x < 2147483648) (hy : 0 < y ∧ y < 2147483648) : iI x - iI x / iI y * iI y = iI (x % y) := by
  rw [iI_div hx hy, iI_mul, iI_sub]
  congr 1
  have := Int.mul_ediv_add_emod x y
  have h2 : x / y * y = y * (x / y) := Int.mul_comm _ _
  omega
/-- rows of numbers -/
def iA (a : Int → Int) : Nat → Int32 := fun j => iI (a (j : Int))
def uI (a : Int → Int) (k v : Int) : Int → Int := fun j => if j = k then v else a j
theorem uI_s (a : Int → Int) (k v : Int) : uI a k v k = v := by simp [uI]
theorem uI_n {a : Int → Int} {k v j : Int} (h : j ≠ k) : uI a k v j = a j := by simp [uI, h]
theorem iA_at (a : Int → Int) {x : Int} (h : 0 ≤ x ∧ x < 2147483648) : iA a (iI x).toNatClampNeg = iI (a x) := by
  rw [iI_clamp h]
  show iI (a ((x.toNat : Nat) : Int)) = _
  congr 2
  omega
theorem iA_upd (a : Int → Int) {x : Int} (h : 0 ≤ x ∧ x < 2147483648) (v : Int) : upd (iA a) (iI x).toNatClampNeg (iI v) = iA (uI a x v) := by
  rw [iI_clamp h]
  funext j
  show (if j = x.toNat then iI v else iI (a (j : Int))) = iI (if (j : Int) = x then v else a (j : Int))
  by_cases hj : j = x.toNat
  · rw [if_pos hj, if_pos (by omega)]
  · rw [if_neg hj, if_neg (by omega)]
theorem nar_z {v : Int} (h : v = 0 ∨ v = 1) : vp_nar .boolean (iI v) = iI v := by
  rcases h with rfl | rfl <;> decide
theorem nar_zI {v : Int} (h : v = 0 ∨ v = 1) : narrow .boolean (.int (iI v)) = .int (iI v) := by
  rcases h with rfl | rfl <;> decide
theorem fit_z {v : Int} (h : v = 0 ∨ v = 1) : fits .boolean (.int (iI v)) = true := by
  rcases h with rfl | rfl <;> decide
theorem nar_cI {v : Int} (h : 0 ≤ v ∧ v < 65536) : narrow .char (.int (iI v)) = .int (iI v) := by
  rw [iI_nat h.1]
  exact (pk_charN (by omega)).1
theorem nar_c {v : Int} (h : 0 ≤ v ∧ v < 65536) : vp_nar .char (iI v) = iI v := by
  show (match narrow .char (.int (iI v)) with | .int y => y | _ => 0) = iI v
  rw [nar_cI h]
/-- 1 for true, 0 for false -/
noncomputable def bI (q : Prop) : Int := @ite Int q (Classical.propDecidable q) 1 0
theorem bI_t {q : Prop} (h : q) : bI q = 1 := by
  unfold bI
  rw [if_pos h]
theorem bI_f {q : Prop} (h : ¬ q) : bI q = 0 := by
  unfold bI
  rw [if_neg h]
theorem bI_01 (q : Prop) : bI q = 0 ∨ bI q = 1 := (Classical.em q).elim (fun h => Or.inr (bI_t h)) (fun h => Or.inl (bI_f h))
theorem bI_ib (q : Prop) : ib (bI q) := by
  rcases bI_01 q with h | h <;> rw [h] <;> exact ⟨by omega, by omega⟩
theorem bI_0 {q : Prop} : bI q = 0 ↔ ¬ q := ⟨fun h hq => (by rw [bI_t hq] at h; cases h), bI_f⟩
theorem bI_1 {q : Prop} : ¬ bI q = 0 ↔ q := ⟨fun h => Classical.byContradiction fun hq => h (bI_f hq), fun hq h => by rw [bI_t hq] at h; cases h⟩
theorem bI_e1 {q : Prop} : bI q = 1 ↔ q := ⟨fun h => Classical.byContradiction fun hq => (by rw [bI_f hq] at h; cases h), bI_t⟩
theorem bI_c {q r : Prop} (h : q ↔ r) : bI q = bI r := by rw [propext h]
/-- how many of 0 .. n-1 -/
noncomputable def sumN (f : Int → Int) : Nat → Int
  | 0 => 0
  | n + 1 => sumN f n + f (n : Int)
theorem i2c_I {x : Int} (h : 0 ≤ x ∧ x < 65536) : ((iI x).toUInt32 % 65536).toInt32 = iI x := by
  rw [iI_nat h.1, pk_char, pk_tn (by omega)]
  congr 1
  omega
section ZW
variable {p : Program} {l : Launch} {e : Env} {R : Room} {s : State} {m : MethodId} {args : Array Value} {below : List Frame} {meth : Method} {c : Code} {H : Heap} {locs : List Loc} {cells slots : Nat} {Q : State → Prop}
variable {cc : ByteArray} {pc : Nat} {ls : Array Slot} {rest : List Value}
theorem z_iadd (hx : p.tables.exec = Jvm.exec) (hb : c.code = cc) {x y : Int} (hdg : decode cc pc = .ok (.iadd, 1)) (k : W p l e R s m args below meth c H locs cells slots Q (F0 m (pc + 1) ls (.int (iI (x + y)) :: rest))) : W p l e R s m args below meth c H locs cells slots Q (F0 m pc ls (.int (iI y) :: .int (iI x) :: rest)) := lv_iadd hx hb hdg (by rw [iI_add]; exact k)
theorem z_isub (hx : p.tables.exec = Jvm.exec) (hb : c.code = cc) {x y : Int} (hdg : decode cc pc = .ok (.isub, 1)) (k : W p l e R s m args below meth c H locs cells slots Q (F0 m (pc + 1) ls (.int (iI (x - y)) :: rest))) : W p l e R s m args below meth c H locs cells slots Q (F0 m pc ls (.int (iI y) :: .int (iI x) :: rest)) := lv_isub hx hb hdg (by rw [iI_sub]; exact k)
theorem z_imul (hx : p.tables.exec = Jvm.exec) (hb : c.code = cc) {x y : Int} (hdg : decode cc pc = .ok (.imul, 1)) (k : W p l e R s m args below meth c H locs cells slots Q (F0 m (pc + 1) ls (.int (iI (x * y)) :: rest))) : W p l e R s m args below meth c H locs cells slots Q (F0 m pc ls (.int (iI y) :: .int (iI x) :: rest)) := lv_imul hx hb hdg (by rw [iI_mul]; exact k)
theorem z_idiv (hx : p.tables.exec = Jvm.exec) (hb : c.code = cc) {x y : Int} (hdg : decode cc pc = .ok (.idiv, 1)) (h1 : 0 ≤ x ∧ x < 2147483648) (h2 : 0 < y ∧ y < 2147483648) (k : W p l e R s m args below meth c H locs cells slots Q (F0 m (pc + 1) ls (.int (iI (x / y)) :: rest))) : W p l e R s m args below meth c H locs cells slots Q (F0 m pc ls (.int (iI y) :: .int (iI x) :: rest)) := lv_idiv hx hb hdg (fun q => by rw [← iI_0, iI_inj ⟨by omega, by omega⟩ ib_0] at q; omega) (by rw [iI_div h1 h2]; exact k)
theorem z_irem (hx : p.tables.exec = Jvm.exec) (hb : c.code = cc) {x y : Int} (hdg : decode cc pc = .ok (.irem, 1)) (h1 : 0 ≤ x ∧ x < 2147483648) (h2 : 0 < y ∧ y < 2147483648) (k : W p l e R s m args below meth c H locs cells slots Q (F0 m (pc + 1) ls (.int (iI (x % y)) :: rest))) : W p l e R s m args below meth c H locs cells slots Q (F0 m pc ls (.int (iI y) :: .int (iI x) :: rest)) := lv_irem hx hb hdg (fun q => by rw [← iI_0, iI_inj ⟨by omega, by omega⟩ ib_0] at q; omega) (by rw [iI_rem h1 h2]; exact k)
theorem z_icmp_eq (hx : p.tables.exec = Jvm.exec) (hb : c.code = cc) {x y : Int} {off : Int} {tgt : Nat} (hdg : decode cc pc = .ok (.if_icmp .eq off, 3)) (ht : (pc : Int) + off = (tgt : Int)) (hxy : ib x ∧ ib y) (kt : x = y → W p l e R s m args below meth c H locs cells slots Q (F0 m tgt ls rest)) (kf : ¬ x = y → W p l e R s m args below meth c H locs cells slots Q (F0 m (pc + 3) ls rest)) : W p l e R s m args below meth c H locs cells slots Q (F0 m pc ls (.int (iI y) :: .int (iI x) :: rest)) := lv_icmp_eq hx hb hdg ht (fun h => kt ((iI_inj hxy.1 hxy.2).mp h)) (fun h => kf (fun q => h ((iI_inj hxy.1 hxy.2).mpr q)))
theorem z_icmp_ne (hx : p.tables.exec = Jvm.exec) (hb : c.code = cc) {x y : Int} {off : Int} {tgt : Nat} (hdg : decode cc pc = .ok (.if_icmp .ne off, 3)) (ht : (pc : Int) + off = (tgt : Int)) (hxy : ib x ∧ ib y) (kt : ¬ x = y → W p l e R s m args below meth c H locs cells slots Q (F0 m tgt ls rest)) (kf : x = y → W p l e R s m args below meth c H locs cells slots Q (F0 m (pc + 3) ls rest)) : W p l e R s m args below meth c H locs cells slots Q (F0 m pc ls (.int (iI y) :: .int (iI x) :: rest)) := lv_icmp_ne hx hb hdg ht (fun h => kt (fun q => h ((iI_inj hxy.1 hxy.2).mpr q))) (fun h => kf ((iI_inj hxy.1 hxy.2).mp h))
theorem z_icmp_lt (hx : p.tables.exec = Jvm.exec) (hb : c.code = cc) {x y : Int} {off : Int} {tgt : Nat} (hdg : decode cc pc = .ok (.if_icmp .lt off, 3)) (ht : (pc : Int) + off = (tgt : Int)) (hxy : ib x ∧ ib y) (kt : x < y → W p l e R s m args below meth c H locs cells slots Q (F0 m tgt ls rest)) (kf : ¬ x < y → W p l e R s m args below meth c H locs cells slots Q (F0 m (pc + 3) ls rest)) : W p l e R s m args below meth c H locs cells slots Q (F0 m pc ls (.int (iI y) :: .int (iI x) :: rest)) := lv_icmp_lt hx hb hdg ht (fun h => kt ((iI_lt hxy.1 hxy.2).mp h)) (fun h => kf (fun q => h ((iI_lt hxy.1 hxy.2).mpr q)))
theorem z_icmp_ge (hx : p.tables.exec = Jvm.exec) (hb : c.code = cc) {x y : Int} {off : Int} {tgt : Nat} (hdg : decode cc pc = .ok (.if_icmp .ge off, 3)) (ht : (pc : Int) + off = (tgt : Int)) (hxy : ib x ∧ ib y) (kt : y ≤ x → W p l e R s m args below meth c H locs cells slots Q (F0 m tgt ls rest)) (kf : ¬ y ≤ x → W p l e R s m args below meth c H locs cells slots Q (F0 m (pc + 3) ls rest)) : W p l e R s m args below meth c H locs cells slots Q (F0 m pc ls (.int (iI y) :: .int (iI x) :: rest)) := lv_icmp_ge hx hb hdg ht (fun h => kt ((iI_le hxy.2 hxy.1).mp h)) (fun h => kf (fun q => h ((iI_le hxy.2 hxy.1).mpr q)))
theorem z_icmp_gt (hx : p.tables.exec = Jvm.exec) (hb : c.code = cc) {x y : Int} {off : Int} {tgt : Nat} (hdg : decode cc pc = .ok (.if_icmp .gt off, 3)) (ht : (pc : Int) + off = (tgt : Int)) (hxy : ib x ∧ ib y) (kt : y < x → W p l e R s m args below meth c H locs cells slots Q (F0 m tgt ls rest)) (kf : ¬ y < x → W p l e R s m args below meth c H locs cells slots Q (F0 m (pc + 3) ls rest)) : W p l e R s m args below meth c H locs cells slots Q (F0 m pc ls (.int (iI y) :: .int (iI x) :: rest)) := lv_icmp_gt hx hb hdg ht (fun h => kt ((iI_lt hxy.2 hxy.1).mp h)) (fun h => kf (fun q => h ((iI_lt hxy.2 hxy.1).mpr q)))
theorem z_icmp_le (hx : p.tables.exec = Jvm.exec) (hb : c.code = cc) {x y : Int} {off : Int} {tgt : Nat} (hdg : decode cc pc = .ok (.if_icmp .le off, 3)) (ht : (pc : Int) + off = (tgt : Int)) (hxy : ib x ∧ ib y) (kt : x ≤ y → W p l e R s m args below meth c H locs cells slots Q (F0 m tgt ls rest)) (kf : ¬ x ≤ y → W p l e R s m args below meth c H locs cells slots Q (F0 m (pc + 3) ls rest)) : W p l e R s m args below meth c H locs cells slots Q (F0 m pc ls (.int (iI y) :: .int (iI x) :: rest)) := lv_icmp_le hx hb hdg ht (fun h => kt ((iI_le hxy.1 hxy.2).mp h)) (fun h => kf (fun q => h ((iI_le hxy.1 hxy.2).mpr q)))
theorem z_if_eq (hx : p.tables.exec = Jvm.exec) (hb : c.code = cc) {x : Int} {off : Int} {tgt : Nat} (hdg : decode cc pc = .ok (.ifCond .eq off, 3)) (ht : (pc : Int) + off = (tgt : Int)) (hxy : ib x) (kt : x = 0 → W p l e R s m args below meth c H locs cells slots Q (F0 m tgt ls rest)) (kf : ¬ x = 0 → W p l e R s m args below meth c H locs cells slots Q (F0 m (pc + 3) ls rest)) : W p l e R s m args below meth c H locs cells slots Q (F0 m pc ls (.int (iI x) :: rest)) := lv_if_eq hx hb hdg ht (fun h => kt ((iI_inj hxy ib_0).mp (by rw [iI_0]; exact h))) (fun h => kf (fun q => h (by have q2 := (iI_inj hxy ib_0).mpr q; rw [iI_0] at q2; exact q2)))
theorem z_if_ne (hx : p.tables.exec = Jvm.exec) (hb : c.code = cc) {x : Int} {off : Int} {tgt : Nat} (hdg : decode cc pc = .ok (.ifCond .ne off, 3)) (ht : (pc : Int) + off = (tgt : Int)) (hxy : ib x) (kt : ¬ x = 0 → W p l e R s m args below meth c H locs cells slots Q (F0 m tgt ls rest)) (kf : x = 0 → W p l e R s m args below meth c H locs cells slots Q (F0 m (pc + 3) ls rest)) : W p l e R s m args below meth c H locs cells slots Q (F0 m pc ls (.int (iI x) :: rest)) := lv_if_ne hx hb hdg ht (fun h => kt (fun q => h (by have q2 := (iI_inj hxy ib_0).mpr q; rw [iI_0] at q2; exact q2))) (fun h => kf ((iI_inj hxy ib_0).mp (by rw [iI_0]; exact h)))
theorem z_if_lt (hx : p.tables.exec = Jvm.exec) (hb : c.code = cc) {x : Int} {off : Int} {tgt : Nat} (hdg : decode cc pc = .ok (.ifCond .lt off, 3)) (ht : (pc : Int) + off = (tgt : Int)) (hxy : ib x) (kt : x < 0 → W p l e R s m args below meth c H locs cells slots Q (F0 m tgt ls rest)) (kf : ¬ x < 0 → W p l e R s m args below meth c H locs cells slots Q (F0 m (pc + 3) ls rest)) : W p l e R s m args below meth c H locs cells slots Q (F0 m pc ls (.int (iI x) :: rest)) := lv_if_lt hx hb hdg ht (fun h => kt ((iI_lt hxy ib_0).mp (by rw [iI_0]; exact h))) (fun h => kf (fun q => h (by have q2 := (iI_lt hxy ib_0).mpr q; rw [iI_0] at q2; exact q2)))
theorem z_if_ge (hx : p.tables.exec = Jvm.exec) (hb : c.code = cc) {x : Int} {off : Int} {tgt : Nat} (hdg : decode cc pc = .ok (.ifCond .ge off, 3)) (ht : (pc : Int) + off = (tgt : Int)) (hxy : ib x) (kt : 0 ≤ x → W p l e R s m args below meth c H locs cells slots Q (F0 m tgt ls rest)) (kf : ¬ 0 ≤ x → W p l e R s m args below meth c H locs cells slots Q (F0 m (pc + 3) ls rest)) : W p l e R s m args below meth c H locs cells slots Q (F0 m pc ls (.int (iI x) :: rest)) := lv_if_ge hx hb hdg ht (fun h => kt ((iI_le ib_0 hxy).mp (by rw [iI_0]; exact h))) (fun h => kf (fun q => h (by have q2 := (iI_le ib_0 hxy).mpr q; rw [iI_0] at q2; exact q2)))
theorem z_if_gt (hx : p.tables.exec = Jvm.exec) (hb : c.code = cc) {x : Int} {off : Int} {tgt : Nat} (hdg : decode cc pc = .ok (.ifCond .gt off, 3)) (ht : (pc : Int) + off = (tgt : Int)) (hxy : ib x) (kt : 0 < x → W p l e R s m args below meth c H locs cells slots Q (F0 m tgt ls rest)) (kf : ¬ 0 < x → W p l e R s m args below meth c H locs cells slots Q (F0 m (pc + 3) ls rest)) : W p l e R s m args below meth c H locs cells slots Q (F0 m pc ls (.int (iI x) :: rest)) := lv_if_gt hx hb hdg ht (fun h => kt ((iI_lt ib_0 hxy).mp (by rw [iI_0]; exact h))) (fun h => kf (fun q => h (by have q2 := (iI_lt ib_0 hxy).mpr q; rw [iI_0] at q2; exact q2)))
theorem z_if_le (hx : p.tables.exec = Jvm.exec) (hb : c.code = cc) {x : Int} {off : Int} {tgt : Nat} (hdg : decode cc pc = .ok (.ifCond .le off, 3)) (ht : (pc : Int) + off = (tgt : Int)) (hxy : ib x) (kt : x ≤ 0 → W p l e R s m args below meth c H locs cells slots Q (F0 m tgt ls rest)) (kf : ¬ x ≤ 0 → W p l e R s m args below meth c H locs cells slots Q (F0 m (pc + 3) ls rest)) : W p l e R s m args below meth c H locs cells slots Q (F0 m pc ls (.int (iI x) :: rest)) := lv_if_le hx hb hdg ht (fun h => kt ((iI_le hxy ib_0).mp (by rw [iI_0]; exact h))) (fun h => kf (fun q => h (by have q2 := (iI_le hxy ib_0).mpr q; rw [iI_0] at q2; exact q2)))
theorem z_b_eq (hx : p.tables.exec = Jvm.exec) (hb : c.code = cc) {q : Prop} {off : Int} {tgt : Nat} (hdg : decode cc pc = .ok (.ifCond .eq off, 3)) (ht : (pc : Int) + off = (tgt : Int)) (kt : ¬ q → W p l e R s m args below meth c H locs cells slots Q (F0 m tgt ls rest)) (kf : q → W p l e R s m args below meth c H locs cells slots Q (F0 m (pc + 3) ls rest)) : W p l e R s m args below meth c H locs cells slots Q (F0 m pc ls (.int (iI (bI q)) :: rest)) := z_if_eq hx hb hdg ht (bI_ib q) (fun h => kt (bI_0.mp h)) (fun h => kf (bI_1.mp h))
theorem z_b_ne (hx : p.tables.exec = Jvm.exec) (hb : c.code = cc) {q : Prop} {off : Int} {tgt : Nat} (hdg : decode cc pc = .ok (.ifCond .ne off, 3)) (ht : (pc : Int) + off = (tgt : Int)) (kt : q → W p l e R s m args below meth c H locs cells slots Q (F0 m tgt ls rest)) (kf : ¬ q → W p l e R s m args below meth c H locs cells slots Q (F0 m (pc + 3) ls rest)) : W p l e R s m args below meth c H locs cells slots Q (F0 m pc ls (.int (iI (bI q)) :: rest)) := z_if_ne hx hb hdg ht (bI_ib q) (fun h => kt (bI_1.mp h)) (fun h => kf (bI_0.mp h))
variable {D : va_G} {cl : List vw_C} {A : Nat → Prop} {a : Nat} {tys : List (ClassId × FieldType)} {ws : va_W} {H0 : Heap}
theorem z_iald (hx : p.tables.exec = Jvm.exec) (hb : c.code = cc) (hK : va_K D cl tys s) (hP : va_P D cl ws H) (q0 t0 : Nat) {cA : ClassId} {n : Nat} {f : Int → Int} (ha : ws[q0]? = some (a, .inl (cA, n, .inl (iA f)))) (ht : tys[t0]? = some (cA, .int)) {x : Int} (hin : 0 ≤ x ∧ x < (n : Int)) (hn : n < 2147483648) (hdg : decode cc pc = .ok (.iaload, 1)) (kk : W p l e R s m args below meth c H locs cells slots Q (F0 m (pc + 1) ls (.int (iI (f x)) :: rest))) : W p l e R s m args below meth c H locs cells slots Q (F0 m pc ls (.int (iI x) :: .ref a :: rest)) := va_iald hx hb hK hP q0 t0 ha ht (iI_in hin hn) hdg (by rw [iA_at f ⟨hin.1, by omega⟩]; exact kk)
theorem z_zald (hx : p.tables.exec = Jvm.exec) (hb : c.code = cc) (hK : va_K D cl tys s) (hP : va_P D cl ws H) (q0 t0 : Nat) {cA : ClassId} {n : Nat} {f : Int → Int} (ha : ws[q0]? = some (a, .inl (cA, n, .inl (iA f)))) (ht : tys[t0]? = some (cA, .boolean)) {x : Int} (hin : 0 ≤ x ∧ x < (n : Int)) (hn : n < 2147483648) (hdg : decode cc pc = .ok (.baload, 1)) (kk : W p l e R s m args below meth c H locs cells slots Q (F0 m (pc + 1) ls (.int (iI (f x)) :: rest))) : W p l e R s m args below meth c H locs cells slots Q (F0 m pc ls (.int (iI x) :: .ref a :: rest)) := va_zald hx hb hK hP q0 t0 ha ht (iI_in hin hn) hdg (by rw [iA_at f ⟨hin.1, by omega⟩]; exact kk)
theorem z_cald (hx : p.tables.exec = Jvm.exec) (hb : c.code = cc) (hK : va_K D cl tys s) (hP : va_P D cl ws H) (q0 t0 : Nat) {cA : ClassId} {n : Nat} {f : Int → Int} (ha : ws[q0]? = some (a, .inl (cA, n, .inl (iA f)))) (ht : tys[t0]? = some (cA, .char)) {x : Int} (hin : 0 ≤ x ∧ x < (n : Int)) (hn : n < 2147483648) (hdg : decode cc pc = .ok (.caload, 1)) (kk : W p l e R s m args below meth c H locs cells slots Q (F0 m (pc + 1) ls (.int (iI (f x)) :: rest))) : W p l e R s m args below meth c H locs cells slots Q (F0 m pc ls (.int (iI x) :: .ref a :: rest)) := va_cald hx hb hK hP q0 t0 ha ht (iI_in hin hn) hdg (by rw [iA_at f ⟨hin.1, by omega⟩]; exact kk)
theorem z_iast (hx : p.tables.exec = Jvm.exec) (hb : c.code = cc) (hK : va_K D cl tys s) (hP : va_P D cl ws H) (hD : va_D A ws) (hS : va_S A H0 H locs) (q0 t0 : Nat) {cA : ClassId} {n : Nat} {f : Int → Int} (ha : ws[q0]? = some (a, .inl (cA, n, .inl (iA f)))) (ht : tys[t0]? = some (cA, .int)) {x v : Int} (hin : 0 ≤ x ∧ x < (n : Int)) (hn : n < 2147483648) (hdg : decode cc pc = .ok (.iastore, 1)) (kk : ∀ (H1 : Heap) (locs1 : List Loc), va_P D cl (ws.set q0 (a, .inl (cA, n, .inl (iA (uI f x v))))) H1 → va_D A (ws.set q0 (a, .inl (cA, n, .inl (iA (uI f x v))))) → va_S A H0 H1 locs1 → W p l e R s m args below meth c H1 locs1 cells slots Q (F0 m (pc + 1) ls rest)) : W p l e R s m args below meth c H locs cells slots Q (F0 m pc ls (.int (iI v) :: .int (iI x) :: .ref a :: rest)) := va_iast hx hb hK hP hD hS q0 t0 ha ht (iI_in hin hn) hdg (fun H1 locs1 h1 h2 h3 => by
  rw [iA_upd f ⟨hin.1, by omega⟩] at h1 h2
  exact kk H1 locs1 h1 h2 h3)
theorem z_zast (hx : p.tables.exec = Jvm.exec) (hb : c.code = cc) (hK : va_K D cl tys s) (hP : va_P D cl ws H) (hD : va_D A ws) (hS : va_S A H0 H locs) (q0 t0 : Nat) {cA : ClassId} {n : Nat} {f : Int → Int} (ha : ws[q0]? = some (a, .inl (cA, n, .inl (iA f)))) (ht : tys[t0]? = some (cA, .boolean)) {x v : Int} (hin : 0 ≤ x ∧ x < (n : Int)) (hn : n < 2147483648) (hv : (v = 0 ∨ v = 1)) (hdg : decode cc pc = .ok (.bastore, 1)) (kk : ∀ (H1 : Heap) (locs1 : List Loc), va_P D cl (ws.set q0 (a, .inl (cA, n, .inl (iA (uI f x v))))) H1 → va_D A (ws.set q0 (a, .inl (cA, n, .inl (iA (uI f x v))))) → va_S A H0 H1 locs1 → W p l e R s m args below meth c H1 locs1 cells slots Q (F0 m (pc + 1) ls rest)) : W p l e R s m args below meth c H locs cells slots Q (F0 m pc ls (.int (iI v) :: .int (iI x) :: .ref a :: rest)) := va_zast hx hb hK hP hD hS q0 t0 ha ht (iI_in hin hn) hdg (fun H1 locs1 h1 h2 h3 => by
  rw [nar_z hv, iA_upd f ⟨hin.1, by omega⟩] at h1 h2
  exact kk H1 locs1 h1 h2 h3)
theorem z_cast (hx : p.tables.exec = Jvm.exec) (hb : c.code = cc) (hK : va_K D cl tys s) (hP : va_P D cl ws H) (hD : va_D A ws) (hS : va_S A H0 H locs) (q0 t0 : Nat) {cA : ClassId} {n : Nat} {f : Int → Int} (ha : ws[q0]? = some (a, .inl (cA, n, .inl (iA f)))) (ht : tys[t0]? = some (cA, .char)) {x v : Int} (hin : 0 ≤ x ∧ x < (n : Int)) (hn : n < 2147483648) (hv : (0 ≤ v ∧ v < 65536)) (hdg : decode cc pc = .ok (.castore, 1)) (kk : ∀ (H1 : Heap) (locs1 : List Loc), va_P D cl (ws.set q0 (a, .inl (cA, n, .inl (iA (uI f x v))))) H1 → va_D A (ws.set q0 (a, .inl (cA, n, .inl (iA (uI f x v))))) → va_S A H0 H1 locs1 → W p l e R s m args below meth c H1 locs1 cells slots Q (F0 m (pc + 1) ls rest)) : W p l e R s m args below meth c H locs cells slots Q (F0 m pc ls (.int (iI v) :: .int (iI x) :: .ref a :: rest)) := va_cast hx hb hK hP hD hS q0 t0 ha ht (iI_in hin hn) hdg (fun H1 locs1 h1 h2 h3 => by
  rw [nar_c hv, iA_upd f ⟨hin.1, by omega⟩] at h1 h2
  exact kk H1 locs1 h1 h2 h3)
theorem z_tsw (hx : p.tables.exec = Jvm.exec) (hb : c.code = cc) {dflt lo hi : Int} {offs : Array Int} {len N : Nat} {x : Int} {tgt : Nat} (hdg : decode cc pc = .ok (.tableswitch dflt lo hi offs, len)) (hi9 : ib x) (offs_len : offs.size = N) (h : (x < lo ∨ hi < x) ∨ (lo ≤ x ∧ x ≤ hi ∧ offs[(x - lo).toNat]? = some dflt)) (ht : (pc : Int) + dflt = (tgt : Int)) (k : W p l e R s m args below meth c H locs cells slots Q (F0 m tgt ls rest)) : W p l e R s m args below meth c H locs cells slots Q (F0 m pc ls (.int (iI x) :: rest)) := by
  rcases h with h | ⟨h1, h2, h3⟩
  · exact lv_tableOut hx hb hdg (by rw [iI_toInt hi9]; exact h) ht k
  · exact lv_tableIn hx hb hdg (by rw [iI_toInt hi9]; omega) (by rw [iI_toInt hi9]; omega) (by rw [iI_toInt hi9]; exact h3) ht k
end ZW
theorem sum_t {f : Int → Int} {i : Nat} {q : Prop} {c : Int} (hc : c = sumN f i) (hf : f (i : Int) = bI q) (h : q) : c + 1 = sumN f (i + 1) := by
  rw [sumN, ← hc, hf, bI_t h]
theorem sum_f {f : Int → Int} {i : Nat} {q : Prop} {c : Int} (hc : c = sumN f i) (hf : f (i : Int) = bI q) (h : ¬ q) : c = sumN f (i + 1) := by
  rw [sumN, ← hc, hf, bI_f h]
  omega
