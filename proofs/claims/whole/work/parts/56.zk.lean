/-! THE CLAIM OUT OF ONE WALK OF THE LAW'S BODY. Your part is whole_start (and what it stands on); all else here is the same for every law, but numbers. -/
def R_law : String := "ForeignKeyStoreLaw"
def lw_P (b : Addr) (xs : List Int32) (args : Array Value) (s : State) : Prop := args = #[.ref b] ∧ s.IntsAt b xs ∧ xs.length ≤ 3072 ∧ (Jvm.Cond.and given_1 narrow_1).before args s = true
def lw_Q (_ : Array Value) (s : State) (o : Outcome) (t : State) : Prop := o = .returned (some (.int 1)) ∧ Framed s o t [] 601024 7293034
def lw_Z (below : List Frame) (a : Array Value) (s : State) : State → Prop := fun t => ∃ o, t.status = .running ∧ Ended t below o ∧ lw_Q a s o t
/-- the law's own end, with 1 on the stack, nothing written that was there before, its room as the claim has it -/
theorem lw_ret {p : Program} {l : Launch} {e : Env} {s : State} {m : MethodId} {below : List Frame} {meth : Method} {c : Code} {b : Nat} (hx : p.tables.exec = Jvm.exec) (hb : c.code = code) (hr : meth.sig.returnType = ret) (hlocks : meth.locks = false) {pc : Nat} {H : Heap} {ls : Array Slot} (hdg : decode code pc = .ok (.ireturn, 1)) : W p l e room_1 s m #[Value.ref b] below meth c H [] 601024 7293034 (lw_Z below #[Value.ref b] s) (F0 m pc ls [.int 1]) := by
  intro T hT X
  obtain ⟨fs, hret, hrun, hended, hW, hframe⟩ := X.leave (v := some (.int 1)) (hlocks := hlocks) (fun h => by rw [hr] at h; cases h)
  have hmeth' : T.vm.method? m = some meth := X.method'
  refine ⟨T.setFrames fs, ?_, .returned (some (.int 1)), hrun, hended, rfl, ⟨_, rfl⟩, hW, hframe⟩
  jvm_step X.here [X.here.top, hx, hb, hdg, hmeth', hr, ret, narrow_b1]
  (try refine ⟨rfl, ?_⟩); (try refine ⟨rfl, ?_⟩)
  first | (intro acts; rw [hret _ acts rfl rfl rfl]) | rw [hret _ _ rfl rfl rfl]
  exact Steps.refl _
/-- what holds at the law's entry: the machine, the code, the tables' words (any of lw_tbl by 'hts w (by decide +kernel)'), the script of L ints xs at the cell b, what the Statement gives of the start (any of its parts by flat_of_before) -/
def lw_At (p : Program) (s : State) (m : MethodId) (meth : Method) (c : Code) (b L : Nat) (xs : Nat → Int32) : Prop :=
  p.tables.exec = Jvm.exec ∧ c.code = code ∧ meth.sig.returnType = ret ∧ c.maxLocals = 7 ∧ s.vm.findClass R_law = some m.cls ∧ (∀ w ∈ lw_tbl, w.before #[Value.ref b] s = true) ∧ va_X b L xs s s.heap ∧ b < s.heap.size ∧ meth.locks = false ∧ (Jvm.Cond.and given_1 narrow_1).before #[Value.ref b] s = true
theorem and31 (x : Int) : iI x &&& iI 31 = iI (x % 32) := by
  apply Int32.toBitVec_inj.mp
  apply BitVec.eq_of_toNat_eq
  have e1 : (iI 31).toBitVec.toNat = 2 ^ 5 - 1 := by decide
  rw [Int32.toBitVec_and, BitVec.toNat_and, e1, Nat.and_two_pow_sub_one_eq_mod]
  show (BitVec.ofInt 32 x).toNat % 2 ^ 5 = (BitVec.ofInt 32 (x % 32)).toNat
  rw [BitVec.toNat_ofInt, BitVec.toNat_ofInt]
  omega
theorem and31_b (x : Int) : 0 ≤ x % 32 ∧ x % 32 < 32 := by omega
/-- an int of the script -/
def sc (xs : Nat → Int32) (k : Nat) : Int := (xs k).toInt
theorem sc_b (xs : Nat → Int32) (k : Nat) : -2147483648 ≤ sc xs k ∧ sc xs k < 2147483648 := ib_self _
section ZLW
variable {p : Program} {l : Launch} {e : Env} {R : Room} {s : State} {m : MethodId} {args : Array Value} {below : List Frame} {meth : Method} {c : Code} {H H0 : Heap} {locs : List Loc} {cells slots : Nat} {Q : State → Prop}
variable {cc : ByteArray} {pc : Nat} {ls : Array Slot} {rest : List Value} {A : Nat → Prop}
theorem z_and31 (hx : p.tables.exec = Jvm.exec) (hb : c.code = cc) {x : Int} (hdg : decode cc pc = .ok (.iand, 1)) (kk : W p l e R s m args below meth c H locs cells slots Q (F0 m (pc + 1) ls (.int (iI (x % 32)) :: rest))) : W p l e R s m args below meth c H locs cells slots Q (F0 m pc ls (.int (iI 31) :: .int (iI x) :: rest)) := lv_iand hx hb hdg (by rw [and31]; exact kk)
theorem z_sld (hx : p.tables.exec = Jvm.exec) (hb : c.code = cc) {b L : Nat} {xs : Nat → Int32} (hX : va_X b L xs s H0) (hbl : b < H0.size) (hbA : ¬ A b) (hS : va_S A H0 H locs) (k : Nat) {x : Int} (hk : x = (k : Int)) (hL : k < L) (hL2 : L ≤ 3072) (hdg : decode cc pc = .ok (.iaload, 1))
    (kk : W p l e R s m args below meth c H locs cells slots Q (F0 m (pc + 1) ls (.int (iI (sc xs k)) :: rest))) : W p l e R s m args below meth c H locs cells slots Q (F0 m pc ls (.int (iI x) :: .ref b :: rest)) := by
  subst hk
  refine va_sld hx hb hX hbl hbA hS (iI_in ⟨by omega, by omega⟩ (by omega)) hdg ?_
  rw [iI_clamp ⟨by omega, by omega⟩, Int.toNat_natCast, ← iI_self (xs k)]
  exact kk
theorem z_slen (hx : p.tables.exec = Jvm.exec) (hb : c.code = cc) {b L : Nat} {xs : Nat → Int32} (hX : va_X b L xs s H0) (hbl : b < H0.size) (hbA : ¬ A b) (hS : va_S A H0 H locs) (hdg : decode cc pc = .ok (.arraylength, 1))
    (kk : W p l e R s m args below meth c H locs cells slots Q (F0 m (pc + 1) ls (.int (iI (L : Int)) :: rest))) : W p l e R s m args below meth c H locs cells slots Q (F0 m pc ls (.ref b :: rest)) := by
  refine va_slen hx hb hX hbl hbA hS hdg ?_
  rw [iI_nI] at kk
  exact kk
theorem z_lcmpE (hx : p.tables.exec = Jvm.exec) (hb : c.code = cc) {x y : Int64} (h : x = y) (hdg : decode cc pc = .ok (.lcmp, 1))
    (kk : W p l e R s m args below meth c H locs cells slots Q (F0 m (pc + 1) ls (.int (iI 0) :: rest))) : W p l e R s m args below meth c H locs cells slots Q (F0 m pc ls (.long y :: .long x :: rest)) := by
  subst h
  refine W.lcmp hx hb hdg ?_
  have e1 : lg_cmp x x = iI 0 := by rw [iI_0]; simp [lg_cmp]
  rw [e1]
  exact kk
end ZLW
/-- what the calls so far can have cost: c calls, m the longest text, tl the text, N the bound -/
def bgt (c m tl N : Int) : Prop := (0 ≤ tl ∧ tl ≤ m ∧ m ≤ c ∧ m ≤ 80) ∧ ((m ≤ 70 ∧ N ≤ 240 + 28 * (c - m)) ∨ (71 ≤ m ∧ N ≤ 240 + 36 * (c - 71)))
theorem bgt_0 : bgt 0 0 0 240 := ⟨by omega, by omega⟩
theorem bgt_c {c m tl N N1 : Int} (h : bgt c m tl N) (h1 : N1 ≤ N + 4) : bgt (c + 1) m tl N1 := ⟨by have := h.1; omega, by have := h.1; have := h.2; omega⟩
theorem bgt_t {c m tl N : Int} (h : bgt c m tl N) : bgt (c + 1) m tl (N + 4 * ((tl + 1) / 9)) := ⟨by have := h.1; omega, by have := h.1; have := h.2; omega⟩
theorem bgt_z {c m tl N : Int} (h : bgt c m tl N) : bgt (c + 1) m 0 N := ⟨by have := h.1; omega, by have := h.1; have := h.2; omega⟩
theorem bgt_a {c m tl N : Int} (h : bgt c m tl N) (h1 : tl < 80) : ∃ m1, bgt (c + 1) m1 (tl + 1) N := by
  by_cases q : tl < m
  · exact ⟨m, by have := h.1; omega, by have := h.1; have := h.2; omega⟩
  · exact ⟨m + 1, by have := h.1; omega, by have := h.1; have := h.2; omega⟩
theorem bgt_N {c m tl N : Int} (h : bgt c m tl N) (hc : c ≤ 511) : N + 4 * ((tl + 1) / 9) ≤ 16380 ∧ N ≤ 16376 := by
  have := h.1; have := h.2; omega
theorem rtF_lt (P Ac Mo SG : Int → Int) (tl : Int) : ∀ (f : Nat) (ex ans p : Int) (S : AS) (Ln : Nat), Ln < 100000 → (rtF P Ac Mo SG tl f ex ans p S Ln).2.2 < 100000
  | 0, _, _, _, _, _, h => h
  | f + 1, ex, ans, p, S, Ln, h => by
    have h1 : stL SG tl p S Ln < 100000 := cmdLn_lt h
    rw [rtF]
    split
    · exact h
    split
    · exact h
    split
    · exact h1
    · exact rtF_lt P Ac Mo SG tl f _ _ _ _ _ h1
theorem rtL_b (P Ac Mo SG : Int → Int) (tl : Int) (S : AS) (Ln : Nat) (h : Ln < 100000) : Ln ≤ rtL P Ac Mo SG tl S Ln ∧ rtL P Ac Mo SG tl S Ln < 100000 := by
  by_cases q : eG SG tl 80 0 = -2
  · rw [rtL_t q]
    exact ⟨rtF_ge _ _ _ _ _ _ _ _ _ _ _, rtF_lt _ _ _ _ _ _ _ _ _ _ _ h⟩
  · rw [rtL_f q]
    exact ⟨Nat.le_refl _, h⟩
theorem xLn_b (q : Prop) {Ln : Nat} {n : Int} (h : Ln < 100000) : Ln ≤ xLn q Ln n ∧ xLn q Ln n < 100000 := by
  by_cases g : q
  · rw [xLn_t g]; exact ⟨gLn_ge Ln n, gLn_lt h⟩
  · rw [xLn_f g]; exact ⟨Nat.le_refl _, h⟩
/-- both states, and that they are the same -/
def LI (c N m : Int) (Ln : Nat) (P Ac Mo V : Int → Int) (lg : Lg) (B : Int → Int) (n : Int) (SP : Int → Int) (sn : Int) (SG : Int → Int) (tl : Int) (Ir Vm Ic Pm Am Dm Lm : Int → Int) (cn : Int) : Prop :=
  ((∀ j : Int, 0 ≤ j → j < 8 → P j = -2 ∨ (0 ≤ P j ∧ P j < 4)) ∧ (∀ j : Int, 0 ≤ j → j < 8 → Mo j = 0 ∨ Mo j = 1) ∧ (∀ j : Int, 0 ≤ j → j < 8 → 0 ≤ Ac j ∧ Ac j ≤ 3)) ∧
  (okH N lg V ∧ isL lg B n ∧ (240 ≤ Ln ∧ n ≤ (Ln : Int) ∧ Ln < 100000)) ∧
  (spOK SP sn ∧ (∀ j : Int, 0 ≤ j → j < 80 → 0 ≤ SG j ∧ SG j < 128) ∧ (0 ≤ tl ∧ tl ≤ 80) ∧ bgt c m tl N) ∧
  (rV Ir Vm V ∧ rC8 Ic Pm Am Dm P Ac Mo ∧ isM lg Lm cn)
theorem LI_c {c N m : Int} {Ln : Nat} {P Ac Mo V : Int → Int} {lg : Lg} {B : Int → Int} {n : Int} {SP : Int → Int} {sn : Int} {SG : Int → Int} {tl : Int} {Ir Vm Ic Pm Am Dm Lm : Int → Int} {cn : Int} (h : LI c N m Ln P Ac Mo V lg B n SP sn SG tl Ir Vm Ic Pm Am Dm Lm cn) : LI (c + 1) N m Ln P Ac Mo V lg B n SP sn SG tl Ir Vm Ic Pm Am Dm Lm cn :=
  ⟨h.1, h.2.1, ⟨h.2.2.1.1, h.2.2.1.2.1, h.2.2.1.2.2.1, bgt_c h.2.2.1.2.2.2 (by omega)⟩, h.2.2.2⟩
/-- what the law's frame rests on -/
def LC (p0 : Program) (l : Launch) (s0 : State) (m0 : MethodId) (c0 : Code) (D : va_G) (cI cZ cC cJ : ClassId) (b0 : Nat) (adK adV : Nat → Nat) (b L : Nat) (xs : Nat → Int32) (AA : Nat → Prop) : Prop :=
  (p0.tables.exec = Jvm.exec ∧ c0.code = cL_law ∧ c0.maxLocals = 7 ∧ s0.vm.findClass RL = some m0.cls ∧ (∀ w ∈ wsL_law, w.before #[.ref b] s0 = true)) ∧
  (va_X b L xs s0 s0.heap ∧ b < s0.heap.size ∧ ¬ AA b ∧ L ≤ 3072 ∧ l.stackTraces = false) ∧
  (zCa s0 ∧ zKJ D cJ s0 ∧ zX b0 s0 s0.heap ∧ zE b0 adK adV s0 s0.heap ∧ (∀ q, AA q → b0 ≤ q) ∧ b0 ≤ s0.heap.size ∧ (∀ q : Nat, s0.heap.size ≤ q → AA q) ∧ zK D cI cZ cC s0)
/-- behind c calls, with 6 k in the loop's counter, the law goes on from pc -/
def LW (p0 : Program) (l : Launch) (en0 : Env) (s0 : State) (m0 : MethodId) (below0 : List Frame) (meth0 : Method) (c0 : Code) (D : va_G) (cI cZ cC cJ : ClassId) (ad bd : Nat → Nat) (oo b : Nat) (AA : Nat → Prop) (c k pc : Nat) : Prop :=
  ∀ (be : Nat) (Ln : Nat) (P Ac Mo V B : Int → Int) (n N mx : Int) (lg : Lg) (Qa Qk : Int → Int) (ql : Int) (Qb Qc : Int → Int) (qm : Int) (SP : Int → Int) (sn : Int) (SG : Int → Int) (tl tp tq tac : Int) (TA : Int → Int) (Ir Vm Ic Pm Am Dm Lm Qm Rm : Int → Int) (cn th sp ta ke on tw : Int) (f0 : Nat → Int64) (H : Heap) (locs : List Loc), LI (c : Int) N mx Ln P Ac Mo V lg B n SP sn SG tl Ir Vm Ic Pm Am Dm Lm cn → va_P D vwCl [(ad 0, .inr (7, [.ref (ad 1), .ref (ad 4), .ref (ad 8), .ref (ad 12), .ref (ad 16), .ref (ad 18)])), (ad 1, .inr (4, [.ref (ad 2), .ref (be), .int (iI (n))])), (ad 2, .inl (cI, 160, .inl (iA (V)))), (be, .inl (cI, Ln, .inl (iA (B)))), (ad 4, .inr (0, [.ref (ad 1), .ref (ad 5), .ref (ad 6), .ref (ad 7)])), (ad 5, .inl (cI, 8, .inl (iA (P)))), (ad 6, .inl (cI, 8, .inl (iA (Ac)))), (ad 7, .inl (cZ, 8, .inl (iA (Mo)))), (ad 8, .inr (2, [.ref (ad 1), .ref (ad 4), .ref (ad 9)])), (ad 9, .inr (3, [.ref (ad 10), .ref (ad 11), .int (iI (ql))])), (ad 10, .inl (cI, 80, .inl (iA (Qa)))), (ad 11, .inl (cZ, 80, .inl (iA (Qk)))), (ad 12, .inr (1, [.ref (ad 1), .ref (ad 4), .ref (ad 13)])), (ad 13, .inr (3, [.ref (ad 14), .ref (ad 15), .int (iI (qm))])), (ad 14, .inl (cI, 80, .inl (iA (Qb)))), (ad 15, .inl (cZ, 80, .inl (iA (Qc)))), (ad 16, .inr (5, [.ref (ad 17), .int (iI (sn))])), (ad 17, .inl (cI, 4, .inl (iA (SP)))), (ad 18, .inr (6, [.ref (ad 19), .int (iI (tl)), .int (iI (tp)), .int (iI (tq)), .ref (ad 20), .int (iI (tac))])), (ad 19, .inl (cC, 80, .inl (iA (SG)))), (ad 20, .inl (cI, 4, .inl (iA (TA)))), (bd 0, .inr (8, [.ref (bd 1), .ref (bd 2), .ref (bd 3), .ref (bd 4), .ref (bd 5), .ref (bd 6), .ref (bd 7), .int (iI (cn)), .ref (bd 8), .int (iI (sn)), .ref (bd 9), .int (iI (tl)), .int (iI (th)), .ref (bd 10), .ref (bd 11), .int (iI (sp)), .int (iI (ta)), .int (iI (ke)), .int (iI (on)), .int (iI (tw))])), (bd 1, .inl (cZ, 80, .inl (iA (Ir)))), (bd 2, .inl (cI, 160, .inl (iA (Vm)))), (bd 3, .inl (cZ, 8, .inl (iA (Ic)))), (bd 4, .inl (cI, 8, .inl (iA (Pm)))), (bd 5, .inl (cI, 8, .inl (iA (Am)))), (bd 6, .inl (cZ, 8, .inl (iA (Dm)))), (bd 7, .inl (cI, 16384, .inl (iA (Lm)))), (bd 8, .inl (cI, 4, .inl (iA (SP)))), (bd 9, .inl (cC, 80, .inl (iA (SG)))), (bd 10, .inl (cI, 80, .inl (iA (Qm)))), (bd 11, .inl (cZ, 80, .inl (iA (Rm)))), (oo, .inl (cJ, 1, .inr (.inl (f0))))] H → va_D AA [(ad 0, .inr (7, [.ref (ad 1), .ref (ad 4), .ref (ad 8), .ref (ad 12), .ref (ad 16), .ref (ad 18)])), (ad 1, .inr (4, [.ref (ad 2), .ref (be), .int (iI (n))])), (ad 2, .inl (cI, 160, .inl (iA (V)))), (be, .inl (cI, Ln, .inl (iA (B)))), (ad 4, .inr (0, [.ref (ad 1), .ref (ad 5), .ref (ad 6), .ref (ad 7)])), (ad 5, .inl (cI, 8, .inl (iA (P)))), (ad 6, .inl (cI, 8, .inl (iA (Ac)))), (ad 7, .inl (cZ, 8, .inl (iA (Mo)))), (ad 8, .inr (2, [.ref (ad 1), .ref (ad 4), .ref (ad 9)])), (ad 9, .inr (3, [.ref (ad 10), .ref (ad 11), .int (iI (ql))])), (ad 10, .inl (cI, 80, .inl (iA (Qa)))), (ad 11, .inl (cZ, 80, .inl (iA (Qk)))), (ad 12, .inr (1, [.ref (ad 1), .ref (ad 4), .ref (ad 13)])), (ad 13, .inr (3, [.ref (ad 14), .ref (ad 15), .int (iI (qm))])), (ad 14, .inl (cI, 80, .inl (iA (Qb)))), (ad 15, .inl (cZ, 80, .inl (iA (Qc)))), (ad 16, .inr (5, [.ref (ad 17), .int (iI (sn))])), (ad 17, .inl (cI, 4, .inl (iA (SP)))), (ad 18, .inr (6, [.ref (ad 19), .int (iI (tl)), .int (iI (tp)), .int (iI (tq)), .ref (ad 20), .int (iI (tac))])), (ad 19, .inl (cC, 80, .inl (iA (SG)))), (ad 20, .inl (cI, 4, .inl (iA (TA)))), (bd 0, .inr (8, [.ref (bd 1), .ref (bd 2), .ref (bd 3), .ref (bd 4), .ref (bd 5), .ref (bd 6), .ref (bd 7), .int (iI (cn)), .ref (bd 8), .int (iI (sn)), .ref (bd 9), .int (iI (tl)), .int (iI (th)), .ref (bd 10), .ref (bd 11), .int (iI (sp)), .int (iI (ta)), .int (iI (ke)), .int (iI (on)), .int (iI (tw))])), (bd 1, .inl (cZ, 80, .inl (iA (Ir)))), (bd 2, .inl (cI, 160, .inl (iA (Vm)))), (bd 3, .inl (cZ, 8, .inl (iA (Ic)))), (bd 4, .inl (cI, 8, .inl (iA (Pm)))), (bd 5, .inl (cI, 8, .inl (iA (Am)))), (bd 6, .inl (cZ, 8, .inl (iA (Dm)))), (bd 7, .inl (cI, 16384, .inl (iA (Lm)))), (bd 8, .inl (cI, 4, .inl (iA (SP)))), (bd 9, .inl (cC, 80, .inl (iA (SG)))), (bd 10, .inl (cI, 80, .inl (iA (Qm)))), (bd 11, .inl (cZ, 80, .inl (iA (Rm)))), (oo, .inl (cJ, 1, .inr (.inl (f0))))] → va_S AA s0.heap H locs → ∀ ls : Array Slot, lv_has ls 7 [(4, .int (iI (6 * (k : Int)))), (3, .ref oo), (2, .ref (bd 0)), (1, .ref (ad 0)), (0, .ref b)] → W p0 l en0 room_1 s0 m0 #[.ref b] below0 meth0 c0 H locs (40 + (Ln - 240) + c) (20000 + 2 * (Ln - 240) + 6 * c) (lw_Z below0 #[.ref b] s0) (F0 m0 pc ls [])
theorem goK_z {a b c : Prop} (h : goK a b c = 0) : a ∧ b ∧ c := by
  by_cases h1 : a
  · by_cases h2 : b
    · by_cases h3 : c
      · exact ⟨h1, h2, h3⟩
      · rw [goK_3 h1 h2 h3] at h; cases h
    · rw [goK_2 h1 h2] at h; cases h
  · rw [goK_1 h1] at h; cases h
theorem smF_01 {P Mo V Mo2 : Int → Int} {k d v : Int} (h : ∀ j : Int, 0 ≤ j → j < 8 → Mo j = 0 ∨ Mo j = 1) (hd : d = 0 ∨ d = 1) (e : (v, Mo2) = smF P Mo V k d) : ∀ j : Int, 0 ≤ j → j < 8 → Mo2 j = 0 ∨ Mo2 j = 1 := by
  unfold smF at e
  split at e
  · cases e; exact h
  split at e
  · cases e; exact h
  · cases e
    intro j a b
    unfold uI
    split
    · omega
    · exact h j a b
theorem cmt {z : Int} {n sn cn v n1 s1 v2 n2 s2 N : Int} {V SP B Lm : Int → Int} {lg : Lg} (hH : okH N lg V) (hL : isL lg B n) (hM : isM lg Lm cn) (hs : spOK SP sn) (h1 : (v, n1, s1) = (if z = 0 then (n, 0, 0) else (z, n, sn))) (h2 : (v2, n2, s2) = (if z = 0 then (cn, 0, 0) else (z, cn, sn))) : v = v2 ∧ s1 = s2 ∧ ∃ lg1 : Lg, okH N lg1 V ∧ isL lg1 B n1 ∧ isM lg1 Lm n2 ∧ spOK SP s1 ∧ (n1 ≤ n ∨ n1 = 0) := by
  have e1 := isL_n hL
  have e2 := isM_n hM
  by_cases q : z = 0
  · rw [if_pos q] at h1 h2
    cases h1; cases h2
    exact ⟨by omega, rfl, [], okH_nil hH, rfl, rfl, spOK_0 SP, Or.inr rfl⟩
  · rw [if_neg q] at h1 h2
    cases h1; cases h2
    exact ⟨rfl, rfl, lg, hH, hL, hM, hs, Or.inl (Int.le_refl _)⟩
theorem unL_all {V : Int → Int} {lg : Lg} : (unL lg.length V lg).2 = [] := List.eq_nil_of_length_eq_zero (by rw [unL_len]; omega)
