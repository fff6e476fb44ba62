/-! methods that throw: what they need of the machine, their contracts, their ends -/
abbrev xI : String := "java/lang/IndexOutOfBoundsException"
abbrev xA : String := "java/lang/IllegalArgumentException"
abbrev xS : String := "java/lang/IllegalStateException"
abbrev xN : List String := ["java/lang/RuntimeException", "java/lang/Exception"]
def xW (ik ic : Nat) (cls : String) : List Cond := Cond.classLink RX7 ik cls :: Cond.initialized cls :: vx_atS RX7 ic cls xN
def zXW : List Cond := xW 62 66 xI ++ (xW 69 73 xA ++ xW 82 86 xS)
theorem zXW_ok : zXW.all (fun w => w.onTables && w.keepsFace) = true := by decide +kernel
theorem zXW_ot : zXW.all vx_ot = true := by decide +kernel
def zXT : List (Nat × String) := [(104, "no such table or column"), (106, "there is no such constraint"), (129, "no such table or key"), (134, "a value is out of range"), (143, "the table has a row with this key"), (145, "no such table, key or column"), (147, "the value is out of range"), (152, "the table has no row with this key"), (166, "there are four savepoints"), (171, "no such savepoint"), (212, "no such table"), (223, "part is not 0 to 3"), (64, "no such table, column or parent table"), (71, "no such action"), (84, "the transaction has changes"), (90, "the table and the column have a constraint"), (95, "the new constraint would be violated")]
def zX (b0 : Nat) (U : State) (H : Heap) : Prop := (∀ w ∈ zXW, w.before #[] U = true) ∧ (∀ q ∈ zXT, ∃ sa, vk_R RX7 q.1 q.2 sa U) ∧ vx_Zq Bundle.tN "UNASSIGNED_STACK" Bundle.steD (fun q => b0 ≤ q) U H ∧ vx_Zq Bundle.tN "SUPPRESSED_SENTINEL" Bundle.listD (fun q => b0 ≤ q) U H
theorem zX_face {a a' : Array Value} {s U : State} (hW : s.WarmedH U.vm) {w : Cond} (hw : (w.onTables && w.keepsFace) = true) (h : w.before a s = true) : w.before a' U = true := by
  simp only [Bool.and_eq_true] at hw
  have h1 : w.before a (s.setVm U.vm) = true := Cond.before_shiftedFace (State.Shifted.of_warmed hW) w hw.2 h
  rw [Cond.onTables_vm (A' := a') (U' := U) U.vm w hw.1, State.setVm_self] at h1
  exact h1
theorem zX.go {b0 : Nat} {u U : State} {H H1 : Heap} (hW : u.WarmedH U.vm) (hq : ∀ a : Nat, a < H.size → ¬ b0 ≤ a → H1[a]? = H[a]?) (h : zX b0 u H) : zX b0 U H1 :=
  ⟨fun w hw => zX_face hW (List.all_eq_true.mp zXW_ok w hw) (h.1 w hw), fun q h9 => (h.2.1 q h9).imp fun sa k => k.warm hW, (vx_Zq.moved hW.alike h.2.2.1).kept hq, (vx_Zq.moved hW.alike h.2.2.2).kept hq⟩
theorem zX.warm {b0 : Nat} {s U : State} {H : Heap} {locs : List Loc} (hW : s.WarmedH U.vm) (hU : U.heap = H) (hS : va_S (fun q => b0 ≤ q) s.heap H locs) (h : zX b0 s s.heap) : zX b0 U U.heap := zX.go hW (fun a h1 h2 => by rw [hU]; exact hS.2.1 a h1 h2) h
def zPwX (D : va_G) (cI cZ cC : ClassId) (wc : va_W) (sz b0 : Nat) (adK adV : Nat → Nat) (U : State) : Prop := zPwE D cI cZ cC wc sz b0 adK adV U ∧ zX b0 U U.heap
theorem zPwX_blind {D : va_G} {cI cZ cC : ClassId} {wc : va_W} {sz b0 : Nat} {adK adV : Nat → Nat} {av : List Value} : FrameBlind (va_Pc av (zPwX D cI cZ cC wc sz b0 adK adV)) := fun a U g mk q => ⟨q.1, (zPwE_blind a U g mk ⟨q.1, q.2.1⟩).2, zX.go (u := U) (U := U.calling g mk a) (State.WarmedH.refl U) (fun _ _ _ => rfl) q.2.2⟩
/-- a method that may throw: it answers v with q v u, or throws E with xq E u; its world is then w1 u -/
def zTh {S : Type} (l : Launch) (y : MethodName) (ws : List Cond) (rm : Room) (D : va_G) (cI cZ cC : ClassId) (b0 : Nat) (adK adV : Nat → Nat) (wc : va_W) (sz : Nat) (av : List Value) (mc ms : Nat) (w1 : S → va_W) (q : Int → S → Prop) (xq : String → S → Prop) : Prop := vx_Met l y ws rm (va_Pc av (zPwX D cI cZ cC wc sz b0 adK adV)) (va_Qi (fun r u => ∃ v : Int, r = iI v ∧ q v u) (fun (u : S) t => va_P D vwCl (w1 u) t.heap ∧ va_D (va_A wc sz) (w1 u)) (va_A wc sz)) (vx_X (fun _ : S => True) (fun E (u : S) t => xq E u ∧ va_P D vwCl (w1 u) t.heap ∧ va_D (va_A wc sz) (w1 u)) (va_A wc sz)) mc ms (va_A wc sz)
abbrev QTh {S : Type} (below : List Frame) (D : va_G) (w1 : S → va_W) (q : Int → S → Prop) (xq : String → S → Prop) (A : Nat → Prop) (args : Array Value) (s : State) (mc ms : Nat) : State → Prop := vx_MQ below (va_Qi (fun r u => ∃ v : Int, r = iI v ∧ q v u) (fun (u : S) t => va_P D vwCl (w1 u) t.heap ∧ va_D A (w1 u)) A) (vx_X (fun _ : S => True) (fun E (u : S) t => xq E u ∧ va_P D vwCl (w1 u) t.heap ∧ va_D A (w1 u)) A) args s mc ms A
theorem z_ofTh {S0 : Type} {l : Launch} {y : MethodName} {ws ws' : List Cond} {rm : Room} {cc : ByteArray} {maxL : Nat} {ret : Option FieldType} {D : va_G} {cI cZ cC : ClassId} {b0 : Nat} {adK adV : Nat → Nat} {wc : va_W} {sz : Nat} {av : List Value} {mc ms : Nat} {w1 : S0 → va_W} {q : Int → S0 → Prop} {xq : String → S0 → Prop} (own : String) (hy : plainName y.cls = true) (hw : ws = Cond.code y cc maxL ret :: ws') (ho : y.cls = own) (hlen : (lg_sl av).length ≤ maxL)
    (body : ∀ (p : Program) (e : Env) (s : State) (m : MethodId) (args : Array Value) (below : List Frame) (meth : Method) (c : Code) (ls : Array Slot) (A : Nat → Prop), p.tables.exec = Jvm.exec → c.code = cc → meth.sig.returnType = ret → meth.locks = false → c.maxLocals = maxL → s.vm.findClass own = some m.cls → (∀ w ∈ ws, w.before args s = true) → (∀ x ∈ c.exceptionTable.toList, False) → zX b0 s s.heap → zE b0 adK adV s s.heap → (∀ q, A q → b0 ≤ q) → b0 ≤ s.heap.size → va_P D vwCl wc s.heap → va_D A wc → va_S A s.heap s.heap [] → (∀ q : Nat, s.heap.size ≤ q → A q) → zK D cI cZ cC s → lv_has ls maxL (lv_args 0 av) → W p l e (headSpec ws rm).room s m args below meth c s.heap [] 0 0 (QTh below D w1 q xq A args s mc ms) (F0 m 0 ls [])) : zTh l y ws rm D cI cZ cC b0 adK adV wc sz av mc ms w1 q xq := by
  refine vx_ofW (cc := cc) (maxL := maxL) (ret := ret) hy hw ?_
  intro p e s m args below meth c s₁ B hml hne hv
  obtain ⟨rfl, ⟨⟨hsz, hP, hK, hD0⟩, hE, hDb, hbs⟩, hX⟩ := hv
  subst hsz
  rw [lg_entry_eq]
  exact body p e s m _ below meth c _ _ B.exec B.bytes B.returns B.notSynchronized hml (by rw [← ho]; exact findClass_of_methodNamed B.named) (atoms_spec (ws := ws) B.pre) hne hX hE (fun q h => by
    rcases h with ⟨k, e, h⟩ | h
    · exact hDb.2 k (q, e) h
    · exact Nat.le_trans hbs h) hbs hP hD0.self va_S.rf (fun q h => Or.inr h) hK (lv_entry av hlen)
theorem xW_I : ∀ w ∈ xW 62 66 xI, w ∈ zXW := fun w h => List.mem_append_left _ h
theorem xW_A : ∀ w ∈ xW 69 73 xA, w ∈ zXW := fun w h => List.mem_append_right _ (List.mem_append_left _ h)
theorem xW_S : ∀ w ∈ xW 82 86 xS, w ∈ zXW := fun w h => List.mem_append_right _ (List.mem_append_right _ h)
section ZTH
variable {p : Program} {l : Launch} {e : Env} {R : Room} {s : State} {m : MethodId} {args : Array Value} {below : List Frame} {meth : Method} {c : Code} {H : Heap} {locs : List Loc} {cells slots : Nat}
variable {cc : ByteArray} {pc maxL : Nat} {ls : Array Slot} {D : va_G} {b0 : Nat} {A : Nat → Prop}
theorem z_throw {S0 : Type} {w1 : S0 → va_W} {q : Int → S0 → Prop} {xq : String → S0 → Prop} {ik is ic mc ms : Nat} {cls text : String} (u : S0) (hx : p.tables.exec = Jvm.exec) (hb : c.code = cc) (hlt : l.stackTraces = false) (hown : s.vm.findClass RX7 = some m.cls) (hX : zX b0 s s.heap) (hAb : ∀ q, A q → b0 ≤ q) (hne : ∀ x ∈ c.exceptionTable.toList, False) (hlocks : meth.locks = false) (hml : c.maxLocals = maxL) (hsz : ls.size = maxL)
    (hsub : ∀ w ∈ xW ik ic cls, w ∈ zXW) (hfit : Bundle.fit cls = true) (hstr : (is, text) ∈ zXT) (d0 : decode cc pc = .ok (.new ik, 3)) (d3 : decode cc (pc + 3) = .ok (.dup, 1)) (d4 : decode cc (pc + 4) = .ok (.ldc is, 2)) (d6 : decode cc (pc + 6) = .ok (.invokespecial ic, 3)) (d9 : decode cc (pc + 9) = .ok (.athrow, 1))
    (hP : va_P D vwCl (w1 u) H) (hD : va_D A (w1 u)) (hS : va_S A s.heap H locs) (hF : 6 ≤ R.frames) (hLo : 82 ≤ R.locals) (hC : cells + 1 ≤ R.cells) (hSl : slots + 6 ≤ R.slots) (hc : cells + 1 ≤ mc) (hs : slots + 6 ≤ ms) (hq : xq cls u) : W p l e R s m args below meth c H locs cells slots (QTh below D w1 q xq A args s mc ms) (F0 m pc ls []) := by
  have hot : ∀ w ∈ xW ik ic cls, vx_ot w = true := fun w h => List.all_eq_true.mp zXW_ot w (hsub w h)
  have hbf : ∀ w ∈ xW ik ic cls, w.before args s = true := fun w h => vx_ot_at (a' := args) (State.WarmedH.refl s) rfl (hot w h) (hX.1 w (hsub w h))
  obtain ⟨sa, hsa⟩ := hX.2.1 _ hstr
  refine vx_throwS (sa := sa) (text := text) (names := xN) (A := fun q => b0 ≤ q) hx hb hlt hown hfit (by decide +kernel) (hbf _ List.mem_cons_self) (hbf _ (List.mem_cons_of_mem _ List.mem_cons_self)) hsa (fun w h => hbf _ (List.mem_cons_of_mem _ (List.mem_cons_of_mem _ h))) hot hX.2.2.1 hX.2.2.2 (va_S.wide hS hAb) (hsz.trans hml.symm) d0 d3 d4 d6 d9 (fun x h => (hne x h).elim) (by show 2 + 3 < R.frames; omega) (by show 0 + (13 * (2 + 1) + 43) ≤ R.locals; omega) hC hSl hlocks (fun t _ h1 h2 => ⟨u, trivial, ⟨hq, hP.kept (fun k q9 hk => h2 _ (vx_lt hP hk)), hD⟩, Nat.le_trans hS.1 h1, fun q9 h3 h4 => (h2 q9 (Nat.lt_of_lt_of_le h3 hS.1)).trans (hS.2.1 q9 h3 h4)⟩) hS.2.2 hc hs
end ZTH
/-- the number of the first condition that does not hold; 0 if all hold -/
noncomputable def goK (a b c : Prop) : Int := @ite Int a (Classical.propDecidable _) (@ite Int b (Classical.propDecidable _) (@ite Int c (Classical.propDecidable _) 0 3) 2) 1
theorem goK_1 {a b c : Prop} (h : ¬ a) : goK a b c = 1 := if_neg h
theorem goK_2 {a b c : Prop} (h : a) (g : ¬ b) : goK a b c = 2 := by unfold goK; rw [if_pos h, if_neg g]
theorem goK_3 {a b c : Prop} (h : a) (g : b) (k : ¬ c) : goK a b c = 3 := by unfold goK; rw [if_pos h, if_pos g, if_neg k]
theorem goK_0 {a b c : Prop} (h : a) (g : b) (k : c) : goK a b c = 0 := by unfold goK; rw [if_pos h, if_pos g, if_pos k]
/-- IOOBE, IAE, ISE are 1, 2, 3 -/
def thr3 (k : Int) (E : String) : Prop := (k = 1 ∧ E = xI) ∨ (k = 2 ∧ E = xA) ∨ (k = 3 ∧ E = xS)
/-- IOOBE, ISE are 1, 2 -/
def thr2 (k : Int) (E : String) : Prop := (k = 1 ∧ E = xI) ∨ (k = 2 ∧ E = xS)
/-- IAE, ISE are 1, 2 -/
def thrA (k : Int) (E : String) : Prop := (k = 1 ∧ E = xA) ∨ (k = 2 ∧ E = xS)
/-- IOOBE, IAE are 1, 2 -/
def thrI (k : Int) (E : String) : Prop := (k = 1 ∧ E = xI) ∨ (k = 2 ∧ E = xA)
