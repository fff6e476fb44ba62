/-! the law's wrappers: calls that catch what is thrown -/
theorem z_ofWH {l : Launch} {y : MethodName} {ws ws' : List Cond} {rm : Room} {Pc : Array Value → State → Prop} {Qc : Array Value → State → Outcome → State → Prop} {mc ms : Nat} {free : Addr → Prop} {cc : ByteArray} {maxL : Nat} {ret : Option FieldType} {hh : List (Nat × Nat × Nat × Nat)}
    (hy : plainName y.cls = true) (hw : ws = Cond.codeWith y cc maxL ret hh :: ws')
    (body : ∀ p e s m args below meth c s₁, BodyLoose p l y (headSpec ws rm) cc maxL ret e s m args below meth c s₁ → c.maxLocals = maxL → Pc args s →
      W p l e (headSpec ws rm).room s m args below meth c s.heap [] 0 0 (MQ below Qc args s mc ms free) (entryFrame m args maxL)) : Met l y ws rm Pc Qc mc ms free := by
  refine MetFree.of_bodyS (code := cc) (maxLocals := maxL) (ret := ret) hy ?_ ?_
  · intro args s m h hn
    obtain ⟨m9, meth, c, hn9, h1, h2, h3, h4, -, h5, h6, -⟩ := Cond.codeWith_spec (atoms_spec (ws := ws) h _ (by rw [hw]; exact List.mem_cons_self))
    cases hn.symm.trans hn9
    exact ⟨meth, c, h1, h2, h3, h4, h5, h6⟩
  · intro p e s m args below meth c s₁ B hml hP _
    have hh0 : s₁.heap = s.heap := by rw [B.state]; rfl
    obtain ⟨t, a1, o, b1, b2, b3⟩ := body p e s m args below meth c s₁ B hml hP s₁ hh0 (Stand.of_body B)
    exact ⟨t, o, a1, b1, b2, ⟨b3.1, b3.2⟩⟩
def zCW : List Cond := [.castable xI xI, .castable xA xA, .castable xS xS]
theorem zCW_ok : zCW.all (fun w => w.onTables && w.keepsFace) = true := by decide +kernel
/-- which exception's class is which -/
def zCa (U : State) : Prop := (∀ (a : Array Value), ∀ w ∈ zCW, w.before a U = true) ∧ va_Nc xI xA U ∧ va_Nc xI xS U ∧ va_Nc xA xI U ∧ va_Nc xA xS U ∧ va_Nc xS xI U ∧ va_Nc xS xA U
theorem zCa.warm {s U : State} (hW : s.WarmedH U.vm) (h : zCa s) : zCa U :=
  ⟨fun a w hw => zX_face (a := a) hW (List.all_eq_true.mp zCW_ok w hw) (h.1 a w hw), h.2.1.moved hW.alike, h.2.2.1.moved hW.alike, h.2.2.2.1.moved hW.alike, h.2.2.2.2.1.moved hW.alike, h.2.2.2.2.2.1.moved hW.alike, h.2.2.2.2.2.2.moved hW.alike⟩
def zPwL (D : va_G) (cI cZ cC : ClassId) (wc : va_W) (sz b0 : Nat) (adK adV : Nat → Nat) (U : State) : Prop := zPwX D cI cZ cC wc sz b0 adK adV U ∧ zCa U
theorem zPwL_blind {D : va_G} {cI cZ cC : ClassId} {wc : va_W} {sz b0 : Nat} {adK adV : Nat → Nat} {av : List Value} : FrameBlind (va_Pc av (zPwL D cI cZ cC wc sz b0 adK adV)) := fun a U g mk q => ⟨q.1, (zPwX_blind a U g mk ⟨q.1, q.2.1⟩).2, zCa.warm (s := U) (U := U.calling g mk a) (State.WarmedH.refl U) q.2.2⟩
/-- a wrapper's contract -/
def zWr {S : Type} (l : Launch) (y : MethodName) (ws : List Cond) (rm : Room) (D : va_G) (cI cZ cC : ClassId) (b0 : Nat) (adK adV : Nat → Nat) (wc : va_W) (sz : Nat) (av : List Value) (mc ms : Nat) (w1 : S → va_W) (q : Int → S → Prop) : Prop := Met l y ws rm (va_Pc av (zPwL D cI cZ cC wc sz b0 adK adV)) (va_Qi (fun r u => ∃ v : Int, r = iI v ∧ q v u) (fun (u : S) t => va_P D vwCl (w1 u) t.heap ∧ va_D (va_A wc sz) (w1 u)) (va_A wc sz)) mc ms (va_A wc sz)
theorem z_ofWr {S0 : Type} {l : Launch} {y : MethodName} {ws ws' : List Cond} {rm : Room} {cc : ByteArray} {maxL : Nat} {ret : Option FieldType} {hh : List (Nat × Nat × Nat × Nat)} {D : va_G} {cI cZ cC : ClassId} {b0 : Nat} {adK adV : Nat → Nat} {wc : va_W} {sz : Nat} {av : List Value} {mc ms : Nat} {w1 : S0 → va_W} {q : Int → S0 → Prop} (own : String) (hy : plainName y.cls = true) (hw : ws = Cond.codeWith y cc maxL ret hh :: ws') (ho : y.cls = own) (hlen : (lg_sl av).length ≤ maxL)
    (body : ∀ (p : Program) (e : Env) (s : State) (m : MethodId) (args : Array Value) (below : List Frame) (meth : Method) (c : Code) (ls : Array Slot) (A : Nat → Prop), p.tables.exec = Jvm.exec → c.code = cc → meth.sig.returnType = ret → meth.locks = false → c.maxLocals = maxL → s.vm.findClass own = some m.cls → (∀ w ∈ ws, w.before args s = true) → c.exceptionTable.toList = tableOf hh → zCa s → zX b0 s s.heap → zE b0 adK adV s s.heap → (∀ q, A q → b0 ≤ q) → b0 ≤ s.heap.size → va_P D vwCl wc s.heap → va_D A wc → va_S A s.heap s.heap [] → (∀ q : Nat, s.heap.size ≤ q → A q) → zK D cI cZ cC s → lv_has ls maxL (lv_args 0 av) → W p l e (headSpec ws rm).room s m args below meth c s.heap [] 0 0 (QMi below D w1 q A args s mc ms) (F0 m 0 ls [])) : zWr l y ws rm D cI cZ cC b0 adK adV wc sz av mc ms w1 q := by
  refine z_ofWH (cc := cc) (maxL := maxL) (ret := ret) hy hw ?_
  intro p e s m args below meth c s₁ B hml hv
  obtain ⟨rfl, ⟨⟨⟨hsz, hP, hK, hD0⟩, hE, hDb, hbs⟩, hX⟩, hCa⟩ := hv
  subst hsz
  rw [lg_entry_eq]
  have hts := atoms_spec (ws := ws) B.pre
  exact body p e s m _ below meth c _ _ B.exec B.bytes B.returns B.notSynchronized hml (by rw [← ho]; exact findClass_of_methodNamed B.named) hts (vx_table (x := y) B (hts _ (by rw [hw]; exact List.mem_cons_self))) hCa hX hE (fun q h => by
    rcases h with ⟨k, e, h⟩ | h
    · exact hDb.2 k (q, e) h
    · exact Nat.le_trans hbs h) hbs hP hD0.self va_S.rf (fun q h => Or.inr h) hK (lv_entry av hlen)
theorem z_ofLw {S0 : Type} {l : Launch} {y : MethodName} {ws ws' : List Cond} {rm : Room} {cc : ByteArray} {maxL : Nat} {ret : Option FieldType} {D : va_G} {cI cZ cC : ClassId} {b0 : Nat} {adK adV : Nat → Nat} {wc : va_W} {sz : Nat} {av : List Value} {mc ms : Nat} {w1 : S0 → va_W} {q : Int → S0 → Prop} (own : String) (hy : plainName y.cls = true) (hw : ws = Cond.code y cc maxL ret :: ws') (ho : y.cls = own) (hlen : (lg_sl av).length ≤ maxL)
    (body : ∀ (p : Program) (e : Env) (s : State) (m : MethodId) (args : Array Value) (below : List Frame) (meth : Method) (c : Code) (ls : Array Slot) (A : Nat → Prop), p.tables.exec = Jvm.exec → c.code = cc → meth.sig.returnType = ret → meth.locks = false → c.maxLocals = maxL → s.vm.findClass own = some m.cls → (∀ w ∈ ws, w.before args s = true) → zCa s → zX b0 s s.heap → zE b0 adK adV s s.heap → (∀ q, A q → b0 ≤ q) → b0 ≤ s.heap.size → va_P D vwCl wc s.heap → va_D A wc → va_S A s.heap s.heap [] → (∀ q : Nat, s.heap.size ≤ q → A q) → zK D cI cZ cC s → lv_has ls maxL (lv_args 0 av) → W p l e (headSpec ws rm).room s m args below meth c s.heap [] 0 0 (QMi below D w1 q A args s mc ms) (F0 m 0 ls [])) : zWr l y ws rm D cI cZ cC b0 adK adV wc sz av mc ms w1 q := by
  refine Met.ofW (cc := cc) (maxL := maxL) (ret := ret) hy hw ?_
  intro p e s m args below meth c s₁ B hml hv
  obtain ⟨rfl, ⟨⟨⟨hsz, hP, hK, hD0⟩, hE, hDb, hbs⟩, hX⟩, hCa⟩ := hv
  subst hsz
  rw [lg_entry_eq]
  have hts := atoms_spec (ws := ws) B.pre
  exact body p e s m _ below meth c _ _ B.exec B.bytes B.returns B.notSynchronized hml (by rw [← ho]; exact findClass_of_methodNamed B.named) hts hCa hX hE (fun q h => by
    rcases h with ⟨k, e, h⟩ | h
    · exact hDb.2 k (q, e) h
    · exact Nat.le_trans hbs h) hbs hP hD0.self va_S.rf (fun q h => Or.inr h) hK (lv_entry av hlen)
/-- the same, answering a long -/
def zWl {S : Type} (l : Launch) (y : MethodName) (ws : List Cond) (rm : Room) (D : va_G) (cI cZ cC : ClassId) (b0 : Nat) (adK adV : Nat → Nat) (wc : va_W) (sz : Nat) (av : List Value) (mc ms : Nat) (w1 : S → va_W) (q : Int64 → S → Prop) : Prop := Met l y ws rm (va_Pc av (zPwL D cI cZ cC wc sz b0 adK adV)) (va_Ql q (fun (u : S) t => va_P D vwCl (w1 u) t.heap ∧ va_D (va_A wc sz) (w1 u)) (va_A wc sz)) mc ms (va_A wc sz)
abbrev QMl {S : Type} (below : List Frame) (D : va_G) (w1 : S → va_W) (q : Int64 → S → Prop) (A : Nat → Prop) (args : Array Value) (s : State) (mc ms : Nat) : State → Prop := MQ below (va_Ql q (fun (u : S) t => va_P D vwCl (w1 u) t.heap ∧ va_D A (w1 u)) A) args s mc ms A
theorem z_ofLl {S0 : Type} {l : Launch} {y : MethodName} {ws ws' : List Cond} {rm : Room} {cc : ByteArray} {maxL : Nat} {ret : Option FieldType} {D : va_G} {cI cZ cC : ClassId} {b0 : Nat} {adK adV : Nat → Nat} {wc : va_W} {sz : Nat} {av : List Value} {mc ms : Nat} {w1 : S0 → va_W} {q : Int64 → S0 → Prop} (own : String) (hy : plainName y.cls = true) (hw : ws = Cond.code y cc maxL ret :: ws') (ho : y.cls = own) (hlen : (lg_sl av).length ≤ maxL)
    (body : ∀ (p : Program) (e : Env) (s : State) (m : MethodId) (args : Array Value) (below : List Frame) (meth : Method) (c : Code) (ls : Array Slot) (A : Nat → Prop), p.tables.exec = Jvm.exec → c.code = cc → meth.sig.returnType = ret → meth.locks = false → c.maxLocals = maxL → s.vm.findClass own = some m.cls → (∀ w ∈ ws, w.before args s = true) → zCa s → zX b0 s s.heap → zE b0 adK adV s s.heap → (∀ q, A q → b0 ≤ q) → b0 ≤ s.heap.size → va_P D vwCl wc s.heap → va_D A wc → va_S A s.heap s.heap [] → (∀ q : Nat, s.heap.size ≤ q → A q) → zK D cI cZ cC s → lv_has ls maxL (lv_args 0 av) → W p l e (headSpec ws rm).room s m args below meth c s.heap [] 0 0 (QMl below D w1 q A args s mc ms) (F0 m 0 ls [])) : zWl l y ws rm D cI cZ cC b0 adK adV wc sz av mc ms w1 q := by
  refine Met.ofW (cc := cc) (maxL := maxL) (ret := ret) hy hw ?_
  intro p e s m args below meth c s₁ B hml hv
  obtain ⟨rfl, ⟨⟨⟨hsz, hP, hK, hD0⟩, hE, hDb, hbs⟩, hX⟩, hCa⟩ := hv
  subst hsz
  rw [lg_entry_eq]
  have hts := atoms_spec (ws := ws) B.pre
  exact body p e s m _ below meth c _ _ B.exec B.bytes B.returns B.notSynchronized hml (by rw [← ho]; exact findClass_of_methodNamed B.named) hts hCa hX hE (fun q h => by
    rcases h with ⟨k, e, h⟩ | h
    · exact hDb.2 k (q, e) h
    · exact Nat.le_trans hbs h) hbs hP hD0.self va_S.rf (fun q h => Or.inr h) hK (lv_entry av hlen)
section ZTV
variable {p : Program} {l : Launch} {e : Env} {R : Room} {s : State} {m : MethodId} {args : Array Value} {below : List Frame} {meth : Method} {c : Code} {H : Heap} {locs : List Loc} {cells slots : Nat} {Q : State → Prop}
variable {cc bytes : ByteArray} {pc nL maxL n index : Nat} {ls : Array Slot} {rest As st0 : List Value} {D : va_G} {cI cZ cC : ClassId} {ret : Option FieldType} {own C : String} {Ts wsY : List Cond} {y : MethodName} {rm : Room} {ws wc : va_W} {b b0 : Nat} {adK adV : Nat → Nat}
theorem z_thV {S0 : Type} {A : Nat → Prop} {mc ms : Nat} {w1 ws2 : S0 → va_W} {q : Int → S0 → Prop} {xq : String → S0 → Prop} {wr : va_W} (hX : zX b0 s s.heap) (hE : zE b0 adK adV s s.heap) (hAb : ∀ q, A q → b0 ≤ q) (hbs : b0 ≤ s.heap.size) (S : CallFix p m c cc nL s args Ts own) (hM : zTh l y wsY rm D cI cZ cC b0 adK adV wc H.size (.ref b :: As) mc ms w1 q xq) (cw : CallW R s args own C index y bytes maxL ret wsY rm mc ms n) (hP : va_P D vwCl ws H) (hD : va_D A ws) (hS : va_S A s.heap H locs) (hA : ∀ q, s.heap.size ≤ q → A q) (hK : zK D cI cZ cC s)
    (ic ir ip : List Nat) (hC : ic.map (fun i => ws[i]?) = wc.map some) (hcn : va_nd ic = true) (hR : ir.map (fun i => ws[i]?) = wr.map some) (hrn : va_nd ir = true) (hdis : ∀ i ∈ ir, i ∉ ic) (hpn : va_nd ip = true) (hp : ∀ u, ip.map (fun i => (wr ++ w1 u)[i]?) = (ws2 u).map some)
    (q0 ci : Nat) {fs : List Value} {q9 : vw_C} (hc : vwCl[ci]? = some q9) (he : ws[q0]? = some (b, .inr (ci, fs))) (hq : q9.1 = C)
    (hn : As.length = n) (hsize : ls.size = nL) (hstack : st0 = As.reverse ++ .ref b :: rest) (hW : (rest.map fun v => v.category).sum ≤ 8) (hdg : decode cc pc = .ok (.invokevirtual index, 3)) (hf : cells + mc ≤ R.cells ∧ slots + ms ≤ R.slots)
    (kx : ∀ (E : String) (ce : Cell) (q8 : Nat) (u : S0) (H1 : Heap) (locs1 : List Loc), xq E u → va_P D vwCl (ws2 u) H1 → va_D A (ws2 u) → va_S A s.heap H1 locs1 → H1[q8]? = some ce → ce.vm = .none → s.vm.findClass E = some ce.cls → vx_W p l e R s m args below meth c H1 locs1 (cells + mc) (slots + ms) Q (F0 m pc ls rest) q8)
    (kk : ∀ (v : Int) (u : S0) (H1 : Heap) (locs1 : List Loc), q v u → va_P D vwCl (ws2 u) H1 → va_D A (ws2 u) → va_S A s.heap H1 locs1 → W p l e R s m args below meth c H1 locs1 (cells + mc) (slots + ms) Q (F0 m (pc + 3) ls (.int (iI v) :: rest))) : W p l e R s m args below meth c H locs cells slots Q (F0 m pc ls st0) := by
  have hF := va_free hD hS hA ic hC
  refine vx_calli (vx_runV S hM cw ⟨zPwX_blind, by rw [← hq]; exact va_recv hK.1 hP hc he, fun U hU hW2 => ⟨rfl, ⟨z_preW hP hD hK ic hcn hC U hU hW2, hE.warm hW2 hU (va_S.wide hS hAb), (hD.sub ic hcn hC).weaken (fun _ _ _ h => hAb _ h), Nat.le_trans hbs hS.1⟩, zX.warm hW2 hU (va_S.wide hS hAb) hX⟩⟩ rfl hn hsize hstack (lv_room hW) hdg hf) hS (fun q _ h => hF q h) hF (fun q _ h => hF q h) (fun E ce q8 u t H1 locs1 ht hvm _ hB hz hk hS1 k1 k2 k3 => ?_) (fun r u t H1 locs1 ht hvm hw hB hz hk hS1 => ?_)
  · obtain ⟨hxq, hP1, hD1⟩ := hB
    rw [ht] at hP1
    obtain ⟨g1, g2⟩ := z_back hP hD ic ir ip hC hR hrn hdis hpn (hp u) hk hF hP1 hD1
    exact kx E ce q8 u H1 locs1 hxq g1 g2 hS1 k1 k2 k3
  · obtain ⟨v, rfl, hqv⟩ := hw
    obtain ⟨hP1, hD1⟩ := hB
    rw [ht] at hP1
    obtain ⟨g1, g2⟩ := z_back hP hD ic ir ip hC hR hrn hdis hpn (hp u) hk hF hP1 hD1
    exact kk v u H1 locs1 hqv g1 g2 hS1
/-- a call of a wrapper -/
theorem z_wrS {S0 : Type} {A : Nat → Prop} {mc ms : Nat} {w1 ws2 : S0 → va_W} {q : Int → S0 → Prop} {wr : va_W} {hh : List (Nat × Nat × Nat × Nat)} (hCa : zCa s) (hX : zX b0 s s.heap) (hE : zE b0 adK adV s s.heap) (hAb : ∀ q, A q → b0 ≤ q) (hbs : b0 ≤ s.heap.size) (S : CallFix p m c cc nL s args Ts own) (hM : zWr l y wsY rm D cI cZ cC b0 adK adV wc H.size As mc ms w1 q) (cw : vx_CSW R s args own index y bytes maxL ret hh wsY rm mc ms n) (hP : va_P D vwCl ws H) (hD : va_D A ws) (hS : va_S A s.heap H locs) (hA : ∀ q, s.heap.size ≤ q → A q) (hK : zK D cI cZ cC s)
    (ic ir ip : List Nat) (hC : ic.map (fun i => ws[i]?) = wc.map some) (hcn : va_nd ic = true) (hR : ir.map (fun i => ws[i]?) = wr.map some) (hrn : va_nd ir = true) (hdis : ∀ i ∈ ir, i ∉ ic) (hpn : va_nd ip = true) (hp : ∀ u, ip.map (fun i => (wr ++ w1 u)[i]?) = (ws2 u).map some)
    (hn : As.length = n) (hsize : ls.size = nL) (hstack : st0 = As.reverse ++ rest) (hW : (rest.map fun v => v.category).sum ≤ 8) (hdg : decode cc pc = .ok (.invokestatic index, 3)) (hf : cells + mc ≤ R.cells ∧ slots + ms ≤ R.slots)
    (kk : ∀ (v : Int) (u : S0) (H1 : Heap) (locs1 : List Loc), q v u → va_P D vwCl (ws2 u) H1 → va_D A (ws2 u) → va_S A s.heap H1 locs1 → W p l e R s m args below meth c H1 locs1 (cells + mc) (slots + ms) Q (F0 m (pc + 3) ls (.int (iI v) :: rest))) : W p l e R s m args below meth c H locs cells slots Q (F0 m pc ls st0) := by
  have hF := va_free hD hS hA ic hC
  refine va_calli (vx_runSW S hM cw ⟨zPwL_blind, fun U hU hW2 => ⟨rfl, ⟨⟨z_preW hP hD hK ic hcn hC U hU hW2, hE.warm hW2 hU (va_S.wide hS hAb), (hD.sub ic hcn hC).weaken (fun _ _ _ h => hAb _ h), Nat.le_trans hbs hS.1⟩, zX.warm hW2 hU (va_S.wide hS hAb) hX⟩, hCa.warm hW2⟩⟩ rfl hn hsize hstack (lv_room hW) hdg hf) hS (fun q _ h => hF q h) hF (fun r u t H1 locs1 ht hvm hw hB hz hk hS1 => ?_)
  obtain ⟨v, rfl, hqv⟩ := hw
  obtain ⟨hP1, hD1⟩ := hB
  rw [ht] at hP1
  obtain ⟨g1, g2⟩ := z_back hP hD ic ir ip hC hR hrn hdis hpn (hp u) hk hF hP1 hD1
  exact kk v u H1 locs1 hqv g1 g2 hS1
/-- a call of a method of the law without a table -/
theorem z_lwS {S0 : Type} {A : Nat → Prop} {mc ms : Nat} {w1 ws2 : S0 → va_W} {q : Int → S0 → Prop} {wr : va_W} (hCa : zCa s) (hX : zX b0 s s.heap) (hE : zE b0 adK adV s s.heap) (hAb : ∀ q, A q → b0 ≤ q) (hbs : b0 ≤ s.heap.size) (S : CallFix p m c cc nL s args Ts own) (hM : zWr l y wsY rm D cI cZ cC b0 adK adV wc H.size As mc ms w1 q) (cw : CallB R s args own index y bytes maxL ret wsY rm mc ms n ∧ (Cond.static y).before args s = true) (hP : va_P D vwCl ws H) (hD : va_D A ws) (hS : va_S A s.heap H locs) (hA : ∀ q, s.heap.size ≤ q → A q) (hK : zK D cI cZ cC s)
    (ic ir ip : List Nat) (hC : ic.map (fun i => ws[i]?) = wc.map some) (hcn : va_nd ic = true) (hR : ir.map (fun i => ws[i]?) = wr.map some) (hrn : va_nd ir = true) (hdis : ∀ i ∈ ir, i ∉ ic) (hpn : va_nd ip = true) (hp : ∀ u, ip.map (fun i => (wr ++ w1 u)[i]?) = (ws2 u).map some)
    (hn : As.length = n) (hsize : ls.size = nL) (hstack : st0 = As.reverse ++ rest) (hW : (rest.map fun v => v.category).sum ≤ 8) (hdg : decode cc pc = .ok (.invokestatic index, 3)) (hf : cells + mc ≤ R.cells ∧ slots + ms ≤ R.slots)
    (kk : ∀ (v : Int) (u : S0) (H1 : Heap) (locs1 : List Loc), q v u → va_P D vwCl (ws2 u) H1 → va_D A (ws2 u) → va_S A s.heap H1 locs1 → W p l e R s m args below meth c H1 locs1 (cells + mc) (slots + ms) Q (F0 m (pc + 3) ls (.int (iI v) :: rest))) : W p l e R s m args below meth c H locs cells slots Q (F0 m pc ls st0) := by
  have hF := va_free hD hS hA ic hC
  refine va_calli (va_runS S hM cw ⟨zPwL_blind, fun U hU hW2 => ⟨rfl, ⟨⟨z_preW hP hD hK ic hcn hC U hU hW2, hE.warm hW2 hU (va_S.wide hS hAb), (hD.sub ic hcn hC).weaken (fun _ _ _ h => hAb _ h), Nat.le_trans hbs hS.1⟩, zX.warm hW2 hU (va_S.wide hS hAb) hX⟩, hCa.warm hW2⟩⟩ rfl hn hsize hstack (lv_room hW) hdg hf) hS (fun q _ h => hF q h) hF (fun r u t H1 locs1 ht hvm hw hB hz hk hS1 => ?_)
  obtain ⟨v, rfl, hqv⟩ := hw
  obtain ⟨hP1, hD1⟩ := hB
  rw [ht] at hP1
  obtain ⟨g1, g2⟩ := z_back hP hD ic ir ip hC hR hrn hdis hpn (hp u) hk hF hP1 hD1
  exact kk v u H1 locs1 hqv g1 g2 hS1

theorem z_llS {S0 : Type} {A : Nat → Prop} {mc ms : Nat} {w1 ws2 : S0 → va_W} {q : Int64 → S0 → Prop} {wr : va_W} (hCa : zCa s) (hX : zX b0 s s.heap) (hE : zE b0 adK adV s s.heap) (hAb : ∀ q, A q → b0 ≤ q) (hbs : b0 ≤ s.heap.size) (S : CallFix p m c cc nL s args Ts own) (hM : zWl l y wsY rm D cI cZ cC b0 adK adV wc H.size As mc ms w1 q) (cw : CallB R s args own index y bytes maxL ret wsY rm mc ms n ∧ (Cond.static y).before args s = true) (hP : va_P D vwCl ws H) (hD : va_D A ws) (hS : va_S A s.heap H locs) (hA : ∀ q, s.heap.size ≤ q → A q) (hK : zK D cI cZ cC s)
    (ic ir ip : List Nat) (hC : ic.map (fun i => ws[i]?) = wc.map some) (hcn : va_nd ic = true) (hR : ir.map (fun i => ws[i]?) = wr.map some) (hrn : va_nd ir = true) (hdis : ∀ i ∈ ir, i ∉ ic) (hpn : va_nd ip = true) (hp : ∀ u, ip.map (fun i => (wr ++ w1 u)[i]?) = (ws2 u).map some)
    (hn : As.length = n) (hsize : ls.size = nL) (hstack : st0 = As.reverse ++ rest) (hW : (rest.map fun v => v.category).sum ≤ 8) (hdg : decode cc pc = .ok (.invokestatic index, 3)) (hf : cells + mc ≤ R.cells ∧ slots + ms ≤ R.slots)
    (kk : ∀ (v : Int64) (u : S0) (H1 : Heap) (locs1 : List Loc), q v u → va_P D vwCl (ws2 u) H1 → va_D A (ws2 u) → va_S A s.heap H1 locs1 → W p l e R s m args below meth c H1 locs1 (cells + mc) (slots + ms) Q (F0 m (pc + 3) ls (.long v :: rest))) : W p l e R s m args below meth c H locs cells slots Q (F0 m pc ls st0) := by
  have hF := va_free hD hS hA ic hC
  refine va_calll (va_runS S hM cw ⟨zPwL_blind, fun U hU hW2 => ⟨rfl, ⟨⟨z_preW hP hD hK ic hcn hC U hU hW2, hE.warm hW2 hU (va_S.wide hS hAb), (hD.sub ic hcn hC).weaken (fun _ _ _ h => hAb _ h), Nat.le_trans hbs hS.1⟩, zX.warm hW2 hU (va_S.wide hS hAb) hX⟩, hCa.warm hW2⟩⟩ rfl hn hsize hstack (lv_room hW) hdg hf) hS (fun q _ h => hF q h) hF (fun r u t H1 locs1 ht hvm hw hB hz hk hS1 => ?_)
  obtain ⟨hP1, hD1⟩ := hB
  rw [ht] at hP1
  obtain ⟨g1, g2⟩ := z_back hP hD ic ir ip hC hR hrn hdis hpn (hp u) hk hF hP1 hD1
  exact kk r u H1 locs1 hw g1 g2 hS1
end ZTV
theorem goK_12 (a : Prop) : goK a True True = 0 ∨ goK a True True = 1 := by
  by_cases h : a
  · exact Or.inl (goK_0 h trivial trivial)
  · exact Or.inr (goK_1 h)
theorem goK_13 (a b : Prop) : goK a b True = 0 ∨ goK a b True = 1 ∨ goK a b True = 2 := by
  by_cases h : a
  · by_cases g : b
    · exact Or.inl (goK_0 h g trivial)
    · exact Or.inr (Or.inr (goK_2 h g))
  · exact Or.inr (Or.inl (goK_1 h))
theorem goK_14 (a b c : Prop) : goK a b c = 0 ∨ goK a b c = 1 ∨ goK a b c = 2 ∨ goK a b c = 3 := by
  by_cases h : a
  · by_cases g : b
    · by_cases k : c
      · exact Or.inl (goK_0 h g k)
      · exact Or.inr (Or.inr (Or.inr (goK_3 h g k)))
    · exact Or.inr (Or.inr (Or.inl (goK_2 h g)))
  · exact Or.inr (Or.inl (goK_1 h))

/-- shifted right; masked -/
def shR (x y : Int) : Int := (iI x >>> (iI y &&& 31)).toInt
def anD (x y : Int) : Int := (iI x &&& iI y).toInt
theorem shR_b (x y : Int) : -2147483648 ≤ shR x y ∧ shR x y < 2147483648 := ib_self _
theorem anD_b (x : Int) : 0 ≤ anD x 2147483647 ∧ anD x 2147483647 < 2147483648 := by
  refine ⟨?_, (ib_self _).2⟩
  have e : (iI 2147483647).toBitVec.msb = false := by decide
  have h : (iI x &&& iI 2147483647).toBitVec.msb = false := by rw [Int32.toBitVec_and, BitVec.msb_and, e, Bool.and_false]
  show 0 ≤ (iI x &&& iI 2147483647).toBitVec.toInt
  rw [BitVec.toInt_eq_msb_cond, h]
  simp
/-- a number below n -/
def lowF (x n : Int) : Int := anD x 2147483647 % n
theorem lowF_b (x : Int) {n : Int} (h : 0 < n) : 0 ≤ lowF x n ∧ lowF x n < n := ⟨Int.emod_nonneg _ (by omega), Int.emod_lt_of_pos _ h⟩
section ZRL
variable {p : Program} {l : Launch} {e : Env} {R : Room} {s : State} {m : MethodId} {args : Array Value} {below : List Frame} {meth : Method} {c : Code} {H : Heap} {locs : List Loc} {cells slots : Nat} {Q : State → Prop}
variable {cc : ByteArray} {pc : Nat} {ls : Array Slot} {D : va_G} {A : Nat → Prop} {rest : List Value}
theorem z_mretL {S0 : Type} {w1 : S0 → va_W} {q : Int64 → S0 → Prop} {v : Int64} (u : S0) (hx : p.tables.exec = Jvm.exec) (hb : c.code = cc) (hr : meth.sig.returnType = some .long) (hlocks : meth.locks = false) (hdg : decode cc pc = .ok (.lreturn, 1)) (hP : va_P D vwCl (w1 u) H) (hD : va_D A (w1 u)) (hS : va_S A s.heap H locs) (hq : q v u) : W p l e R s m args below meth c H locs cells slots (MQ below (va_Ql q (fun (u : S0) t => va_P D vwCl (w1 u) t.heap ∧ va_D A (w1 u)) A) args s cells slots A) (F0 m pc ls [.long v]) :=
  W.lret hx hb hr (fun t ht hW => ⟨⟨_, u, rfl, hq, by rw [ht]; exact hP, hD⟩, hS.F ht⟩) hS.2.2 hdg hlocks
theorem z_lcmpE (hx : p.tables.exec = Jvm.exec) (hb : c.code = cc) {x y : Int64} (h : x = y) (hdg : decode cc pc = .ok (.lcmp, 1))
    (kk : W p l e R s m args below meth c H locs cells slots Q (F0 m (pc + 1) ls (.int (iI 0) :: rest))) : W p l e R s m args below meth c H locs cells slots Q (F0 m pc ls (.long y :: .long x :: rest)) := by
  subst h
  refine W.lcmp hx hb hdg ?_
  have e1 : lg_cmp x x = iI 0 := by rw [iI_0]; simp [lg_cmp]
  rw [e1]
  exact kk
/-- shifts and the mask, of any int -/
theorem z_shr (hx : p.tables.exec = Jvm.exec) (hb : c.code = cc) {x y : Int} (hdg : decode cc pc = .ok (.ishr, 1)) (kk : W p l e R s m args below meth c H locs cells slots Q (F0 m (pc + 1) ls (.int (iI (shR x y)) :: rest))) : W p l e R s m args below meth c H locs cells slots Q (F0 m pc ls (.int (iI y) :: .int (iI x) :: rest)) := lv_ishr hx hb hdg (by
  unfold shR at kk
  rw [iI_self] at kk
  exact kk)
theorem z_msk (hx : p.tables.exec = Jvm.exec) (hb : c.code = cc) {x y : Int} (hdg : decode cc pc = .ok (.iand, 1)) (kk : W p l e R s m args below meth c H locs cells slots Q (F0 m (pc + 1) ls (.int (iI (anD x y)) :: rest))) : W p l e R s m args below meth c H locs cells slots Q (F0 m pc ls (.int (iI y) :: .int (iI x) :: rest)) := lv_iand hx hb hdg (by
  unfold anD at kk
  rw [iI_self] at kk
  exact kk)
end ZRL

theorem goK_A {a b c : Prop} (h : a) (g : b) : (goK a b c = 0 ∧ c) ∨ (goK a b c = 3 ∧ ¬ c) := by
  by_cases k : c
  · exact Or.inl ⟨goK_0 h g k, k⟩
  · exact Or.inr ⟨goK_3 h g k, k⟩
theorem goK_B {a b : Prop} (h : a) : (goK a b True = 0 ∧ b) ∨ (goK a b True = 2 ∧ ¬ b) := by
  by_cases k : b
  · exact Or.inl ⟨goK_0 h k trivial, k⟩
  · exact Or.inr ⟨goK_2 h k, k⟩
theorem goK_C (a : Prop) : (goK a True True = 0 ∧ a) ∨ (goK a True True = 1 ∧ ¬ a) := by
  by_cases k : a
  · exact Or.inl ⟨goK_0 k trivial trivial, k⟩
  · exact Or.inr ⟨goK_1 k, k⟩
theorem xLn_w (q : Prop) {Ln : Nat} {n : Int} (h1 : 240 ≤ Ln) (h2 : Ln ≤ 2000) (h3 : n ≤ 700) : Ln ≤ xLn q Ln n ∧ xLn q Ln n ≤ Ln + 940 ∧ xLn q Ln n ≤ 2000 := by
  by_cases g : q
  · rw [xLn_t g]
    unfold gLn
    split <;> omega
  · rw [xLn_f g]
    omega
noncomputable def ancV (P V : Int → Int) (r : Int) : Int := @ite Int (hasR V r) (Classical.propDecidable _) ((bfs P V 81 0 (ftL P V r [] 2)).length : Int) (-2)
noncomputable def conF (P Ac Mo V : Int → Int) (j p : Int) : Int := if inP P j = -2 then -2 else (if p = 0 then inP P j else if p = 1 then inA Ac j else if p = 2 then bI (0 ≤ j ∧ j < 8 ∧ ¬ Mo j = 0) else vio V j (inP P j))
noncomputable def ifdF (P Ac Mo V : Int → Int) (lg : Lg) (r : Int) : Int := @ite Int (hasR V r) (Classical.propDecidable _) (delF P Ac Mo V lg r).1 (-2)
noncomputable def insW (P Mo V : Int → Int) (lg : Lg) (r a b : Int) : Int × (Int → Int) × Lg := @ite _ (hasR V r) (Classical.propDecidable _) (-1000003, V, lg) (insF P Mo V lg r a b)
noncomputable def updW (P Mo V : Int → Int) (lg : Lg) (r c v : Int) : Int × (Int → Int) × Lg := @ite _ (hasR V r) (Classical.propDecidable _) (updF P Mo V lg r c v) (-1000003, V, lg)
noncomputable def delW (P Ac Mo V : Int → Int) (lg : Lg) (r : Int) : Int × (Int → Int) × Lg := @ite _ (hasR V r) (Classical.propDecidable _) (delF P Ac Mo V lg r) (-1000002, V, lg)
theorem insW_t {P Mo V : Int → Int} {lg : Lg} {r a b : Int} (h : hasR V r) : insW P Mo V lg r a b = (-1000003, V, lg) := if_pos h
theorem insW_f {P Mo V : Int → Int} {lg : Lg} {r a b : Int} (h : ¬ hasR V r) : insW P Mo V lg r a b = insF P Mo V lg r a b := if_neg h
theorem updW_t {P Mo V : Int → Int} {lg : Lg} {r a b : Int} (h : hasR V r) : updW P Mo V lg r a b = updF P Mo V lg r a b := if_pos h
theorem updW_f {P Mo V : Int → Int} {lg : Lg} {r a b : Int} (h : ¬ hasR V r) : updW P Mo V lg r a b = (-1000003, V, lg) := if_neg h
theorem delW_t {P Ac Mo V : Int → Int} {lg : Lg} {r : Int} (h : hasR V r) : delW P Ac Mo V lg r = delF P Ac Mo V lg r := if_pos h
theorem delW_f {P Ac Mo V : Int → Int} {lg : Lg} {r : Int} (h : ¬ hasR V r) : delW P Ac Mo V lg r = (-1000002, V, lg) := if_neg h
theorem goK_r {a b c : Prop} (h : goK a b c = 0) : a ∧ b ∧ c := by
  by_cases p : a
  · by_cases q : b
    · by_cases r : c
      · exact ⟨p, q, r⟩
      · rw [goK_3 p q r] at h; cases h
    · rw [goK_2 p q] at h; cases h
  · rw [goK_1 p] at h; cases h

set_option maxHeartbeats 2000000 in
set_option maxRecDepth 100000 in
theorem c_L_value (l : Launch) (D : va_G) (cI cZ cC : ClassId) (b0 : Nat) (adK adV : Nat → Nat) (sz : Nat) (ad : Nat → Nat) (be : Nat) (n : Int) (V : Int → Int) (t k c : Int) (g_lt : l.stackTraces = false) (g_V : ∀ j : Int, 0 ≤ j → j < 160 → -2 ≤ V j ∧ V j ≤ 19) (g_rg : 0 ≤ t ∧ t < 4 ∧ 0 ≤ k ∧ k < 20 ∧ 0 ≤ c ∧ c < 2) : zWr l yL_value wsL_value ({ frames := 7, cells := 1, slots := 6, locals := 105 }) D cI cZ cC b0 adK adV [(ad 0, .inr (7, [.ref (ad 1), .ref (ad 4), .ref (ad 8), .ref (ad 12), .ref (ad 16), .ref (ad 18)])), (ad 1, .inr (4, [.ref (ad 2), .ref (be), .int (iI (n))])), (ad 2, .inl (cI, 160, .inl (iA (V))))] sz [.ref (ad 0), .int (iI (t)), .int (iI (k)), .int (iI (c))] (1) (6) (fun (u : Unit) => [(ad 0, .inr (7, [.ref (ad 1), .ref (ad 4), .ref (ad 8), .ref (ad 12), .ref (ad 16), .ref (ad 18)])), (ad 1, .inr (4, [.ref (ad 2), .ref (be), .int (iI (n))])), (ad 2, .inl (cI, 160, .inl (iA (V))))]) (fun v _ => v = vOf V (t * 20 + k) c ∧ True) := by
  refine z_ofWr (cc := cL_value) (maxL := 5) (ret := (some .int)) (hh := [(0, 7, 8, 16)]) RL (by decide +kernel) rfl rfl (Nat.le_of_ble_eq_true rfl) ?_
  intro p0 en0 s0 m0 args0 below0 meth0 c0 ls AA hx hb hr hlocks hml hown hts htab hCa hX hE hAb hbs hP hD hS hA hK hl
  have hl : lv_has ls 5 [(0, .ref (ad 0)), (1, .int (iI (t))), (2, .int (iI (k))), (3, .int (iI (c)))] := hl
  obtain ⟨H, hH⟩ : ∃ H, H = s0.heap := ⟨_, rfl⟩
  obtain ⟨locs, hlo⟩ : ∃ locs : List Loc, locs = [] := ⟨_, rfl⟩
  have hP : va_P D vwCl [(ad 0, .inr (7, [.ref (ad 1), .ref (ad 4), .ref (ad 8), .ref (ad 12), .ref (ad 16), .ref (ad 18)])), (ad 1, .inr (4, [.ref (ad 2), .ref (be), .int (iI (n))])), (ad 2, .inl (cI, 160, .inl (iA (V))))] H := by rw [hH]; exact hP
  have hS : va_S AA s0.heap H locs := by rw [hH, hlo]; exact hS
  suffices hW : W p0 l en0 (headSpec wsL_value ({ frames := 7, cells := 1, slots := 6, locals := 105 })).room s0 m0 args0 below0 meth0 c0 H locs 0 0 (QMi below0 D ((fun (u : Unit) => [(ad 0, .inr (7, [.ref (ad 1), .ref (ad 4), .ref (ad 8), .ref (ad 12), .ref (ad 16), .ref (ad 18)])), (ad 1, .inr (4, [.ref (ad 2), .ref (be), .int (iI (n))])), (ad 2, .inl (cI, 160, .inl (iA (V))))])) (fun v _ => v = vOf V (t * 20 + k) c ∧ True) AA args0 s0 (1) (6)) (F0 m0 0 ls []) by rw [hH, hlo] at hW; exact hW
  refine lv_aload_n hx hb dL_value_0 rfl (lv_at hl 0 rfl) ?_
  refine lv_iload_n hx hb dL_value_1 rfl (lv_at hl 1 rfl) ?_
  refine lv_iload_n hx hb dL_value_2 rfl (lv_at hl 2 rfl) ?_
  refine lv_iload_n hx hb dL_value_3 rfl (lv_at hl 3 rfl) ?_
  refine z_thV (As := [.int (iI (t)), .int (iI (k)), .int (iI (c))]) (rest := []) (wr := []) (ws2 := (fun (u : Unit) => [(ad 0, .inr (7, [.ref (ad 1), .ref (ad 4), .ref (ad 8), .ref (ad 12), .ref (ad 16), .ref (ad 18)])), (ad 1, .inr (4, [.ref (ad 2), .ref (be), .int (iI (n))])), (ad 2, .inl (cI, 160, .inl (iA (V))))])) hX hE hAb hbs ⟨hx, hb, hml, hown, hts⟩ (c_X7_value l D cI cZ cC b0 adK adV H.size ad be n V t k c (by first | assumption | omega) (by first | assumption | omega) (by first | assumption | omega) (by first | assumption | omega) (by first | assumption | omega)) (cwV 3 hts gL_value_X7_value rfl rfl rfl (by decide +kernel) ⟨Nat.le_of_ble_eq_true rfl, Nat.le_of_ble_eq_true rfl⟩) hP hD hS hA hK [0, 1, 2] [] [0, 1, 2] rfl (by decide) rfl (by decide) (by decide) (by decide) (fun _ => rfl) 0 7 rfl rfl rfl rfl hl.1 rfl (Nat.le_of_ble_eq_true rfl) dL_value_4 ⟨by show _ ≤ (1 : Nat); omega, by show _ ≤ (6 : Nat); omega⟩ (fun E ce q8 u H locs hq hP hD hS hc1 hc2 hc3 => ?_) (fun v9 u H locs hq hP hD hS => ?_)
  · have hth : thr3 (goK (0 ≤ t ∧ t < 4 ∧ 0 ≤ k ∧ k < 20 ∧ 0 ≤ c ∧ c < 2) (True) (True)) E := hq
    have hP : va_P D vwCl [(ad 0, .inr (7, [.ref (ad 1), .ref (ad 4), .ref (ad 8), .ref (ad 12), .ref (ad 16), .ref (ad 18)])), (ad 1, .inr (4, [.ref (ad 2), .ref (be), .int (iI (n))])), (ad 2, .inl (cI, 160, .inl (iA (V))))] H := hP
    have hD : va_D AA [(ad 0, .inr (7, [.ref (ad 1), .ref (ad 4), .ref (ad 8), .ref (ad 12), .ref (ad 16), .ref (ad 18)])), (ad 1, .inr (4, [.ref (ad 2), .ref (be), .int (iI (n))])), (ad 2, .inl (cI, 160, .inl (iA (V))))] := hD
    rcases hth with ⟨g_e, g_E⟩ | ⟨g_e, g_E⟩ | ⟨g_e, g_E⟩
    · subst g_E
      refine vx_catch (own := RL) (name := xI) (E := xI) hown [] { startPc := 0, endPc := 7, handlerPc := 8, catchType := 16 } [] htab (fun z hz => absurd hz List.not_mem_nil) (by decide) (by decide) (hts (.classLink RL 16 "java/lang/IndexOutOfBoundsException") (List.mem_of_getElem? (i := 1) rfl)) (hCa.1 _ _ (List.mem_of_getElem? (i := 0) rfl)) hc1 hc2 hc3 ?_
      refine lv_astore (lv' := [(4, .ref (q8)), (0, .ref (ad 0)), (1, .int (iI (t))), (2, .int (iI (k))), (3, .int (iI (c)))]) hx hb dL_value_8 hl (by decide) rfl (fun ls hl => ?_)
      refine lv_ldc (v := iI (-1000001)) hx hb hown (by rw [show iI (-1000001) = (-1000001 : Int32) from by decide]; exact (hts (.constant RL 18 (-1000001)) (List.mem_of_getElem? (i := 2) rfl))) dL_value_10 ?_
      refine W.widen (k := 1) (n := 6) (by omega) (by omega) ?_
      refine z_mret (u) hx hb hr hlocks dL_value_12 hP hD hS ?_
      exfalso
      have h9 : goK (0 ≤ t ∧ t < 4 ∧ 0 ≤ k ∧ k < 20 ∧ 0 ≤ c ∧ c < 2) (True) (True) = 0 := goK_0 g_rg trivial trivial
      omega
    · exfalso
      have h9 : goK (0 ≤ t ∧ t < 4 ∧ 0 ≤ k ∧ k < 20 ∧ 0 ≤ c ∧ c < 2) (True) (True) = 0 := goK_0 g_rg trivial trivial
      omega
    · exfalso
      have h9 : goK (0 ≤ t ∧ t < 4 ∧ 0 ≤ k ∧ k < 20 ∧ 0 ≤ c ∧ c < 2) (True) (True) = 0 := goK_0 g_rg trivial trivial
      omega
  · have hP : va_P D vwCl [(ad 0, .inr (7, [.ref (ad 1), .ref (ad 4), .ref (ad 8), .ref (ad 12), .ref (ad 16), .ref (ad 18)])), (ad 1, .inr (4, [.ref (ad 2), .ref (be), .int (iI (n))])), (ad 2, .inl (cI, 160, .inl (iA (V))))] H := hP
    have hD : va_D AA [(ad 0, .inr (7, [.ref (ad 1), .ref (ad 4), .ref (ad 8), .ref (ad 12), .ref (ad 16), .ref (ad 18)])), (ad 1, .inr (4, [.ref (ad 2), .ref (be), .int (iI (n))])), (ad 2, .inl (cI, 160, .inl (iA (V))))] := hD
    refine W.widen (k := 1) (n := 6) (by omega) (by omega) ?_
    refine z_mret (u) hx hb hr hlocks dL_value_7 hP hD hS ?_
    exact ⟨hq.2, trivial⟩

set_option maxHeartbeats 2000000 in
set_option maxRecDepth 100000 in
theorem c_L_rows (l : Launch) (D : va_G) (cI cZ cC : ClassId) (b0 : Nat) (adK adV : Nat → Nat) (sz : Nat) (ad : Nat → Nat) (be : Nat) (n : Int) (V : Int → Int) (t : Int) (g_lt : l.stackTraces = false) (g_V : ∀ j : Int, 0 ≤ j → j < 160 → -2 ≤ V j ∧ V j ≤ 19) (g_rg : 0 ≤ t ∧ t < 4) : zWr l yL_rows wsL_rows ({ frames := 7, cells := 1, slots := 6, locals := 103 }) D cI cZ cC b0 adK adV [(ad 0, .inr (7, [.ref (ad 1), .ref (ad 4), .ref (ad 8), .ref (ad 12), .ref (ad 16), .ref (ad 18)])), (ad 1, .inr (4, [.ref (ad 2), .ref (be), .int (iI (n))])), (ad 2, .inl (cI, 160, .inl (iA (V))))] sz [.ref (ad 0), .int (iI (t))] (1) (6) (fun (u : Unit) => [(ad 0, .inr (7, [.ref (ad 1), .ref (ad 4), .ref (ad 8), .ref (ad 12), .ref (ad 16), .ref (ad 18)])), (ad 1, .inr (4, [.ref (ad 2), .ref (be), .int (iI (n))])), (ad 2, .inl (cI, 160, .inl (iA (V))))]) (fun v _ => v = rwS V t ∧ True) := by
  refine z_ofWr (cc := cL_rows) (maxL := 3) (ret := (some .int)) (hh := [(0, 5, 6, 16)]) RL (by decide +kernel) rfl rfl (Nat.le_of_ble_eq_true rfl) ?_
  intro p0 en0 s0 m0 args0 below0 meth0 c0 ls AA hx hb hr hlocks hml hown hts htab hCa hX hE hAb hbs hP hD hS hA hK hl
  have hl : lv_has ls 3 [(0, .ref (ad 0)), (1, .int (iI (t)))] := hl
  obtain ⟨H, hH⟩ : ∃ H, H = s0.heap := ⟨_, rfl⟩
  obtain ⟨locs, hlo⟩ : ∃ locs : List Loc, locs = [] := ⟨_, rfl⟩
  have hP : va_P D vwCl [(ad 0, .inr (7, [.ref (ad 1), .ref (ad 4), .ref (ad 8), .ref (ad 12), .ref (ad 16), .ref (ad 18)])), (ad 1, .inr (4, [.ref (ad 2), .ref (be), .int (iI (n))])), (ad 2, .inl (cI, 160, .inl (iA (V))))] H := by rw [hH]; exact hP
  have hS : va_S AA s0.heap H locs := by rw [hH, hlo]; exact hS
  suffices hW : W p0 l en0 (headSpec wsL_rows ({ frames := 7, cells := 1, slots := 6, locals := 103 })).room s0 m0 args0 below0 meth0 c0 H locs 0 0 (QMi below0 D ((fun (u : Unit) => [(ad 0, .inr (7, [.ref (ad 1), .ref (ad 4), .ref (ad 8), .ref (ad 12), .ref (ad 16), .ref (ad 18)])), (ad 1, .inr (4, [.ref (ad 2), .ref (be), .int (iI (n))])), (ad 2, .inl (cI, 160, .inl (iA (V))))])) (fun v _ => v = rwS V t ∧ True) AA args0 s0 (1) (6)) (F0 m0 0 ls []) by rw [hH, hlo] at hW; exact hW
  refine lv_aload_n hx hb dL_rows_0 rfl (lv_at hl 0 rfl) ?_
  refine lv_iload_n hx hb dL_rows_1 rfl (lv_at hl 1 rfl) ?_
  refine z_thV (As := [.int (iI (t))]) (rest := []) (wr := []) (ws2 := (fun (u : Unit) => [(ad 0, .inr (7, [.ref (ad 1), .ref (ad 4), .ref (ad 8), .ref (ad 12), .ref (ad 16), .ref (ad 18)])), (ad 1, .inr (4, [.ref (ad 2), .ref (be), .int (iI (n))])), (ad 2, .inl (cI, 160, .inl (iA (V))))])) hX hE hAb hbs ⟨hx, hb, hml, hown, hts⟩ (c_X7_rows l D cI cZ cC b0 adK adV H.size ad be n V t (by first | assumption | omega) (by first | assumption | omega) (by first | assumption | omega)) (cwV 1 hts gL_rows_X7_rows rfl rfl rfl (by decide +kernel) ⟨Nat.le_of_ble_eq_true rfl, Nat.le_of_ble_eq_true rfl⟩) hP hD hS hA hK [0, 1, 2] [] [0, 1, 2] rfl (by decide) rfl (by decide) (by decide) (by decide) (fun _ => rfl) 0 7 rfl rfl rfl rfl hl.1 rfl (Nat.le_of_ble_eq_true rfl) dL_rows_2 ⟨by show _ ≤ (1 : Nat); omega, by show _ ≤ (6 : Nat); omega⟩ (fun E ce q8 u H locs hq hP hD hS hc1 hc2 hc3 => ?_) (fun v9 u H locs hq hP hD hS => ?_)
  · have hth : thr3 (goK (0 ≤ t ∧ t < 4) (True) (True)) E := hq
    have hP : va_P D vwCl [(ad 0, .inr (7, [.ref (ad 1), .ref (ad 4), .ref (ad 8), .ref (ad 12), .ref (ad 16), .ref (ad 18)])), (ad 1, .inr (4, [.ref (ad 2), .ref (be), .int (iI (n))])), (ad 2, .inl (cI, 160, .inl (iA (V))))] H := hP
    have hD : va_D AA [(ad 0, .inr (7, [.ref (ad 1), .ref (ad 4), .ref (ad 8), .ref (ad 12), .ref (ad 16), .ref (ad 18)])), (ad 1, .inr (4, [.ref (ad 2), .ref (be), .int (iI (n))])), (ad 2, .inl (cI, 160, .inl (iA (V))))] := hD
    rcases hth with ⟨g_e, g_E⟩ | ⟨g_e, g_E⟩ | ⟨g_e, g_E⟩
    · subst g_E
      refine vx_catch (own := RL) (name := xI) (E := xI) hown [] { startPc := 0, endPc := 5, handlerPc := 6, catchType := 16 } [] htab (fun z hz => absurd hz List.not_mem_nil) (by decide) (by decide) (hts (.classLink RL 16 "java/lang/IndexOutOfBoundsException") (List.mem_of_getElem? (i := 1) rfl)) (hCa.1 _ _ (List.mem_of_getElem? (i := 0) rfl)) hc1 hc2 hc3 ?_
      refine lv_astore_n (lv' := [(2, .ref (q8)), (0, .ref (ad 0)), (1, .int (iI (t)))]) hx hb dL_rows_6 rfl hl (by decide) rfl (fun ls hl => ?_)
      refine lv_ldc (v := iI (-1000001)) hx hb hown (by rw [show iI (-1000001) = (-1000001 : Int32) from by decide]; exact (hts (.constant RL 18 (-1000001)) (List.mem_of_getElem? (i := 2) rfl))) dL_rows_7 ?_
      refine W.widen (k := 1) (n := 6) (by omega) (by omega) ?_
      refine z_mret (u) hx hb hr hlocks dL_rows_9 hP hD hS ?_
      exfalso
      have h9 : goK (0 ≤ t ∧ t < 4) (True) (True) = 0 := goK_0 g_rg trivial trivial
      omega
    · exfalso
      have h9 : goK (0 ≤ t ∧ t < 4) (True) (True) = 0 := goK_0 g_rg trivial trivial
      omega
    · exfalso
      have h9 : goK (0 ≤ t ∧ t < 4) (True) (True) = 0 := goK_0 g_rg trivial trivial
      omega
  · have hP : va_P D vwCl [(ad 0, .inr (7, [.ref (ad 1), .ref (ad 4), .ref (ad 8), .ref (ad 12), .ref (ad 16), .ref (ad 18)])), (ad 1, .inr (4, [.ref (ad 2), .ref (be), .int (iI (n))])), (ad 2, .inl (cI, 160, .inl (iA (V))))] H := hP
    have hD : va_D AA [(ad 0, .inr (7, [.ref (ad 1), .ref (ad 4), .ref (ad 8), .ref (ad 12), .ref (ad 16), .ref (ad 18)])), (ad 1, .inr (4, [.ref (ad 2), .ref (be), .int (iI (n))])), (ad 2, .inl (cI, 160, .inl (iA (V))))] := hD
    refine W.widen (k := 1) (n := 6) (by omega) (by omega) ?_
    refine z_mret (u) hx hb hr hlocks dL_rows_5 hP hD hS ?_
    exact ⟨hq.2, trivial⟩

set_option maxHeartbeats 2000000 in
set_option maxRecDepth 100000 in
theorem c_L_references (l : Launch) (D : va_G) (cI cZ cC : ClassId) (b0 : Nat) (adK adV : Nat → Nat) (sz : Nat) (ad : Nat → Nat) (be : Nat) (n : Int) (P V : Int → Int) (t k : Int) (g_lt : l.stackTraces = false) (g_V : ∀ j : Int, 0 ≤ j → j < 160 → -2 ≤ V j ∧ V j ≤ 19) (g_P : ∀ j : Int, 0 ≤ j → j < 8 → P j = -2 ∨ (0 ≤ P j ∧ P j < 4)) (g_rg : 0 ≤ t ∧ t < 4 ∧ 0 ≤ k ∧ k < 20) : zWr l yL_references wsL_references ({ frames := 7, cells := 1, slots := 6, locals := 104 }) D cI cZ cC b0 adK adV [(ad 0, .inr (7, [.ref (ad 1), .ref (ad 4), .ref (ad 8), .ref (ad 12), .ref (ad 16), .ref (ad 18)])), (ad 8, .inr (2, [.ref (ad 1), .ref (ad 4), .ref (ad 9)])), (ad 4, .inr (0, [.ref (ad 1), .ref (ad 5), .ref (ad 6), .ref (ad 7)])), (ad 5, .inl (cI, 8, .inl (iA (P)))), (ad 1, .inr (4, [.ref (ad 2), .ref (be), .int (iI (n))])), (ad 2, .inl (cI, 160, .inl (iA (V))))] sz [.ref (ad 0), .int (iI (t)), .int (iI (k))] (1) (6) (fun (u : Unit) => [(ad 0, .inr (7, [.ref (ad 1), .ref (ad 4), .ref (ad 8), .ref (ad 12), .ref (ad 16), .ref (ad 18)])), (ad 8, .inr (2, [.ref (ad 1), .ref (ad 4), .ref (ad 9)])), (ad 4, .inr (0, [.ref (ad 1), .ref (ad 5), .ref (ad 6), .ref (ad 7)])), (ad 5, .inl (cI, 8, .inl (iA (P)))), (ad 1, .inr (4, [.ref (ad 2), .ref (be), .int (iI (n))])), (ad 2, .inl (cI, 160, .inl (iA (V))))]) (fun v _ => v = refS P V (t * 20 + k) ∧ True) := by
  refine z_ofWr (cc := cL_references) (maxL := 4) (ret := (some .int)) (hh := [(0, 6, 7, 16)]) RL (by decide +kernel) rfl rfl (Nat.le_of_ble_eq_true rfl) ?_
  intro p0 en0 s0 m0 args0 below0 meth0 c0 ls AA hx hb hr hlocks hml hown hts htab hCa hX hE hAb hbs hP hD hS hA hK hl
  have hl : lv_has ls 4 [(0, .ref (ad 0)), (1, .int (iI (t))), (2, .int (iI (k)))] := hl
  obtain ⟨H, hH⟩ : ∃ H, H = s0.heap := ⟨_, rfl⟩
  obtain ⟨locs, hlo⟩ : ∃ locs : List Loc, locs = [] := ⟨_, rfl⟩
  have hP : va_P D vwCl [(ad 0, .inr (7, [.ref (ad 1), .ref (ad 4), .ref (ad 8), .ref (ad 12), .ref (ad 16), .ref (ad 18)])), (ad 8, .inr (2, [.ref (ad 1), .ref (ad 4), .ref (ad 9)])), (ad 4, .inr (0, [.ref (ad 1), .ref (ad 5), .ref (ad 6), .ref (ad 7)])), (ad 5, .inl (cI, 8, .inl (iA (P)))), (ad 1, .inr (4, [.ref (ad 2), .ref (be), .int (iI (n))])), (ad 2, .inl (cI, 160, .inl (iA (V))))] H := by rw [hH]; exact hP
  have hS : va_S AA s0.heap H locs := by rw [hH, hlo]; exact hS
  suffices hW : W p0 l en0 (headSpec wsL_references ({ frames := 7, cells := 1, slots := 6, locals := 104 })).room s0 m0 args0 below0 meth0 c0 H locs 0 0 (QMi below0 D ((fun (u : Unit) => [(ad 0, .inr (7, [.ref (ad 1), .ref (ad 4), .ref (ad 8), .ref (ad 12), .ref (ad 16), .ref (ad 18)])), (ad 8, .inr (2, [.ref (ad 1), .ref (ad 4), .ref (ad 9)])), (ad 4, .inr (0, [.ref (ad 1), .ref (ad 5), .ref (ad 6), .ref (ad 7)])), (ad 5, .inl (cI, 8, .inl (iA (P)))), (ad 1, .inr (4, [.ref (ad 2), .ref (be), .int (iI (n))])), (ad 2, .inl (cI, 160, .inl (iA (V))))])) (fun v _ => v = refS P V (t * 20 + k) ∧ True) AA args0 s0 (1) (6)) (F0 m0 0 ls []) by rw [hH, hlo] at hW; exact hW
  refine lv_aload_n hx hb dL_references_0 rfl (lv_at hl 0 rfl) ?_
  refine lv_iload_n hx hb dL_references_1 rfl (lv_at hl 1 rfl) ?_
  refine lv_iload_n hx hb dL_references_2 rfl (lv_at hl 2 rfl) ?_
  refine z_thV (As := [.int (iI (t)), .int (iI (k))]) (rest := []) (wr := []) (ws2 := (fun (u : Unit) => [(ad 0, .inr (7, [.ref (ad 1), .ref (ad 4), .ref (ad 8), .ref (ad 12), .ref (ad 16), .ref (ad 18)])), (ad 8, .inr (2, [.ref (ad 1), .ref (ad 4), .ref (ad 9)])), (ad 4, .inr (0, [.ref (ad 1), .ref (ad 5), .ref (ad 6), .ref (ad 7)])), (ad 5, .inl (cI, 8, .inl (iA (P)))), (ad 1, .inr (4, [.ref (ad 2), .ref (be), .int (iI (n))])), (ad 2, .inl (cI, 160, .inl (iA (V))))])) hX hE hAb hbs ⟨hx, hb, hml, hown, hts⟩ (c_X7_references l D cI cZ cC b0 adK adV H.size ad be n P V t k (by first | assumption | omega) (by first | assumption | omega) (by first | assumption | omega) (by first | assumption | omega) (by first | assumption | omega)) (cwV 2 hts gL_references_X7_references rfl rfl rfl (by decide +kernel) ⟨Nat.le_of_ble_eq_true rfl, Nat.le_of_ble_eq_true rfl⟩) hP hD hS hA hK [0, 1, 2, 3, 4, 5] [] [0, 1, 2, 3, 4, 5] rfl (by decide) rfl (by decide) (by decide) (by decide) (fun _ => rfl) 0 7 rfl rfl rfl rfl hl.1 rfl (Nat.le_of_ble_eq_true rfl) dL_references_3 ⟨by show _ ≤ (1 : Nat); omega, by show _ ≤ (6 : Nat); omega⟩ (fun E ce q8 u H locs hq hP hD hS hc1 hc2 hc3 => ?_) (fun v9 u H locs hq hP hD hS => ?_)
  · have hth : thr3 (goK (0 ≤ t ∧ t < 4 ∧ 0 ≤ k ∧ k < 20) (True) (True)) E := hq
    have hP : va_P D vwCl [(ad 0, .inr (7, [.ref (ad 1), .ref (ad 4), .ref (ad 8), .ref (ad 12), .ref (ad 16), .ref (ad 18)])), (ad 8, .inr (2, [.ref (ad 1), .ref (ad 4), .ref (ad 9)])), (ad 4, .inr (0, [.ref (ad 1), .ref (ad 5), .ref (ad 6), .ref (ad 7)])), (ad 5, .inl (cI, 8, .inl (iA (P)))), (ad 1, .inr (4, [.ref (ad 2), .ref (be), .int (iI (n))])), (ad 2, .inl (cI, 160, .inl (iA (V))))] H := hP
    have hD : va_D AA [(ad 0, .inr (7, [.ref (ad 1), .ref (ad 4), .ref (ad 8), .ref (ad 12), .ref (ad 16), .ref (ad 18)])), (ad 8, .inr (2, [.ref (ad 1), .ref (ad 4), .ref (ad 9)])), (ad 4, .inr (0, [.ref (ad 1), .ref (ad 5), .ref (ad 6), .ref (ad 7)])), (ad 5, .inl (cI, 8, .inl (iA (P)))), (ad 1, .inr (4, [.ref (ad 2), .ref (be), .int (iI (n))])), (ad 2, .inl (cI, 160, .inl (iA (V))))] := hD
    rcases hth with ⟨g_e, g_E⟩ | ⟨g_e, g_E⟩ | ⟨g_e, g_E⟩
    · subst g_E
      refine vx_catch (own := RL) (name := xI) (E := xI) hown [] { startPc := 0, endPc := 6, handlerPc := 7, catchType := 16 } [] htab (fun z hz => absurd hz List.not_mem_nil) (by decide) (by decide) (hts (.classLink RL 16 "java/lang/IndexOutOfBoundsException") (List.mem_of_getElem? (i := 1) rfl)) (hCa.1 _ _ (List.mem_of_getElem? (i := 0) rfl)) hc1 hc2 hc3 ?_
      refine lv_astore_n (lv' := [(3, .ref (q8)), (0, .ref (ad 0)), (1, .int (iI (t))), (2, .int (iI (k)))]) hx hb dL_references_7 rfl hl (by decide) rfl (fun ls hl => ?_)
      refine lv_ldc (v := iI (-1000001)) hx hb hown (by rw [show iI (-1000001) = (-1000001 : Int32) from by decide]; exact (hts (.constant RL 18 (-1000001)) (List.mem_of_getElem? (i := 2) rfl))) dL_references_8 ?_
      refine W.widen (k := 1) (n := 6) (by omega) (by omega) ?_
      refine z_mret (u) hx hb hr hlocks dL_references_10 hP hD hS ?_
      exfalso
      have h9 : goK (0 ≤ t ∧ t < 4 ∧ 0 ≤ k ∧ k < 20) (True) (True) = 0 := goK_0 g_rg trivial trivial
      omega
    · exfalso
      have h9 : goK (0 ≤ t ∧ t < 4 ∧ 0 ≤ k ∧ k < 20) (True) (True) = 0 := goK_0 g_rg trivial trivial
      omega
    · exfalso
      have h9 : goK (0 ≤ t ∧ t < 4 ∧ 0 ≤ k ∧ k < 20) (True) (True) = 0 := goK_0 g_rg trivial trivial
      omega
  · have hP : va_P D vwCl [(ad 0, .inr (7, [.ref (ad 1), .ref (ad 4), .ref (ad 8), .ref (ad 12), .ref (ad 16), .ref (ad 18)])), (ad 8, .inr (2, [.ref (ad 1), .ref (ad 4), .ref (ad 9)])), (ad 4, .inr (0, [.ref (ad 1), .ref (ad 5), .ref (ad 6), .ref (ad 7)])), (ad 5, .inl (cI, 8, .inl (iA (P)))), (ad 1, .inr (4, [.ref (ad 2), .ref (be), .int (iI (n))])), (ad 2, .inl (cI, 160, .inl (iA (V))))] H := hP
    have hD : va_D AA [(ad 0, .inr (7, [.ref (ad 1), .ref (ad 4), .ref (ad 8), .ref (ad 12), .ref (ad 16), .ref (ad 18)])), (ad 8, .inr (2, [.ref (ad 1), .ref (ad 4), .ref (ad 9)])), (ad 4, .inr (0, [.ref (ad 1), .ref (ad 5), .ref (ad 6), .ref (ad 7)])), (ad 5, .inl (cI, 8, .inl (iA (P)))), (ad 1, .inr (4, [.ref (ad 2), .ref (be), .int (iI (n))])), (ad 2, .inl (cI, 160, .inl (iA (V))))] := hD
    refine W.widen (k := 1) (n := 6) (by omega) (by omega) ?_
    refine z_mret (u) hx hb hr hlocks dL_references_6 hP hD hS ?_
    exact ⟨hq.2, trivial⟩

set_option maxHeartbeats 2000000 in
set_option maxRecDepth 100000 in
theorem c_L_constraint (l : Launch) (D : va_G) (cI cZ cC : ClassId) (b0 : Nat) (adK adV : Nat → Nat) (sz : Nat) (ad : Nat → Nat) (be : Nat) (n : Int) (P Ac Mo V : Int → Int) (t k p : Int) (g_lt : l.stackTraces = false) (g_V : ∀ j : Int, 0 ≤ j → j < 160 → -2 ≤ V j ∧ V j ≤ 19) (g_P : ∀ j : Int, 0 ≤ j → j < 8 → P j = -2 ∨ (0 ≤ P j ∧ P j < 4)) (g_Mo : ∀ j : Int, 0 ≤ j → j < 8 → Mo j = 0 ∨ Mo j = 1) (g_Ac : ∀ j : Int, 0 ≤ j → j < 8 → 0 ≤ Ac j ∧ Ac j ≤ 3) (g_rg : (0 ≤ t ∧ t < 4 ∧ 0 ≤ k ∧ k < 2) ∧ 0 ≤ p ∧ p ≤ 3) : zWr l yL_constraint wsL_constraint ({ frames := 7, cells := 1, slots := 6, locals := 106 }) D cI cZ cC b0 adK adV [(ad 0, .inr (7, [.ref (ad 1), .ref (ad 4), .ref (ad 8), .ref (ad 12), .ref (ad 16), .ref (ad 18)])), (ad 4, .inr (0, [.ref (ad 1), .ref (ad 5), .ref (ad 6), .ref (ad 7)])), (ad 5, .inl (cI, 8, .inl (iA (P)))), (ad 6, .inl (cI, 8, .inl (iA (Ac)))), (ad 7, .inl (cZ, 8, .inl (iA (Mo)))), (ad 1, .inr (4, [.ref (ad 2), .ref (be), .int (iI (n))])), (ad 2, .inl (cI, 160, .inl (iA (V))))] sz [.ref (ad 0), .int (iI (t)), .int (iI (k)), .int (iI (p))] (1) (6) (fun (u : Unit) => [(ad 0, .inr (7, [.ref (ad 1), .ref (ad 4), .ref (ad 8), .ref (ad 12), .ref (ad 16), .ref (ad 18)])), (ad 4, .inr (0, [.ref (ad 1), .ref (ad 5), .ref (ad 6), .ref (ad 7)])), (ad 5, .inl (cI, 8, .inl (iA (P)))), (ad 6, .inl (cI, 8, .inl (iA (Ac)))), (ad 7, .inl (cZ, 8, .inl (iA (Mo)))), (ad 1, .inr (4, [.ref (ad 2), .ref (be), .int (iI (n))])), (ad 2, .inl (cI, 160, .inl (iA (V))))]) (fun v _ => v = conF P Ac Mo V (t * 2 + k) p ∧ True) := by
  refine z_ofWr (cc := cL_constraint) (maxL := 5) (ret := (some .int)) (hh := [(0, 7, 8, 16), (0, 7, 13, 19)]) RL (by decide +kernel) rfl rfl (Nat.le_of_ble_eq_true rfl) ?_
  intro p0 en0 s0 m0 args0 below0 meth0 c0 ls AA hx hb hr hlocks hml hown hts htab hCa hX hE hAb hbs hP hD hS hA hK hl
  have hl : lv_has ls 5 [(0, .ref (ad 0)), (1, .int (iI (t))), (2, .int (iI (k))), (3, .int (iI (p)))] := hl
  obtain ⟨H, hH⟩ : ∃ H, H = s0.heap := ⟨_, rfl⟩
  obtain ⟨locs, hlo⟩ : ∃ locs : List Loc, locs = [] := ⟨_, rfl⟩
  have hP : va_P D vwCl [(ad 0, .inr (7, [.ref (ad 1), .ref (ad 4), .ref (ad 8), .ref (ad 12), .ref (ad 16), .ref (ad 18)])), (ad 4, .inr (0, [.ref (ad 1), .ref (ad 5), .ref (ad 6), .ref (ad 7)])), (ad 5, .inl (cI, 8, .inl (iA (P)))), (ad 6, .inl (cI, 8, .inl (iA (Ac)))), (ad 7, .inl (cZ, 8, .inl (iA (Mo)))), (ad 1, .inr (4, [.ref (ad 2), .ref (be), .int (iI (n))])), (ad 2, .inl (cI, 160, .inl (iA (V))))] H := by rw [hH]; exact hP
  have hS : va_S AA s0.heap H locs := by rw [hH, hlo]; exact hS
  suffices hW : W p0 l en0 (headSpec wsL_constraint ({ frames := 7, cells := 1, slots := 6, locals := 106 })).room s0 m0 args0 below0 meth0 c0 H locs 0 0 (QMi below0 D ((fun (u : Unit) => [(ad 0, .inr (7, [.ref (ad 1), .ref (ad 4), .ref (ad 8), .ref (ad 12), .ref (ad 16), .ref (ad 18)])), (ad 4, .inr (0, [.ref (ad 1), .ref (ad 5), .ref (ad 6), .ref (ad 7)])), (ad 5, .inl (cI, 8, .inl (iA (P)))), (ad 6, .inl (cI, 8, .inl (iA (Ac)))), (ad 7, .inl (cZ, 8, .inl (iA (Mo)))), (ad 1, .inr (4, [.ref (ad 2), .ref (be), .int (iI (n))])), (ad 2, .inl (cI, 160, .inl (iA (V))))])) (fun v _ => v = conF P Ac Mo V (t * 2 + k) p ∧ True) AA args0 s0 (1) (6)) (F0 m0 0 ls []) by rw [hH, hlo] at hW; exact hW
  refine lv_aload_n hx hb dL_constraint_0 rfl (lv_at hl 0 rfl) ?_
  refine lv_iload_n hx hb dL_constraint_1 rfl (lv_at hl 1 rfl) ?_
  refine lv_iload_n hx hb dL_constraint_2 rfl (lv_at hl 2 rfl) ?_
  refine lv_iload_n hx hb dL_constraint_3 rfl (lv_at hl 3 rfl) ?_
  refine z_thV (As := [.int (iI (t)), .int (iI (k)), .int (iI (p))]) (rest := []) (wr := []) (ws2 := (fun (u : Unit) => [(ad 0, .inr (7, [.ref (ad 1), .ref (ad 4), .ref (ad 8), .ref (ad 12), .ref (ad 16), .ref (ad 18)])), (ad 4, .inr (0, [.ref (ad 1), .ref (ad 5), .ref (ad 6), .ref (ad 7)])), (ad 5, .inl (cI, 8, .inl (iA (P)))), (ad 6, .inl (cI, 8, .inl (iA (Ac)))), (ad 7, .inl (cZ, 8, .inl (iA (Mo)))), (ad 1, .inr (4, [.ref (ad 2), .ref (be), .int (iI (n))])), (ad 2, .inl (cI, 160, .inl (iA (V))))])) hX hE hAb hbs ⟨hx, hb, hml, hown, hts⟩ (c_X7_constraint l D cI cZ cC b0 adK adV H.size ad be n P Ac Mo V t k p (by first | assumption | omega) (by first | assumption | omega) (by first | assumption | omega) (by first | assumption | omega) (by first | assumption | omega) (by first | assumption | omega) (by first | assumption | omega) (by first | assumption | omega)) (cwV 3 hts gL_constraint_X7_constraint rfl rfl rfl (by decide +kernel) ⟨Nat.le_of_ble_eq_true rfl, Nat.le_of_ble_eq_true rfl⟩) hP hD hS hA hK [0, 1, 2, 3, 4, 5, 6] [] [0, 1, 2, 3, 4, 5, 6] rfl (by decide) rfl (by decide) (by decide) (by decide) (fun _ => rfl) 0 7 rfl rfl rfl rfl hl.1 rfl (Nat.le_of_ble_eq_true rfl) dL_constraint_4 ⟨by show _ ≤ (1 : Nat); omega, by show _ ≤ (6 : Nat); omega⟩ (fun E ce q8 u H locs hq hP hD hS hc1 hc2 hc3 => ?_) (fun v9 u H locs hq hP hD hS => ?_)
  · have hth : thr3 (goK (0 ≤ t ∧ t < 4 ∧ 0 ≤ k ∧ k < 2) (0 ≤ p ∧ p ≤ 3) (True)) E := hq
    have hP : va_P D vwCl [(ad 0, .inr (7, [.ref (ad 1), .ref (ad 4), .ref (ad 8), .ref (ad 12), .ref (ad 16), .ref (ad 18)])), (ad 4, .inr (0, [.ref (ad 1), .ref (ad 5), .ref (ad 6), .ref (ad 7)])), (ad 5, .inl (cI, 8, .inl (iA (P)))), (ad 6, .inl (cI, 8, .inl (iA (Ac)))), (ad 7, .inl (cZ, 8, .inl (iA (Mo)))), (ad 1, .inr (4, [.ref (ad 2), .ref (be), .int (iI (n))])), (ad 2, .inl (cI, 160, .inl (iA (V))))] H := hP
    have hD : va_D AA [(ad 0, .inr (7, [.ref (ad 1), .ref (ad 4), .ref (ad 8), .ref (ad 12), .ref (ad 16), .ref (ad 18)])), (ad 4, .inr (0, [.ref (ad 1), .ref (ad 5), .ref (ad 6), .ref (ad 7)])), (ad 5, .inl (cI, 8, .inl (iA (P)))), (ad 6, .inl (cI, 8, .inl (iA (Ac)))), (ad 7, .inl (cZ, 8, .inl (iA (Mo)))), (ad 1, .inr (4, [.ref (ad 2), .ref (be), .int (iI (n))])), (ad 2, .inl (cI, 160, .inl (iA (V))))] := hD
    rcases hth with ⟨g_e, g_E⟩ | ⟨g_e, g_E⟩ | ⟨g_e, g_E⟩
    · subst g_E
      refine vx_catch (own := RL) (name := xI) (E := xI) hown [] { startPc := 0, endPc := 7, handlerPc := 8, catchType := 16 } [{ startPc := 0, endPc := 7, handlerPc := 13, catchType := 19 }] htab (fun z hz => absurd hz List.not_mem_nil) (by decide) (by decide) (hts (.classLink RL 16 "java/lang/IndexOutOfBoundsException") (List.mem_of_getElem? (i := 1) rfl)) (hCa.1 _ _ (List.mem_of_getElem? (i := 0) rfl)) hc1 hc2 hc3 ?_
      refine lv_astore (lv' := [(4, .ref (q8)), (0, .ref (ad 0)), (1, .int (iI (t))), (2, .int (iI (k))), (3, .int (iI (p)))]) hx hb dL_constraint_8 hl (by decide) rfl (fun ls hl => ?_)
      refine lv_ldc (v := iI (-1000001)) hx hb hown (by rw [show iI (-1000001) = (-1000001 : Int32) from by decide]; exact (hts (.constant RL 18 (-1000001)) (List.mem_of_getElem? (i := 3) rfl))) dL_constraint_10 ?_
      refine W.widen (k := 1) (n := 6) (by omega) (by omega) ?_
      refine z_mret (u) hx hb hr hlocks dL_constraint_12 hP hD hS ?_
      exfalso
      have h9 : goK (0 ≤ t ∧ t < 4 ∧ 0 ≤ k ∧ k < 2) (0 ≤ p ∧ p ≤ 3) (True) = 0 := goK_0 g_rg.1 g_rg.2 trivial
      omega
    · subst g_E
      refine vx_catch (own := RL) (name := xA) (E := xA) hown [{ startPc := 0, endPc := 7, handlerPc := 8, catchType := 16 }] { startPc := 0, endPc := 7, handlerPc := 13, catchType := 19 } [] htab (List.forall_mem_cons.mpr ⟨Or.inr ⟨by decide, xI, (hts (.classLink RL 16 "java/lang/IndexOutOfBoundsException") (List.mem_of_getElem? (i := 1) rfl)), hCa.2.2.2.1⟩, (fun z hz => absurd hz List.not_mem_nil)⟩) (by decide) (by decide) (hts (.classLink RL 19 "java/lang/IllegalArgumentException") (List.mem_of_getElem? (i := 2) rfl)) (hCa.1 _ _ (List.mem_of_getElem? (i := 1) rfl)) hc1 hc2 hc3 ?_
      refine lv_astore (lv' := [(4, .ref (q8)), (0, .ref (ad 0)), (1, .int (iI (t))), (2, .int (iI (k))), (3, .int (iI (p)))]) hx hb dL_constraint_13 hl (by decide) rfl (fun ls hl => ?_)
      refine lv_ldc (v := iI (-1000002)) hx hb hown (by rw [show iI (-1000002) = (-1000002 : Int32) from by decide]; exact (hts (.constant RL 21 (-1000002)) (List.mem_of_getElem? (i := 4) rfl))) dL_constraint_15 ?_
      refine W.widen (k := 1) (n := 6) (by omega) (by omega) ?_
      refine z_mret (u) hx hb hr hlocks dL_constraint_17 hP hD hS ?_
      exfalso
      have h9 : goK (0 ≤ t ∧ t < 4 ∧ 0 ≤ k ∧ k < 2) (0 ≤ p ∧ p ≤ 3) (True) = 0 := goK_0 g_rg.1 g_rg.2 trivial
      omega
    · exfalso
      have h9 : goK (0 ≤ t ∧ t < 4 ∧ 0 ≤ k ∧ k < 2) (0 ≤ p ∧ p ≤ 3) (True) = 0 := goK_0 g_rg.1 g_rg.2 trivial
      omega
  · have hP : va_P D vwCl [(ad 0, .inr (7, [.ref (ad 1), .ref (ad 4), .ref (ad 8), .ref (ad 12), .ref (ad 16), .ref (ad 18)])), (ad 4, .inr (0, [.ref (ad 1), .ref (ad 5), .ref (ad 6), .ref (ad 7)])), (ad 5, .inl (cI, 8, .inl (iA (P)))), (ad 6, .inl (cI, 8, .inl (iA (Ac)))), (ad 7, .inl (cZ, 8, .inl (iA (Mo)))), (ad 1, .inr (4, [.ref (ad 2), .ref (be), .int (iI (n))])), (ad 2, .inl (cI, 160, .inl (iA (V))))] H := hP
    have hD : va_D AA [(ad 0, .inr (7, [.ref (ad 1), .ref (ad 4), .ref (ad 8), .ref (ad 12), .ref (ad 16), .ref (ad 18)])), (ad 4, .inr (0, [.ref (ad 1), .ref (ad 5), .ref (ad 6), .ref (ad 7)])), (ad 5, .inl (cI, 8, .inl (iA (P)))), (ad 6, .inl (cI, 8, .inl (iA (Ac)))), (ad 7, .inl (cZ, 8, .inl (iA (Mo)))), (ad 1, .inr (4, [.ref (ad 2), .ref (be), .int (iI (n))])), (ad 2, .inl (cI, 160, .inl (iA (V))))] := hD
    refine W.widen (k := 1) (n := 6) (by omega) (by omega) ?_
    refine z_mret (u) hx hb hr hlocks dL_constraint_7 hP hD hS ?_
    exact ⟨hq.2, trivial⟩

set_option maxHeartbeats 2000000 in
set_option maxRecDepth 100000 in
theorem c_L_ancestors (l : Launch) (D : va_G) (cI cZ cC : ClassId) (b0 : Nat) (adK adV : Nat → Nat) (sz : Nat) (ad : Nat → Nat) (be : Nat) (n : Int) (P V : Int → Int) (Qa Qk : Int → Int) (ql : Int) (t k : Int) (g_lt : l.stackTraces = false) (g_V : ∀ j : Int, 0 ≤ j → j < 160 → -2 ≤ V j ∧ V j ≤ 19) (g_P : ∀ j : Int, 0 ≤ j → j < 8 → P j = -2 ∨ (0 ≤ P j ∧ P j < 4)) (g_rg : 0 ≤ t ∧ t < 4 ∧ 0 ≤ k ∧ k < 20) : zWr l yL_ancestors wsL_ancestors ({ frames := 7, cells := 1, slots := 6, locals := 115 }) D cI cZ cC b0 adK adV [(ad 0, .inr (7, [.ref (ad 1), .ref (ad 4), .ref (ad 8), .ref (ad 12), .ref (ad 16), .ref (ad 18)])), (ad 8, .inr (2, [.ref (ad 1), .ref (ad 4), .ref (ad 9)])), (ad 4, .inr (0, [.ref (ad 1), .ref (ad 5), .ref (ad 6), .ref (ad 7)])), (ad 5, .inl (cI, 8, .inl (iA (P)))), (ad 1, .inr (4, [.ref (ad 2), .ref (be), .int (iI (n))])), (ad 2, .inl (cI, 160, .inl (iA (V)))), (ad 9, .inr (3, [.ref (ad 10), .ref (ad 11), .int (iI (ql))])), (ad 10, .inl (cI, 80, .inl (iA (Qa)))), (ad 11, .inl (cZ, 80, .inl (iA (Qk))))] sz [.ref (ad 0), .int (iI (t)), .int (iI (k))] (1) (6) (fun (u : (Int → Int) × (Int → Int) × Int) => [(ad 0, .inr (7, [.ref (ad 1), .ref (ad 4), .ref (ad 8), .ref (ad 12), .ref (ad 16), .ref (ad 18)])), (ad 8, .inr (2, [.ref (ad 1), .ref (ad 4), .ref (ad 9)])), (ad 4, .inr (0, [.ref (ad 1), .ref (ad 5), .ref (ad 6), .ref (ad 7)])), (ad 5, .inl (cI, 8, .inl (iA (P)))), (ad 1, .inr (4, [.ref (ad 2), .ref (be), .int (iI (n))])), (ad 2, .inl (cI, 160, .inl (iA (V)))), (ad 9, .inr (3, [.ref (ad 10), .ref (ad 11), .int (iI (u.2.2))])), (ad 10, .inl (cI, 80, .inl (iA (u.1)))), (ad 11, .inl (cZ, 80, .inl (iA (u.2.1))))]) (fun v _ => v = ancV P V (t * 20 + k) ∧ True) := by
  refine z_ofWr (cc := cL_ancestors) (maxL := 4) (ret := (some .int)) (hh := [(0, 6, 7, 16)]) RL (by decide +kernel) rfl rfl (Nat.le_of_ble_eq_true rfl) ?_
  intro p0 en0 s0 m0 args0 below0 meth0 c0 ls AA hx hb hr hlocks hml hown hts htab hCa hX hE hAb hbs hP hD hS hA hK hl
  have hl : lv_has ls 4 [(0, .ref (ad 0)), (1, .int (iI (t))), (2, .int (iI (k)))] := hl
  obtain ⟨H, hH⟩ : ∃ H, H = s0.heap := ⟨_, rfl⟩
  obtain ⟨locs, hlo⟩ : ∃ locs : List Loc, locs = [] := ⟨_, rfl⟩
  have hP : va_P D vwCl [(ad 0, .inr (7, [.ref (ad 1), .ref (ad 4), .ref (ad 8), .ref (ad 12), .ref (ad 16), .ref (ad 18)])), (ad 8, .inr (2, [.ref (ad 1), .ref (ad 4), .ref (ad 9)])), (ad 4, .inr (0, [.ref (ad 1), .ref (ad 5), .ref (ad 6), .ref (ad 7)])), (ad 5, .inl (cI, 8, .inl (iA (P)))), (ad 1, .inr (4, [.ref (ad 2), .ref (be), .int (iI (n))])), (ad 2, .inl (cI, 160, .inl (iA (V)))), (ad 9, .inr (3, [.ref (ad 10), .ref (ad 11), .int (iI (ql))])), (ad 10, .inl (cI, 80, .inl (iA (Qa)))), (ad 11, .inl (cZ, 80, .inl (iA (Qk))))] H := by rw [hH]; exact hP
  have hS : va_S AA s0.heap H locs := by rw [hH, hlo]; exact hS
  suffices hW : W p0 l en0 (headSpec wsL_ancestors ({ frames := 7, cells := 1, slots := 6, locals := 115 })).room s0 m0 args0 below0 meth0 c0 H locs 0 0 (QMi below0 D ((fun (u : (Int → Int) × (Int → Int) × Int) => [(ad 0, .inr (7, [.ref (ad 1), .ref (ad 4), .ref (ad 8), .ref (ad 12), .ref (ad 16), .ref (ad 18)])), (ad 8, .inr (2, [.ref (ad 1), .ref (ad 4), .ref (ad 9)])), (ad 4, .inr (0, [.ref (ad 1), .ref (ad 5), .ref (ad 6), .ref (ad 7)])), (ad 5, .inl (cI, 8, .inl (iA (P)))), (ad 1, .inr (4, [.ref (ad 2), .ref (be), .int (iI (n))])), (ad 2, .inl (cI, 160, .inl (iA (V)))), (ad 9, .inr (3, [.ref (ad 10), .ref (ad 11), .int (iI (u.2.2))])), (ad 10, .inl (cI, 80, .inl (iA (u.1)))), (ad 11, .inl (cZ, 80, .inl (iA (u.2.1))))])) (fun v _ => v = ancV P V (t * 20 + k) ∧ True) AA args0 s0 (1) (6)) (F0 m0 0 ls []) by rw [hH, hlo] at hW; exact hW
  refine lv_aload_n hx hb dL_ancestors_0 rfl (lv_at hl 0 rfl) ?_
  refine lv_iload_n hx hb dL_ancestors_1 rfl (lv_at hl 1 rfl) ?_
  refine lv_iload_n hx hb dL_ancestors_2 rfl (lv_at hl 2 rfl) ?_
  refine z_thV (As := [.int (iI (t)), .int (iI (k))]) (rest := []) (wr := []) (ws2 := (fun (u : (Int → Int) × (Int → Int) × Int) => [(ad 0, .inr (7, [.ref (ad 1), .ref (ad 4), .ref (ad 8), .ref (ad 12), .ref (ad 16), .ref (ad 18)])), (ad 8, .inr (2, [.ref (ad 1), .ref (ad 4), .ref (ad 9)])), (ad 4, .inr (0, [.ref (ad 1), .ref (ad 5), .ref (ad 6), .ref (ad 7)])), (ad 5, .inl (cI, 8, .inl (iA (P)))), (ad 1, .inr (4, [.ref (ad 2), .ref (be), .int (iI (n))])), (ad 2, .inl (cI, 160, .inl (iA (V)))), (ad 9, .inr (3, [.ref (ad 10), .ref (ad 11), .int (iI (u.2.2))])), (ad 10, .inl (cI, 80, .inl (iA (u.1)))), (ad 11, .inl (cZ, 80, .inl (iA (u.2.1))))])) hX hE hAb hbs ⟨hx, hb, hml, hown, hts⟩ (c_X7_ancestors l D cI cZ cC b0 adK adV H.size ad be n P V Qa Qk ql t k (by first | assumption | omega) (by first | assumption | omega) (by first | assumption | omega) (by first | assumption | omega) (by first | assumption | omega)) (cwV 2 hts gL_ancestors_X7_ancestors rfl rfl rfl (by decide +kernel) ⟨Nat.le_of_ble_eq_true rfl, Nat.le_of_ble_eq_true rfl⟩) hP hD hS hA hK [0, 1, 2, 3, 4, 5, 6, 7, 8] [] [0, 1, 2, 3, 4, 5, 6, 7, 8] rfl (by decide) rfl (by decide) (by decide) (by decide) (fun _ => rfl) 0 7 rfl rfl rfl rfl hl.1 rfl (Nat.le_of_ble_eq_true rfl) dL_ancestors_3 ⟨by show _ ≤ (1 : Nat); omega, by show _ ≤ (6 : Nat); omega⟩ (fun E ce q8 u H locs hq hP hD hS hc1 hc2 hc3 => ?_) (fun v9 u H locs hq hP hD hS => ?_)
  · have hth : thr3 (goK (0 ≤ t ∧ t < 4 ∧ 0 ≤ k ∧ k < 20) (True) (True)) E := hq
    have hP : va_P D vwCl [(ad 0, .inr (7, [.ref (ad 1), .ref (ad 4), .ref (ad 8), .ref (ad 12), .ref (ad 16), .ref (ad 18)])), (ad 8, .inr (2, [.ref (ad 1), .ref (ad 4), .ref (ad 9)])), (ad 4, .inr (0, [.ref (ad 1), .ref (ad 5), .ref (ad 6), .ref (ad 7)])), (ad 5, .inl (cI, 8, .inl (iA (P)))), (ad 1, .inr (4, [.ref (ad 2), .ref (be), .int (iI (n))])), (ad 2, .inl (cI, 160, .inl (iA (V)))), (ad 9, .inr (3, [.ref (ad 10), .ref (ad 11), .int (iI (u.2.2))])), (ad 10, .inl (cI, 80, .inl (iA (u.1)))), (ad 11, .inl (cZ, 80, .inl (iA (u.2.1))))] H := hP
    have hD : va_D AA [(ad 0, .inr (7, [.ref (ad 1), .ref (ad 4), .ref (ad 8), .ref (ad 12), .ref (ad 16), .ref (ad 18)])), (ad 8, .inr (2, [.ref (ad 1), .ref (ad 4), .ref (ad 9)])), (ad 4, .inr (0, [.ref (ad 1), .ref (ad 5), .ref (ad 6), .ref (ad 7)])), (ad 5, .inl (cI, 8, .inl (iA (P)))), (ad 1, .inr (4, [.ref (ad 2), .ref (be), .int (iI (n))])), (ad 2, .inl (cI, 160, .inl (iA (V)))), (ad 9, .inr (3, [.ref (ad 10), .ref (ad 11), .int (iI (u.2.2))])), (ad 10, .inl (cI, 80, .inl (iA (u.1)))), (ad 11, .inl (cZ, 80, .inl (iA (u.2.1))))] := hD
    rcases hth with ⟨g_e, g_E⟩ | ⟨g_e, g_E⟩ | ⟨g_e, g_E⟩
    · subst g_E
      refine vx_catch (own := RL) (name := xI) (E := xI) hown [] { startPc := 0, endPc := 6, handlerPc := 7, catchType := 16 } [] htab (fun z hz => absurd hz List.not_mem_nil) (by decide) (by decide) (hts (.classLink RL 16 "java/lang/IndexOutOfBoundsException") (List.mem_of_getElem? (i := 1) rfl)) (hCa.1 _ _ (List.mem_of_getElem? (i := 0) rfl)) hc1 hc2 hc3 ?_
      refine lv_astore_n (lv' := [(3, .ref (q8)), (0, .ref (ad 0)), (1, .int (iI (t))), (2, .int (iI (k)))]) hx hb dL_ancestors_7 rfl hl (by decide) rfl (fun ls hl => ?_)
      refine lv_ldc (v := iI (-1000001)) hx hb hown (by rw [show iI (-1000001) = (-1000001 : Int32) from by decide]; exact (hts (.constant RL 18 (-1000001)) (List.mem_of_getElem? (i := 2) rfl))) dL_ancestors_8 ?_
      refine W.widen (k := 1) (n := 6) (by omega) (by omega) ?_
      refine z_mret (u) hx hb hr hlocks dL_ancestors_10 hP hD hS ?_
      exfalso
      have h9 : goK (0 ≤ t ∧ t < 4 ∧ 0 ≤ k ∧ k < 20) (True) (True) = 0 := goK_0 g_rg trivial trivial
      omega
    · exfalso
      have h9 : goK (0 ≤ t ∧ t < 4 ∧ 0 ≤ k ∧ k < 20) (True) (True) = 0 := goK_0 g_rg trivial trivial
      omega
    · exfalso
      have h9 : goK (0 ≤ t ∧ t < 4 ∧ 0 ≤ k ∧ k < 20) (True) (True) = 0 := goK_0 g_rg trivial trivial
      omega
  · have hP : va_P D vwCl [(ad 0, .inr (7, [.ref (ad 1), .ref (ad 4), .ref (ad 8), .ref (ad 12), .ref (ad 16), .ref (ad 18)])), (ad 8, .inr (2, [.ref (ad 1), .ref (ad 4), .ref (ad 9)])), (ad 4, .inr (0, [.ref (ad 1), .ref (ad 5), .ref (ad 6), .ref (ad 7)])), (ad 5, .inl (cI, 8, .inl (iA (P)))), (ad 1, .inr (4, [.ref (ad 2), .ref (be), .int (iI (n))])), (ad 2, .inl (cI, 160, .inl (iA (V)))), (ad 9, .inr (3, [.ref (ad 10), .ref (ad 11), .int (iI (u.2.2))])), (ad 10, .inl (cI, 80, .inl (iA (u.1)))), (ad 11, .inl (cZ, 80, .inl (iA (u.2.1))))] H := hP
    have hD : va_D AA [(ad 0, .inr (7, [.ref (ad 1), .ref (ad 4), .ref (ad 8), .ref (ad 12), .ref (ad 16), .ref (ad 18)])), (ad 8, .inr (2, [.ref (ad 1), .ref (ad 4), .ref (ad 9)])), (ad 4, .inr (0, [.ref (ad 1), .ref (ad 5), .ref (ad 6), .ref (ad 7)])), (ad 5, .inl (cI, 8, .inl (iA (P)))), (ad 1, .inr (4, [.ref (ad 2), .ref (be), .int (iI (n))])), (ad 2, .inl (cI, 160, .inl (iA (V)))), (ad 9, .inr (3, [.ref (ad 10), .ref (ad 11), .int (iI (u.2.2))])), (ad 10, .inl (cI, 80, .inl (iA (u.1)))), (ad 11, .inl (cZ, 80, .inl (iA (u.2.1))))] := hD
    refine W.widen (k := 1) (n := 6) (by omega) (by omega) ?_
    refine z_mret (u) hx hb hr hlocks dL_ancestors_6 hP hD hS ?_
    exact ⟨hq.2, trivial⟩

set_option maxHeartbeats 2000000 in
set_option maxRecDepth 100000 in
theorem c_L_insert (l : Launch) (D : va_G) (cI cZ cC : ClassId) (b0 : Nat) (adK adV : Nat → Nat) (sz : Nat) (ad : Nat → Nat) (be Ln : Nat) (P Mo V B : Int → Int) (n N : Int) (lg : Lg) (t k a b : Int) (g_lt : l.stackTraces = false) (g_P : ∀ j : Int, 0 ≤ j → j < 8 → P j = -2 ∨ (0 ≤ P j ∧ P j < 4)) (g_Mo : ∀ j : Int, 0 ≤ j → j < 8 → Mo j = 0 ∨ Mo j = 1) (g_H : okH N lg V) (g_L : isL lg B n) (g_N : N ≤ 700) (g_Ln : 240 ≤ Ln ∧ n ≤ (Ln : Int) ∧ Ln ≤ 2000) (g_rg : 0 ≤ t ∧ t < 4 ∧ 0 ≤ k ∧ k < 20 ∧ -1 ≤ a ∧ a < 20 ∧ -1 ≤ b ∧ b < 20) : zWr l yL_insert wsL_insert ({ frames := 7, cells := 2, slots := 1900, locals := 192 }) D cI cZ cC b0 adK adV [(ad 0, .inr (7, [.ref (ad 1), .ref (ad 4), .ref (ad 8), .ref (ad 12), .ref (ad 16), .ref (ad 18)])), (ad 4, .inr (0, [.ref (ad 1), .ref (ad 5), .ref (ad 6), .ref (ad 7)])), (ad 5, .inl (cI, 8, .inl (iA (P)))), (ad 7, .inl (cZ, 8, .inl (iA (Mo)))), (ad 1, .inr (4, [.ref (ad 2), .ref (be), .int (iI (n))])), (ad 2, .inl (cI, 160, .inl (iA (V)))), (be, .inl (cI, Ln, .inl (iA (B))))] sz [.ref (ad 0), .int (iI (t)), .int (iI (k)), .int (iI (a)), .int (iI (b))] (2) (1900) (fun (u : Nat × Nat × (Int → Int) × (Int → Int) × Int) => [(ad 0, .inr (7, [.ref (ad 1), .ref (ad 4), .ref (ad 8), .ref (ad 12), .ref (ad 16), .ref (ad 18)])), (ad 4, .inr (0, [.ref (ad 1), .ref (ad 5), .ref (ad 6), .ref (ad 7)])), (ad 5, .inl (cI, 8, .inl (iA (P)))), (ad 7, .inl (cZ, 8, .inl (iA (Mo)))), (ad 1, .inr (4, [.ref (ad 2), .ref (u.2.1), .int (iI (u.2.2.2.2))])), (ad 2, .inl (cI, 160, .inl (iA (u.2.2.1)))), (u.2.1, .inl (cI, u.1, .inl (iA (u.2.2.2.1))))]) (fun w (u : Nat × Nat × (Int → Int) × (Int → Int) × Int) => ib w ∧ ∃ lg1 : Lg, (w, u.2.2.1, lg1) = insW P Mo V lg (t * 20 + k) a b ∧ isL lg1 u.2.2.2.1 u.2.2.2.2 ∧ okH (N + 4) lg1 u.2.2.1 ∧ u.2.2.2.2 ≤ (u.1 : Int) ∧ Ln ≤ u.1 ∧ u.1 ≤ 2000) := by
  refine z_ofWr (cc := cL_insert) (maxL := 6) (ret := (some .int)) (hh := [(0, 9, 10, 16), (0, 9, 15, 19), (0, 9, 20, 22)]) RL (by decide +kernel) rfl rfl (Nat.le_of_ble_eq_true rfl) ?_
  intro p0 en0 s0 m0 args0 below0 meth0 c0 ls AA hx hb hr hlocks hml hown hts htab hCa hX hE hAb hbs hP hD hS hA hK hl
  have hl : lv_has ls 6 [(0, .ref (ad 0)), (1, .int (iI (t))), (2, .int (iI (k))), (3, .int (iI (a))), (4, .int (iI (b)))] := hl
  obtain ⟨H, hH⟩ : ∃ H, H = s0.heap := ⟨_, rfl⟩
  obtain ⟨locs, hlo⟩ : ∃ locs : List Loc, locs = [] := ⟨_, rfl⟩
  have hP : va_P D vwCl [(ad 0, .inr (7, [.ref (ad 1), .ref (ad 4), .ref (ad 8), .ref (ad 12), .ref (ad 16), .ref (ad 18)])), (ad 4, .inr (0, [.ref (ad 1), .ref (ad 5), .ref (ad 6), .ref (ad 7)])), (ad 5, .inl (cI, 8, .inl (iA (P)))), (ad 7, .inl (cZ, 8, .inl (iA (Mo)))), (ad 1, .inr (4, [.ref (ad 2), .ref (be), .int (iI (n))])), (ad 2, .inl (cI, 160, .inl (iA (V)))), (be, .inl (cI, Ln, .inl (iA (B))))] H := by rw [hH]; exact hP
  have hS : va_S AA s0.heap H locs := by rw [hH, hlo]; exact hS
  suffices hW : W p0 l en0 (headSpec wsL_insert ({ frames := 7, cells := 2, slots := 1900, locals := 192 })).room s0 m0 args0 below0 meth0 c0 H locs 0 0 (QMi below0 D ((fun (u : Nat × Nat × (Int → Int) × (Int → Int) × Int) => [(ad 0, .inr (7, [.ref (ad 1), .ref (ad 4), .ref (ad 8), .ref (ad 12), .ref (ad 16), .ref (ad 18)])), (ad 4, .inr (0, [.ref (ad 1), .ref (ad 5), .ref (ad 6), .ref (ad 7)])), (ad 5, .inl (cI, 8, .inl (iA (P)))), (ad 7, .inl (cZ, 8, .inl (iA (Mo)))), (ad 1, .inr (4, [.ref (ad 2), .ref (u.2.1), .int (iI (u.2.2.2.2))])), (ad 2, .inl (cI, 160, .inl (iA (u.2.2.1)))), (u.2.1, .inl (cI, u.1, .inl (iA (u.2.2.2.1))))])) (fun w (u : Nat × Nat × (Int → Int) × (Int → Int) × Int) => ib w ∧ ∃ lg1 : Lg, (w, u.2.2.1, lg1) = insW P Mo V lg (t * 20 + k) a b ∧ isL lg1 u.2.2.2.1 u.2.2.2.2 ∧ okH (N + 4) lg1 u.2.2.1 ∧ u.2.2.2.2 ≤ (u.1 : Int) ∧ Ln ≤ u.1 ∧ u.1 ≤ 2000) AA args0 s0 (2) (1900)) (F0 m0 0 ls []) by rw [hH, hlo] at hW; exact hW
  have g_nn := isL_n g_L
  have g_top := (okH_top g_H).2.2
  have g_pot := pot_b V
  have g_V := (okH_top g_H).1
  have hx9 := xLn_w (goK (0 ≤ t ∧ t < 4 ∧ 0 ≤ k ∧ k < 20) (-1 ≤ a ∧ a < 20 ∧ -1 ≤ b ∧ b < 20) (¬ hasR V (t * 20 + k)) = 0) g_Ln.1 g_Ln.2.2 (show n ≤ 700 by omega)
  refine lv_aload_n hx hb dL_insert_0 rfl (lv_at hl 0 rfl) ?_
  refine lv_iload_n hx hb dL_insert_1 rfl (lv_at hl 1 rfl) ?_
  refine lv_iload_n hx hb dL_insert_2 rfl (lv_at hl 2 rfl) ?_
  refine lv_iload_n hx hb dL_insert_3 rfl (lv_at hl 3 rfl) ?_
  refine lv_iload hx hb dL_insert_4 (lv_at hl 4 rfl) ?_
  refine z_thV (As := [.int (iI (t)), .int (iI (k)), .int (iI (a)), .int (iI (b))]) (rest := []) (wr := []) (ws2 := (fun (u : Nat × (Int → Int) × (Int → Int) × Int) => [(ad 0, .inr (7, [.ref (ad 1), .ref (ad 4), .ref (ad 8), .ref (ad 12), .ref (ad 16), .ref (ad 18)])), (ad 4, .inr (0, [.ref (ad 1), .ref (ad 5), .ref (ad 6), .ref (ad 7)])), (ad 5, .inl (cI, 8, .inl (iA (P)))), (ad 7, .inl (cZ, 8, .inl (iA (Mo)))), (ad 1, .inr (4, [.ref (ad 2), .ref (u.1), .int (iI (u.2.2.2))])), (ad 2, .inl (cI, 160, .inl (iA (u.2.1)))), (u.1, .inl (cI, xLn (goK (0 ≤ t ∧ t < 4 ∧ 0 ≤ k ∧ k < 20) (-1 ≤ a ∧ a < 20 ∧ -1 ≤ b ∧ b < 20) (¬ hasR V (t * 20 + k)) = 0) Ln n, .inl (iA (u.2.2.1))))])) hX hE hAb hbs ⟨hx, hb, hml, hown, hts⟩ (c_X7_insert l D cI cZ cC b0 adK adV H.size ad be Ln P Mo V B n N lg t k a b (by first | assumption | omega) (by first | assumption | omega) (by first | assumption | omega) (by first | assumption | omega) (by first | assumption | omega) (by first | assumption | omega) (by first | assumption | omega) (by first | assumption | omega) (by first | assumption | omega) (by first | assumption | omega) (by first | assumption | omega)) (cwV 4 hts gL_insert_X7_insert rfl rfl rfl (by decide +kernel) ⟨Nat.le_of_ble_eq_true rfl, Nat.le_of_ble_eq_true rfl⟩) hP hD hS hA hK [0, 1, 2, 3, 4, 5, 6] [] [0, 1, 2, 3, 4, 5, 6] rfl (by decide) rfl (by decide) (by decide) (by decide) (fun _ => rfl) 0 7 rfl rfl rfl rfl hl.1 rfl (Nat.le_of_ble_eq_true rfl) dL_insert_6 ⟨by show _ ≤ (2 : Nat); omega, by show _ ≤ (1900 : Nat); omega⟩ (fun E ce q8 u H locs hq hP hD hS hc1 hc2 hc3 => ?_) (fun v9 u H locs hq hP hD hS => ?_)
  · have hth : thr3 (goK (0 ≤ t ∧ t < 4 ∧ 0 ≤ k ∧ k < 20) (-1 ≤ a ∧ a < 20 ∧ -1 ≤ b ∧ b < 20) (¬ hasR V (t * 20 + k))) E := hq.1
    have hP : va_P D vwCl [(ad 0, .inr (7, [.ref (ad 1), .ref (ad 4), .ref (ad 8), .ref (ad 12), .ref (ad 16), .ref (ad 18)])), (ad 4, .inr (0, [.ref (ad 1), .ref (ad 5), .ref (ad 6), .ref (ad 7)])), (ad 5, .inl (cI, 8, .inl (iA (P)))), (ad 7, .inl (cZ, 8, .inl (iA (Mo)))), (ad 1, .inr (4, [.ref (ad 2), .ref (u.1), .int (iI (u.2.2.2))])), (ad 2, .inl (cI, 160, .inl (iA (u.2.1)))), (u.1, .inl (cI, xLn (goK (0 ≤ t ∧ t < 4 ∧ 0 ≤ k ∧ k < 20) (-1 ≤ a ∧ a < 20 ∧ -1 ≤ b ∧ b < 20) (¬ hasR V (t * 20 + k)) = 0) Ln n, .inl (iA (u.2.2.1))))] H := hP
    have hD : va_D AA [(ad 0, .inr (7, [.ref (ad 1), .ref (ad 4), .ref (ad 8), .ref (ad 12), .ref (ad 16), .ref (ad 18)])), (ad 4, .inr (0, [.ref (ad 1), .ref (ad 5), .ref (ad 6), .ref (ad 7)])), (ad 5, .inl (cI, 8, .inl (iA (P)))), (ad 7, .inl (cZ, 8, .inl (iA (Mo)))), (ad 1, .inr (4, [.ref (ad 2), .ref (u.1), .int (iI (u.2.2.2))])), (ad 2, .inl (cI, 160, .inl (iA (u.2.1)))), (u.1, .inl (cI, xLn (goK (0 ≤ t ∧ t < 4 ∧ 0 ≤ k ∧ k < 20) (-1 ≤ a ∧ a < 20 ∧ -1 ≤ b ∧ b < 20) (¬ hasR V (t * 20 + k)) = 0) Ln n, .inl (iA (u.2.2.1))))] := hD
    rcases hth with ⟨g_e, g_E⟩ | ⟨g_e, g_E⟩ | ⟨g_e, g_E⟩
    · subst g_E
      refine vx_catch (own := RL) (name := xI) (E := xI) hown [] { startPc := 0, endPc := 9, handlerPc := 10, catchType := 16 } [{ startPc := 0, endPc := 9, handlerPc := 15, catchType := 19 }, { startPc := 0, endPc := 9, handlerPc := 20, catchType := 22 }] htab (fun z hz => absurd hz List.not_mem_nil) (by decide) (by decide) (hts (.classLink RL 16 "java/lang/IndexOutOfBoundsException") (List.mem_of_getElem? (i := 1) rfl)) (hCa.1 _ _ (List.mem_of_getElem? (i := 0) rfl)) hc1 hc2 hc3 ?_
      refine lv_astore (lv' := [(5, .ref (q8)), (0, .ref (ad 0)), (1, .int (iI (t))), (2, .int (iI (k))), (3, .int (iI (a))), (4, .int (iI (b)))]) hx hb dL_insert_10 hl (by decide) rfl (fun ls hl => ?_)
      refine lv_ldc (v := iI (-1000001)) hx hb hown (by rw [show iI (-1000001) = (-1000001 : Int32) from by decide]; exact (hts (.constant RL 18 (-1000001)) (List.mem_of_getElem? (i := 4) rfl))) dL_insert_12 ?_
      refine W.widen (k := 2) (n := 1900) (by omega) (by omega) ?_
      refine z_mret ((xLn (goK (0 ≤ t ∧ t < 4 ∧ 0 ≤ k ∧ k < 20) (-1 ≤ a ∧ a < 20 ∧ -1 ≤ b ∧ b < 20) (¬ hasR V (t * 20 + k)) = 0) Ln n, u)) hx hb hr hlocks dL_insert_14 hP hD hS ?_
      exfalso
      rcases goK_A (c := ¬ hasR V (t * 20 + k)) (show 0 ≤ t ∧ t < 4 ∧ 0 ≤ k ∧ k < 20 by omega) (show -1 ≤ a ∧ a < 20 ∧ -1 ≤ b ∧ b < 20 by omega) with ⟨h9, h8⟩ | ⟨h9, h8⟩ <;> omega
    · subst g_E
      refine vx_catch (own := RL) (name := xA) (E := xA) hown [{ startPc := 0, endPc := 9, handlerPc := 10, catchType := 16 }] { startPc := 0, endPc := 9, handlerPc := 15, catchType := 19 } [{ startPc := 0, endPc := 9, handlerPc := 20, catchType := 22 }] htab (List.forall_mem_cons.mpr ⟨Or.inr ⟨by decide, xI, (hts (.classLink RL 16 "java/lang/IndexOutOfBoundsException") (List.mem_of_getElem? (i := 1) rfl)), hCa.2.2.2.1⟩, (fun z hz => absurd hz List.not_mem_nil)⟩) (by decide) (by decide) (hts (.classLink RL 19 "java/lang/IllegalArgumentException") (List.mem_of_getElem? (i := 2) rfl)) (hCa.1 _ _ (List.mem_of_getElem? (i := 1) rfl)) hc1 hc2 hc3 ?_
      refine lv_astore (lv' := [(5, .ref (q8)), (0, .ref (ad 0)), (1, .int (iI (t))), (2, .int (iI (k))), (3, .int (iI (a))), (4, .int (iI (b)))]) hx hb dL_insert_15 hl (by decide) rfl (fun ls hl => ?_)
      refine lv_ldc (v := iI (-1000002)) hx hb hown (by rw [show iI (-1000002) = (-1000002 : Int32) from by decide]; exact (hts (.constant RL 21 (-1000002)) (List.mem_of_getElem? (i := 5) rfl))) dL_insert_17 ?_
      refine W.widen (k := 2) (n := 1900) (by omega) (by omega) ?_
      refine z_mret ((xLn (goK (0 ≤ t ∧ t < 4 ∧ 0 ≤ k ∧ k < 20) (-1 ≤ a ∧ a < 20 ∧ -1 ≤ b ∧ b < 20) (¬ hasR V (t * 20 + k)) = 0) Ln n, u)) hx hb hr hlocks dL_insert_19 hP hD hS ?_
      exfalso
      rcases goK_A (c := ¬ hasR V (t * 20 + k)) (show 0 ≤ t ∧ t < 4 ∧ 0 ≤ k ∧ k < 20 by omega) (show -1 ≤ a ∧ a < 20 ∧ -1 ≤ b ∧ b < 20 by omega) with ⟨h9, h8⟩ | ⟨h9, h8⟩ <;> omega
    · subst g_E
      refine vx_catch (own := RL) (name := xS) (E := xS) hown [{ startPc := 0, endPc := 9, handlerPc := 10, catchType := 16 }, { startPc := 0, endPc := 9, handlerPc := 15, catchType := 19 }] { startPc := 0, endPc := 9, handlerPc := 20, catchType := 22 } [] htab (List.forall_mem_cons.mpr ⟨Or.inr ⟨by decide, xI, (hts (.classLink RL 16 "java/lang/IndexOutOfBoundsException") (List.mem_of_getElem? (i := 1) rfl)), hCa.2.2.2.2.2.1⟩, (List.forall_mem_cons.mpr ⟨Or.inr ⟨by decide, xA, (hts (.classLink RL 19 "java/lang/IllegalArgumentException") (List.mem_of_getElem? (i := 2) rfl)), hCa.2.2.2.2.2.2⟩, (fun z hz => absurd hz List.not_mem_nil)⟩)⟩) (by decide) (by decide) (hts (.classLink RL 22 "java/lang/IllegalStateException") (List.mem_of_getElem? (i := 3) rfl)) (hCa.1 _ _ (List.mem_of_getElem? (i := 2) rfl)) hc1 hc2 hc3 ?_
      refine lv_astore (lv' := [(5, .ref (q8)), (0, .ref (ad 0)), (1, .int (iI (t))), (2, .int (iI (k))), (3, .int (iI (a))), (4, .int (iI (b)))]) hx hb dL_insert_20 hl (by decide) rfl (fun ls hl => ?_)
      refine lv_ldc (v := iI (-1000003)) hx hb hown (by rw [show iI (-1000003) = (-1000003 : Int32) from by decide]; exact (hts (.constant RL 24 (-1000003)) (List.mem_of_getElem? (i := 6) rfl))) dL_insert_22 ?_
      refine W.widen (k := 2) (n := 1900) (by omega) (by omega) ?_
      refine z_mret ((xLn (goK (0 ≤ t ∧ t < 4 ∧ 0 ≤ k ∧ k < 20) (-1 ≤ a ∧ a < 20 ∧ -1 ≤ b ∧ b < 20) (¬ hasR V (t * 20 + k)) = 0) Ln n, u)) hx hb hr hlocks dL_insert_24 hP hD hS ?_
      rcases goK_A (c := ¬ hasR V (t * 20 + k)) (show 0 ≤ t ∧ t < 4 ∧ 0 ≤ k ∧ k < 20 by omega) (show -1 ≤ a ∧ a < 20 ∧ -1 ≤ b ∧ b < 20 by omega) with ⟨h9, h8⟩ | ⟨h9, h8⟩
      · exfalso; omega
      · obtain ⟨_, z1, z2, z3⟩ := hq
        exact ⟨⟨by omega, by omega⟩, lg, by dsimp only; rw [insW_t (Classical.not_not.mp h8), z1], z2, by dsimp only; rw [z1]; exact okH_mono (by omega) g_H, z3, hx9.1, hx9.2.2⟩
  · have hP : va_P D vwCl [(ad 0, .inr (7, [.ref (ad 1), .ref (ad 4), .ref (ad 8), .ref (ad 12), .ref (ad 16), .ref (ad 18)])), (ad 4, .inr (0, [.ref (ad 1), .ref (ad 5), .ref (ad 6), .ref (ad 7)])), (ad 5, .inl (cI, 8, .inl (iA (P)))), (ad 7, .inl (cZ, 8, .inl (iA (Mo)))), (ad 1, .inr (4, [.ref (ad 2), .ref (u.1), .int (iI (u.2.2.2))])), (ad 2, .inl (cI, 160, .inl (iA (u.2.1)))), (u.1, .inl (cI, xLn (goK (0 ≤ t ∧ t < 4 ∧ 0 ≤ k ∧ k < 20) (-1 ≤ a ∧ a < 20 ∧ -1 ≤ b ∧ b < 20) (¬ hasR V (t * 20 + k)) = 0) Ln n, .inl (iA (u.2.2.1))))] H := hP
    have hD : va_D AA [(ad 0, .inr (7, [.ref (ad 1), .ref (ad 4), .ref (ad 8), .ref (ad 12), .ref (ad 16), .ref (ad 18)])), (ad 4, .inr (0, [.ref (ad 1), .ref (ad 5), .ref (ad 6), .ref (ad 7)])), (ad 5, .inl (cI, 8, .inl (iA (P)))), (ad 7, .inl (cZ, 8, .inl (iA (Mo)))), (ad 1, .inr (4, [.ref (ad 2), .ref (u.1), .int (iI (u.2.2.2))])), (ad 2, .inl (cI, 160, .inl (iA (u.2.1)))), (u.1, .inl (cI, xLn (goK (0 ≤ t ∧ t < 4 ∧ 0 ≤ k ∧ k < 20) (-1 ≤ a ∧ a < 20 ∧ -1 ≤ b ∧ b < 20) (¬ hasR V (t * 20 + k)) = 0) Ln n, .inl (iA (u.2.2.1))))] := hD
    refine W.widen (k := 2) (n := 1900) (by omega) (by omega) ?_
    refine z_mret ((xLn (goK (0 ≤ t ∧ t < 4 ∧ 0 ≤ k ∧ k < 20) (-1 ≤ a ∧ a < 20 ∧ -1 ≤ b ∧ b < 20) (¬ hasR V (t * 20 + k)) = 0) Ln n, u)) hx hb hr hlocks dL_insert_9 hP hD hS ?_
    obtain ⟨z0, z1, lg1, z2, z3, z4, z5⟩ := hq
    rcases goK_A (c := ¬ hasR V (t * 20 + k)) (show 0 ≤ t ∧ t < 4 ∧ 0 ≤ k ∧ k < 20 by omega) (show -1 ≤ a ∧ a < 20 ∧ -1 ≤ b ∧ b < 20 by omega) with ⟨h9, h8⟩ | ⟨h9, h8⟩
    · exact ⟨z1, lg1, by dsimp only; rw [insW_f h8]; exact z2, z3, z4, z5, hx9.1, hx9.2.2⟩
    · exfalso; omega

set_option maxHeartbeats 2000000 in
set_option maxRecDepth 100000 in
theorem c_L_update (l : Launch) (D : va_G) (cI cZ cC : ClassId) (b0 : Nat) (adK adV : Nat → Nat) (sz : Nat) (ad : Nat → Nat) (be Ln : Nat) (P Mo V B : Int → Int) (n N : Int) (lg : Lg) (t k c v : Int) (g_lt : l.stackTraces = false) (g_P : ∀ j : Int, 0 ≤ j → j < 8 → P j = -2 ∨ (0 ≤ P j ∧ P j < 4)) (g_Mo : ∀ j : Int, 0 ≤ j → j < 8 → Mo j = 0 ∨ Mo j = 1) (g_H : okH N lg V) (g_L : isL lg B n) (g_N : N ≤ 700) (g_Ln : 240 ≤ Ln ∧ n ≤ (Ln : Int) ∧ Ln ≤ 2000) (g_rg : 0 ≤ t ∧ t < 4 ∧ 0 ≤ k ∧ k < 20 ∧ 0 ≤ c ∧ c < 2 ∧ -1 ≤ v ∧ v < 20) : zWr l yL_update wsL_update ({ frames := 7, cells := 2, slots := 1900, locals := 192 }) D cI cZ cC b0 adK adV [(ad 0, .inr (7, [.ref (ad 1), .ref (ad 4), .ref (ad 8), .ref (ad 12), .ref (ad 16), .ref (ad 18)])), (ad 4, .inr (0, [.ref (ad 1), .ref (ad 5), .ref (ad 6), .ref (ad 7)])), (ad 5, .inl (cI, 8, .inl (iA (P)))), (ad 7, .inl (cZ, 8, .inl (iA (Mo)))), (ad 1, .inr (4, [.ref (ad 2), .ref (be), .int (iI (n))])), (ad 2, .inl (cI, 160, .inl (iA (V)))), (be, .inl (cI, Ln, .inl (iA (B))))] sz [.ref (ad 0), .int (iI (t)), .int (iI (k)), .int (iI (c)), .int (iI (v))] (2) (1900) (fun (u : Nat × Nat × (Int → Int) × (Int → Int) × Int) => [(ad 0, .inr (7, [.ref (ad 1), .ref (ad 4), .ref (ad 8), .ref (ad 12), .ref (ad 16), .ref (ad 18)])), (ad 4, .inr (0, [.ref (ad 1), .ref (ad 5), .ref (ad 6), .ref (ad 7)])), (ad 5, .inl (cI, 8, .inl (iA (P)))), (ad 7, .inl (cZ, 8, .inl (iA (Mo)))), (ad 1, .inr (4, [.ref (ad 2), .ref (u.2.1), .int (iI (u.2.2.2.2))])), (ad 2, .inl (cI, 160, .inl (iA (u.2.2.1)))), (u.2.1, .inl (cI, u.1, .inl (iA (u.2.2.2.1))))]) (fun w (u : Nat × Nat × (Int → Int) × (Int → Int) × Int) => ib w ∧ ∃ lg1 : Lg, (w, u.2.2.1, lg1) = updW P Mo V lg (t * 20 + k) c v ∧ isL lg1 u.2.2.2.1 u.2.2.2.2 ∧ okH (N + 4) lg1 u.2.2.1 ∧ u.2.2.2.2 ≤ (u.1 : Int) ∧ Ln ≤ u.1 ∧ u.1 ≤ 2000) := by
  refine z_ofWr (cc := cL_update) (maxL := 6) (ret := (some .int)) (hh := [(0, 9, 10, 16), (0, 9, 15, 19), (0, 9, 20, 22)]) RL (by decide +kernel) rfl rfl (Nat.le_of_ble_eq_true rfl) ?_
  intro p0 en0 s0 m0 args0 below0 meth0 c0 ls AA hx hb hr hlocks hml hown hts htab hCa hX hE hAb hbs hP hD hS hA hK hl
  have hl : lv_has ls 6 [(0, .ref (ad 0)), (1, .int (iI (t))), (2, .int (iI (k))), (3, .int (iI (c))), (4, .int (iI (v)))] := hl
  obtain ⟨H, hH⟩ : ∃ H, H = s0.heap := ⟨_, rfl⟩
  obtain ⟨locs, hlo⟩ : ∃ locs : List Loc, locs = [] := ⟨_, rfl⟩
  have hP : va_P D vwCl [(ad 0, .inr (7, [.ref (ad 1), .ref (ad 4), .ref (ad 8), .ref (ad 12), .ref (ad 16), .ref (ad 18)])), (ad 4, .inr (0, [.ref (ad 1), .ref (ad 5), .ref (ad 6), .ref (ad 7)])), (ad 5, .inl (cI, 8, .inl (iA (P)))), (ad 7, .inl (cZ, 8, .inl (iA (Mo)))), (ad 1, .inr (4, [.ref (ad 2), .ref (be), .int (iI (n))])), (ad 2, .inl (cI, 160, .inl (iA (V)))), (be, .inl (cI, Ln, .inl (iA (B))))] H := by rw [hH]; exact hP
  have hS : va_S AA s0.heap H locs := by rw [hH, hlo]; exact hS
  suffices hW : W p0 l en0 (headSpec wsL_update ({ frames := 7, cells := 2, slots := 1900, locals := 192 })).room s0 m0 args0 below0 meth0 c0 H locs 0 0 (QMi below0 D ((fun (u : Nat × Nat × (Int → Int) × (Int → Int) × Int) => [(ad 0, .inr (7, [.ref (ad 1), .ref (ad 4), .ref (ad 8), .ref (ad 12), .ref (ad 16), .ref (ad 18)])), (ad 4, .inr (0, [.ref (ad 1), .ref (ad 5), .ref (ad 6), .ref (ad 7)])), (ad 5, .inl (cI, 8, .inl (iA (P)))), (ad 7, .inl (cZ, 8, .inl (iA (Mo)))), (ad 1, .inr (4, [.ref (ad 2), .ref (u.2.1), .int (iI (u.2.2.2.2))])), (ad 2, .inl (cI, 160, .inl (iA (u.2.2.1)))), (u.2.1, .inl (cI, u.1, .inl (iA (u.2.2.2.1))))])) (fun w (u : Nat × Nat × (Int → Int) × (Int → Int) × Int) => ib w ∧ ∃ lg1 : Lg, (w, u.2.2.1, lg1) = updW P Mo V lg (t * 20 + k) c v ∧ isL lg1 u.2.2.2.1 u.2.2.2.2 ∧ okH (N + 4) lg1 u.2.2.1 ∧ u.2.2.2.2 ≤ (u.1 : Int) ∧ Ln ≤ u.1 ∧ u.1 ≤ 2000) AA args0 s0 (2) (1900)) (F0 m0 0 ls []) by rw [hH, hlo] at hW; exact hW
  have g_nn := isL_n g_L
  have g_top := (okH_top g_H).2.2
  have g_pot := pot_b V
  have g_V := (okH_top g_H).1
  have hx9 := xLn_w (goK (0 ≤ t ∧ t < 4 ∧ 0 ≤ k ∧ k < 20 ∧ 0 ≤ c ∧ c < 2) (-1 ≤ v ∧ v < 20) (hasR V (t * 20 + k)) = 0) g_Ln.1 g_Ln.2.2 (show n ≤ 700 by omega)
  refine lv_aload_n hx hb dL_update_0 rfl (lv_at hl 0 rfl) ?_
  refine lv_iload_n hx hb dL_update_1 rfl (lv_at hl 1 rfl) ?_
  refine lv_iload_n hx hb dL_update_2 rfl (lv_at hl 2 rfl) ?_
  refine lv_iload_n hx hb dL_update_3 rfl (lv_at hl 3 rfl) ?_
  refine lv_iload hx hb dL_update_4 (lv_at hl 4 rfl) ?_
  refine z_thV (As := [.int (iI (t)), .int (iI (k)), .int (iI (c)), .int (iI (v))]) (rest := []) (wr := []) (ws2 := (fun (u : Nat × (Int → Int) × (Int → Int) × Int) => [(ad 0, .inr (7, [.ref (ad 1), .ref (ad 4), .ref (ad 8), .ref (ad 12), .ref (ad 16), .ref (ad 18)])), (ad 4, .inr (0, [.ref (ad 1), .ref (ad 5), .ref (ad 6), .ref (ad 7)])), (ad 5, .inl (cI, 8, .inl (iA (P)))), (ad 7, .inl (cZ, 8, .inl (iA (Mo)))), (ad 1, .inr (4, [.ref (ad 2), .ref (u.1), .int (iI (u.2.2.2))])), (ad 2, .inl (cI, 160, .inl (iA (u.2.1)))), (u.1, .inl (cI, xLn (goK (0 ≤ t ∧ t < 4 ∧ 0 ≤ k ∧ k < 20 ∧ 0 ≤ c ∧ c < 2) (-1 ≤ v ∧ v < 20) (hasR V (t * 20 + k)) = 0) Ln n, .inl (iA (u.2.2.1))))])) hX hE hAb hbs ⟨hx, hb, hml, hown, hts⟩ (c_X7_update l D cI cZ cC b0 adK adV H.size ad be Ln P Mo V B n N lg t k c v (by first | assumption | omega) (by first | assumption | omega) (by first | assumption | omega) (by first | assumption | omega) (by first | assumption | omega) (by first | assumption | omega) (by first | assumption | omega) (by first | assumption | omega) (by first | assumption | omega) (by first | assumption | omega) (by first | assumption | omega)) (cwV 4 hts gL_update_X7_update rfl rfl rfl (by decide +kernel) ⟨Nat.le_of_ble_eq_true rfl, Nat.le_of_ble_eq_true rfl⟩) hP hD hS hA hK [0, 1, 2, 3, 4, 5, 6] [] [0, 1, 2, 3, 4, 5, 6] rfl (by decide) rfl (by decide) (by decide) (by decide) (fun _ => rfl) 0 7 rfl rfl rfl rfl hl.1 rfl (Nat.le_of_ble_eq_true rfl) dL_update_6 ⟨by show _ ≤ (2 : Nat); omega, by show _ ≤ (1900 : Nat); omega⟩ (fun E ce q8 u H locs hq hP hD hS hc1 hc2 hc3 => ?_) (fun v9 u H locs hq hP hD hS => ?_)
  · have hth : thr3 (goK (0 ≤ t ∧ t < 4 ∧ 0 ≤ k ∧ k < 20 ∧ 0 ≤ c ∧ c < 2) (-1 ≤ v ∧ v < 20) (hasR V (t * 20 + k))) E := hq.1
    have hP : va_P D vwCl [(ad 0, .inr (7, [.ref (ad 1), .ref (ad 4), .ref (ad 8), .ref (ad 12), .ref (ad 16), .ref (ad 18)])), (ad 4, .inr (0, [.ref (ad 1), .ref (ad 5), .ref (ad 6), .ref (ad 7)])), (ad 5, .inl (cI, 8, .inl (iA (P)))), (ad 7, .inl (cZ, 8, .inl (iA (Mo)))), (ad 1, .inr (4, [.ref (ad 2), .ref (u.1), .int (iI (u.2.2.2))])), (ad 2, .inl (cI, 160, .inl (iA (u.2.1)))), (u.1, .inl (cI, xLn (goK (0 ≤ t ∧ t < 4 ∧ 0 ≤ k ∧ k < 20 ∧ 0 ≤ c ∧ c < 2) (-1 ≤ v ∧ v < 20) (hasR V (t * 20 + k)) = 0) Ln n, .inl (iA (u.2.2.1))))] H := hP
    have hD : va_D AA [(ad 0, .inr (7, [.ref (ad 1), .ref (ad 4), .ref (ad 8), .ref (ad 12), .ref (ad 16), .ref (ad 18)])), (ad 4, .inr (0, [.ref (ad 1), .ref (ad 5), .ref (ad 6), .ref (ad 7)])), (ad 5, .inl (cI, 8, .inl (iA (P)))), (ad 7, .inl (cZ, 8, .inl (iA (Mo)))), (ad 1, .inr (4, [.ref (ad 2), .ref (u.1), .int (iI (u.2.2.2))])), (ad 2, .inl (cI, 160, .inl (iA (u.2.1)))), (u.1, .inl (cI, xLn (goK (0 ≤ t ∧ t < 4 ∧ 0 ≤ k ∧ k < 20 ∧ 0 ≤ c ∧ c < 2) (-1 ≤ v ∧ v < 20) (hasR V (t * 20 + k)) = 0) Ln n, .inl (iA (u.2.2.1))))] := hD
    rcases hth with ⟨g_e, g_E⟩ | ⟨g_e, g_E⟩ | ⟨g_e, g_E⟩
    · subst g_E
      refine vx_catch (own := RL) (name := xI) (E := xI) hown [] { startPc := 0, endPc := 9, handlerPc := 10, catchType := 16 } [{ startPc := 0, endPc := 9, handlerPc := 15, catchType := 19 }, { startPc := 0, endPc := 9, handlerPc := 20, catchType := 22 }] htab (fun z hz => absurd hz List.not_mem_nil) (by decide) (by decide) (hts (.classLink RL 16 "java/lang/IndexOutOfBoundsException") (List.mem_of_getElem? (i := 1) rfl)) (hCa.1 _ _ (List.mem_of_getElem? (i := 0) rfl)) hc1 hc2 hc3 ?_
      refine lv_astore (lv' := [(5, .ref (q8)), (0, .ref (ad 0)), (1, .int (iI (t))), (2, .int (iI (k))), (3, .int (iI (c))), (4, .int (iI (v)))]) hx hb dL_update_10 hl (by decide) rfl (fun ls hl => ?_)
      refine lv_ldc (v := iI (-1000001)) hx hb hown (by rw [show iI (-1000001) = (-1000001 : Int32) from by decide]; exact (hts (.constant RL 18 (-1000001)) (List.mem_of_getElem? (i := 4) rfl))) dL_update_12 ?_
      refine W.widen (k := 2) (n := 1900) (by omega) (by omega) ?_
      refine z_mret ((xLn (goK (0 ≤ t ∧ t < 4 ∧ 0 ≤ k ∧ k < 20 ∧ 0 ≤ c ∧ c < 2) (-1 ≤ v ∧ v < 20) (hasR V (t * 20 + k)) = 0) Ln n, u)) hx hb hr hlocks dL_update_14 hP hD hS ?_
      exfalso
      rcases goK_A (c := hasR V (t * 20 + k)) (show 0 ≤ t ∧ t < 4 ∧ 0 ≤ k ∧ k < 20 ∧ 0 ≤ c ∧ c < 2 by omega) (show -1 ≤ v ∧ v < 20 by omega) with ⟨h9, h8⟩ | ⟨h9, h8⟩ <;> omega
    · subst g_E
      refine vx_catch (own := RL) (name := xA) (E := xA) hown [{ startPc := 0, endPc := 9, handlerPc := 10, catchType := 16 }] { startPc := 0, endPc := 9, handlerPc := 15, catchType := 19 } [{ startPc := 0, endPc := 9, handlerPc := 20, catchType := 22 }] htab (List.forall_mem_cons.mpr ⟨Or.inr ⟨by decide, xI, (hts (.classLink RL 16 "java/lang/IndexOutOfBoundsException") (List.mem_of_getElem? (i := 1) rfl)), hCa.2.2.2.1⟩, (fun z hz => absurd hz List.not_mem_nil)⟩) (by decide) (by decide) (hts (.classLink RL 19 "java/lang/IllegalArgumentException") (List.mem_of_getElem? (i := 2) rfl)) (hCa.1 _ _ (List.mem_of_getElem? (i := 1) rfl)) hc1 hc2 hc3 ?_
      refine lv_astore (lv' := [(5, .ref (q8)), (0, .ref (ad 0)), (1, .int (iI (t))), (2, .int (iI (k))), (3, .int (iI (c))), (4, .int (iI (v)))]) hx hb dL_update_15 hl (by decide) rfl (fun ls hl => ?_)
      refine lv_ldc (v := iI (-1000002)) hx hb hown (by rw [show iI (-1000002) = (-1000002 : Int32) from by decide]; exact (hts (.constant RL 21 (-1000002)) (List.mem_of_getElem? (i := 5) rfl))) dL_update_17 ?_
      refine W.widen (k := 2) (n := 1900) (by omega) (by omega) ?_
      refine z_mret ((xLn (goK (0 ≤ t ∧ t < 4 ∧ 0 ≤ k ∧ k < 20 ∧ 0 ≤ c ∧ c < 2) (-1 ≤ v ∧ v < 20) (hasR V (t * 20 + k)) = 0) Ln n, u)) hx hb hr hlocks dL_update_19 hP hD hS ?_
      exfalso
      rcases goK_A (c := hasR V (t * 20 + k)) (show 0 ≤ t ∧ t < 4 ∧ 0 ≤ k ∧ k < 20 ∧ 0 ≤ c ∧ c < 2 by omega) (show -1 ≤ v ∧ v < 20 by omega) with ⟨h9, h8⟩ | ⟨h9, h8⟩ <;> omega
    · subst g_E
      refine vx_catch (own := RL) (name := xS) (E := xS) hown [{ startPc := 0, endPc := 9, handlerPc := 10, catchType := 16 }, { startPc := 0, endPc := 9, handlerPc := 15, catchType := 19 }] { startPc := 0, endPc := 9, handlerPc := 20, catchType := 22 } [] htab (List.forall_mem_cons.mpr ⟨Or.inr ⟨by decide, xI, (hts (.classLink RL 16 "java/lang/IndexOutOfBoundsException") (List.mem_of_getElem? (i := 1) rfl)), hCa.2.2.2.2.2.1⟩, (List.forall_mem_cons.mpr ⟨Or.inr ⟨by decide, xA, (hts (.classLink RL 19 "java/lang/IllegalArgumentException") (List.mem_of_getElem? (i := 2) rfl)), hCa.2.2.2.2.2.2⟩, (fun z hz => absurd hz List.not_mem_nil)⟩)⟩) (by decide) (by decide) (hts (.classLink RL 22 "java/lang/IllegalStateException") (List.mem_of_getElem? (i := 3) rfl)) (hCa.1 _ _ (List.mem_of_getElem? (i := 2) rfl)) hc1 hc2 hc3 ?_
      refine lv_astore (lv' := [(5, .ref (q8)), (0, .ref (ad 0)), (1, .int (iI (t))), (2, .int (iI (k))), (3, .int (iI (c))), (4, .int (iI (v)))]) hx hb dL_update_20 hl (by decide) rfl (fun ls hl => ?_)
      refine lv_ldc (v := iI (-1000003)) hx hb hown (by rw [show iI (-1000003) = (-1000003 : Int32) from by decide]; exact (hts (.constant RL 24 (-1000003)) (List.mem_of_getElem? (i := 6) rfl))) dL_update_22 ?_
      refine W.widen (k := 2) (n := 1900) (by omega) (by omega) ?_
      refine z_mret ((xLn (goK (0 ≤ t ∧ t < 4 ∧ 0 ≤ k ∧ k < 20 ∧ 0 ≤ c ∧ c < 2) (-1 ≤ v ∧ v < 20) (hasR V (t * 20 + k)) = 0) Ln n, u)) hx hb hr hlocks dL_update_24 hP hD hS ?_
      rcases goK_A (c := hasR V (t * 20 + k)) (show 0 ≤ t ∧ t < 4 ∧ 0 ≤ k ∧ k < 20 ∧ 0 ≤ c ∧ c < 2 by omega) (show -1 ≤ v ∧ v < 20 by omega) with ⟨h9, h8⟩ | ⟨h9, h8⟩
      · exfalso; omega
      · obtain ⟨_, z1, z2, z3⟩ := hq
        exact ⟨⟨by omega, by omega⟩, lg, by dsimp only; rw [updW_f (h8), z1], z2, by dsimp only; rw [z1]; exact okH_mono (by omega) g_H, z3, hx9.1, hx9.2.2⟩
  · have hP : va_P D vwCl [(ad 0, .inr (7, [.ref (ad 1), .ref (ad 4), .ref (ad 8), .ref (ad 12), .ref (ad 16), .ref (ad 18)])), (ad 4, .inr (0, [.ref (ad 1), .ref (ad 5), .ref (ad 6), .ref (ad 7)])), (ad 5, .inl (cI, 8, .inl (iA (P)))), (ad 7, .inl (cZ, 8, .inl (iA (Mo)))), (ad 1, .inr (4, [.ref (ad 2), .ref (u.1), .int (iI (u.2.2.2))])), (ad 2, .inl (cI, 160, .inl (iA (u.2.1)))), (u.1, .inl (cI, xLn (goK (0 ≤ t ∧ t < 4 ∧ 0 ≤ k ∧ k < 20 ∧ 0 ≤ c ∧ c < 2) (-1 ≤ v ∧ v < 20) (hasR V (t * 20 + k)) = 0) Ln n, .inl (iA (u.2.2.1))))] H := hP
    have hD : va_D AA [(ad 0, .inr (7, [.ref (ad 1), .ref (ad 4), .ref (ad 8), .ref (ad 12), .ref (ad 16), .ref (ad 18)])), (ad 4, .inr (0, [.ref (ad 1), .ref (ad 5), .ref (ad 6), .ref (ad 7)])), (ad 5, .inl (cI, 8, .inl (iA (P)))), (ad 7, .inl (cZ, 8, .inl (iA (Mo)))), (ad 1, .inr (4, [.ref (ad 2), .ref (u.1), .int (iI (u.2.2.2))])), (ad 2, .inl (cI, 160, .inl (iA (u.2.1)))), (u.1, .inl (cI, xLn (goK (0 ≤ t ∧ t < 4 ∧ 0 ≤ k ∧ k < 20 ∧ 0 ≤ c ∧ c < 2) (-1 ≤ v ∧ v < 20) (hasR V (t * 20 + k)) = 0) Ln n, .inl (iA (u.2.2.1))))] := hD
    refine W.widen (k := 2) (n := 1900) (by omega) (by omega) ?_
    refine z_mret ((xLn (goK (0 ≤ t ∧ t < 4 ∧ 0 ≤ k ∧ k < 20 ∧ 0 ≤ c ∧ c < 2) (-1 ≤ v ∧ v < 20) (hasR V (t * 20 + k)) = 0) Ln n, u)) hx hb hr hlocks dL_update_9 hP hD hS ?_
    obtain ⟨z0, z1, lg1, z2, z3, z4, z5⟩ := hq
    rcases goK_A (c := hasR V (t * 20 + k)) (show 0 ≤ t ∧ t < 4 ∧ 0 ≤ k ∧ k < 20 ∧ 0 ≤ c ∧ c < 2 by omega) (show -1 ≤ v ∧ v < 20 by omega) with ⟨h9, h8⟩ | ⟨h9, h8⟩
    · exact ⟨z1, lg1, by dsimp only; rw [updW_t h8]; exact z2, z3, z4, z5, hx9.1, hx9.2.2⟩
    · exfalso; omega

set_option maxHeartbeats 2000000 in
set_option maxRecDepth 100000 in
theorem c_L_delete (l : Launch) (D : va_G) (cI cZ cC : ClassId) (b0 : Nat) (adK adV : Nat → Nat) (sz : Nat) (ad : Nat → Nat) (be Ln : Nat) (P Ac Mo V B : Int → Int) (n N : Int) (lg : Lg) (Qa Qk : Int → Int) (ql : Int) (t k : Int) (g_lt : l.stackTraces = false) (g_P : ∀ j : Int, 0 ≤ j → j < 8 → P j = -2 ∨ (0 ≤ P j ∧ P j < 4)) (g_Mo : ∀ j : Int, 0 ≤ j → j < 8 → Mo j = 0 ∨ Mo j = 1) (g_Ac : ∀ j : Int, 0 ≤ j → j < 8 → 0 ≤ Ac j ∧ Ac j ≤ 3) (g_H : okH N lg V) (g_L : isL lg B n) (g_N : N ≤ 700) (g_Ln : 240 ≤ Ln ∧ n ≤ (Ln : Int) ∧ Ln ≤ 2000) (g_rg : 0 ≤ t ∧ t < 4 ∧ 0 ≤ k ∧ k < 20) : zWr l yL_delete wsL_delete ({ frames := 7, cells := 2, slots := 1900, locals := 189 }) D cI cZ cC b0 adK adV [(ad 0, .inr (7, [.ref (ad 1), .ref (ad 4), .ref (ad 8), .ref (ad 12), .ref (ad 16), .ref (ad 18)])), (ad 4, .inr (0, [.ref (ad 1), .ref (ad 5), .ref (ad 6), .ref (ad 7)])), (ad 5, .inl (cI, 8, .inl (iA (P)))), (ad 7, .inl (cZ, 8, .inl (iA (Mo)))), (ad 1, .inr (4, [.ref (ad 2), .ref (be), .int (iI (n))])), (ad 2, .inl (cI, 160, .inl (iA (V)))), (be, .inl (cI, Ln, .inl (iA (B)))), (ad 6, .inl (cI, 8, .inl (iA (Ac)))), (ad 12, .inr (1, [.ref (ad 1), .ref (ad 4), .ref (ad 13)])), (ad 13, .inr (3, [.ref (ad 14), .ref (ad 15), .int (iI (ql))])), (ad 14, .inl (cI, 80, .inl (iA (Qa)))), (ad 15, .inl (cZ, 80, .inl (iA (Qk))))] sz [.ref (ad 0), .int (iI (t)), .int (iI (k))] (2) (1900) (fun (u : Nat × Nat × (Int → Int) × (Int → Int) × Int × (Int → Int) × (Int → Int) × Int) => [(ad 0, .inr (7, [.ref (ad 1), .ref (ad 4), .ref (ad 8), .ref (ad 12), .ref (ad 16), .ref (ad 18)])), (ad 4, .inr (0, [.ref (ad 1), .ref (ad 5), .ref (ad 6), .ref (ad 7)])), (ad 5, .inl (cI, 8, .inl (iA (P)))), (ad 7, .inl (cZ, 8, .inl (iA (Mo)))), (ad 1, .inr (4, [.ref (ad 2), .ref (u.2.1), .int (iI (u.2.2.2.2.1))])), (ad 2, .inl (cI, 160, .inl (iA (u.2.2.1)))), (u.2.1, .inl (cI, u.1, .inl (iA (u.2.2.2.1)))), (ad 6, .inl (cI, 8, .inl (iA (Ac)))), (ad 12, .inr (1, [.ref (ad 1), .ref (ad 4), .ref (ad 13)])), (ad 13, .inr (3, [.ref (ad 14), .ref (ad 15), .int (iI (u.2.2.2.2.2.2.2))])), (ad 14, .inl (cI, 80, .inl (iA (u.2.2.2.2.2.1)))), (ad 15, .inl (cZ, 80, .inl (iA (u.2.2.2.2.2.2.1))))]) (fun w (u : Nat × Nat × (Int → Int) × (Int → Int) × Int × (Int → Int) × (Int → Int) × Int) => ib w ∧ ∃ lg1 : Lg, (w, u.2.2.1, lg1) = delW P Ac Mo V lg (t * 20 + k) ∧ isL lg1 u.2.2.2.1 u.2.2.2.2.1 ∧ okH N lg1 u.2.2.1 ∧ u.2.2.2.2.1 ≤ (u.1 : Int) ∧ Ln ≤ u.1 ∧ u.1 ≤ 2000) := by
  refine z_ofWr (cc := cL_delete) (maxL := 4) (ret := (some .int)) (hh := [(0, 6, 7, 16), (0, 6, 11, 22)]) RL (by decide +kernel) rfl rfl (Nat.le_of_ble_eq_true rfl) ?_
  intro p0 en0 s0 m0 args0 below0 meth0 c0 ls AA hx hb hr hlocks hml hown hts htab hCa hX hE hAb hbs hP hD hS hA hK hl
  have hl : lv_has ls 4 [(0, .ref (ad 0)), (1, .int (iI (t))), (2, .int (iI (k)))] := hl
  obtain ⟨H, hH⟩ : ∃ H, H = s0.heap := ⟨_, rfl⟩
  obtain ⟨locs, hlo⟩ : ∃ locs : List Loc, locs = [] := ⟨_, rfl⟩
  have hP : va_P D vwCl [(ad 0, .inr (7, [.ref (ad 1), .ref (ad 4), .ref (ad 8), .ref (ad 12), .ref (ad 16), .ref (ad 18)])), (ad 4, .inr (0, [.ref (ad 1), .ref (ad 5), .ref (ad 6), .ref (ad 7)])), (ad 5, .inl (cI, 8, .inl (iA (P)))), (ad 7, .inl (cZ, 8, .inl (iA (Mo)))), (ad 1, .inr (4, [.ref (ad 2), .ref (be), .int (iI (n))])), (ad 2, .inl (cI, 160, .inl (iA (V)))), (be, .inl (cI, Ln, .inl (iA (B)))), (ad 6, .inl (cI, 8, .inl (iA (Ac)))), (ad 12, .inr (1, [.ref (ad 1), .ref (ad 4), .ref (ad 13)])), (ad 13, .inr (3, [.ref (ad 14), .ref (ad 15), .int (iI (ql))])), (ad 14, .inl (cI, 80, .inl (iA (Qa)))), (ad 15, .inl (cZ, 80, .inl (iA (Qk))))] H := by rw [hH]; exact hP
  have hS : va_S AA s0.heap H locs := by rw [hH, hlo]; exact hS
  suffices hW : W p0 l en0 (headSpec wsL_delete ({ frames := 7, cells := 2, slots := 1900, locals := 189 })).room s0 m0 args0 below0 meth0 c0 H locs 0 0 (QMi below0 D ((fun (u : Nat × Nat × (Int → Int) × (Int → Int) × Int × (Int → Int) × (Int → Int) × Int) => [(ad 0, .inr (7, [.ref (ad 1), .ref (ad 4), .ref (ad 8), .ref (ad 12), .ref (ad 16), .ref (ad 18)])), (ad 4, .inr (0, [.ref (ad 1), .ref (ad 5), .ref (ad 6), .ref (ad 7)])), (ad 5, .inl (cI, 8, .inl (iA (P)))), (ad 7, .inl (cZ, 8, .inl (iA (Mo)))), (ad 1, .inr (4, [.ref (ad 2), .ref (u.2.1), .int (iI (u.2.2.2.2.1))])), (ad 2, .inl (cI, 160, .inl (iA (u.2.2.1)))), (u.2.1, .inl (cI, u.1, .inl (iA (u.2.2.2.1)))), (ad 6, .inl (cI, 8, .inl (iA (Ac)))), (ad 12, .inr (1, [.ref (ad 1), .ref (ad 4), .ref (ad 13)])), (ad 13, .inr (3, [.ref (ad 14), .ref (ad 15), .int (iI (u.2.2.2.2.2.2.2))])), (ad 14, .inl (cI, 80, .inl (iA (u.2.2.2.2.2.1)))), (ad 15, .inl (cZ, 80, .inl (iA (u.2.2.2.2.2.2.1))))])) (fun w (u : Nat × Nat × (Int → Int) × (Int → Int) × Int × (Int → Int) × (Int → Int) × Int) => ib w ∧ ∃ lg1 : Lg, (w, u.2.2.1, lg1) = delW P Ac Mo V lg (t * 20 + k) ∧ isL lg1 u.2.2.2.1 u.2.2.2.2.1 ∧ okH N lg1 u.2.2.1 ∧ u.2.2.2.2.1 ≤ (u.1 : Int) ∧ Ln ≤ u.1 ∧ u.1 ≤ 2000) AA args0 s0 (2) (1900)) (F0 m0 0 ls []) by rw [hH, hlo] at hW; exact hW
  have g_nn := isL_n g_L
  have g_top := (okH_top g_H).2.2
  have g_pot := pot_b V
  have g_V := (okH_top g_H).1
  have hx9 := xLn_w (goK (0 ≤ t ∧ t < 4 ∧ 0 ≤ k ∧ k < 20) (hasR V (t * 20 + k)) (True) = 0) g_Ln.1 g_Ln.2.2 (show n ≤ 700 by omega)
  refine lv_aload_n hx hb dL_delete_0 rfl (lv_at hl 0 rfl) ?_
  refine lv_iload_n hx hb dL_delete_1 rfl (lv_at hl 1 rfl) ?_
  refine lv_iload_n hx hb dL_delete_2 rfl (lv_at hl 2 rfl) ?_
  refine z_thV (As := [.int (iI (t)), .int (iI (k))]) (rest := []) (wr := []) (ws2 := (fun (u : Nat × (Int → Int) × (Int → Int) × Int × (Int → Int) × (Int → Int) × Int) => [(ad 0, .inr (7, [.ref (ad 1), .ref (ad 4), .ref (ad 8), .ref (ad 12), .ref (ad 16), .ref (ad 18)])), (ad 4, .inr (0, [.ref (ad 1), .ref (ad 5), .ref (ad 6), .ref (ad 7)])), (ad 5, .inl (cI, 8, .inl (iA (P)))), (ad 7, .inl (cZ, 8, .inl (iA (Mo)))), (ad 1, .inr (4, [.ref (ad 2), .ref (u.1), .int (iI (u.2.2.2.1))])), (ad 2, .inl (cI, 160, .inl (iA (u.2.1)))), (u.1, .inl (cI, xLn (goK (0 ≤ t ∧ t < 4 ∧ 0 ≤ k ∧ k < 20) (hasR V (t * 20 + k)) (True) = 0) Ln n, .inl (iA (u.2.2.1)))), (ad 6, .inl (cI, 8, .inl (iA (Ac)))), (ad 12, .inr (1, [.ref (ad 1), .ref (ad 4), .ref (ad 13)])), (ad 13, .inr (3, [.ref (ad 14), .ref (ad 15), .int (iI (u.2.2.2.2.2.2))])), (ad 14, .inl (cI, 80, .inl (iA (u.2.2.2.2.1)))), (ad 15, .inl (cZ, 80, .inl (iA (u.2.2.2.2.2.1))))])) hX hE hAb hbs ⟨hx, hb, hml, hown, hts⟩ (c_X7_delete l D cI cZ cC b0 adK adV H.size ad be Ln P Ac Mo V B n N lg Qa Qk ql t k (by first | assumption | omega) (by first | assumption | omega) (by first | assumption | omega) (by first | assumption | omega) (by first | assumption | omega) (by first | assumption | omega) (by first | assumption | omega) (by first | assumption | omega) (by first | assumption | omega) (by first | assumption | omega)) (cwV 2 hts gL_delete_X7_delete rfl rfl rfl (by decide +kernel) ⟨Nat.le_of_ble_eq_true rfl, Nat.le_of_ble_eq_true rfl⟩) hP hD hS hA hK [0, 1, 2, 3, 4, 5, 6, 7, 8, 9, 10, 11] [] [0, 1, 2, 3, 4, 5, 6, 7, 8, 9, 10, 11] rfl (by decide) rfl (by decide) (by decide) (by decide) (fun _ => rfl) 0 7 rfl rfl rfl rfl hl.1 rfl (Nat.le_of_ble_eq_true rfl) dL_delete_3 ⟨by show _ ≤ (2 : Nat); omega, by show _ ≤ (1900 : Nat); omega⟩ (fun E ce q8 u H locs hq hP hD hS hc1 hc2 hc3 => ?_) (fun v9 u H locs hq hP hD hS => ?_)
  · have hth : thr2 (goK (0 ≤ t ∧ t < 4 ∧ 0 ≤ k ∧ k < 20) (hasR V (t * 20 + k)) (True)) E := hq.1
    have hP : va_P D vwCl [(ad 0, .inr (7, [.ref (ad 1), .ref (ad 4), .ref (ad 8), .ref (ad 12), .ref (ad 16), .ref (ad 18)])), (ad 4, .inr (0, [.ref (ad 1), .ref (ad 5), .ref (ad 6), .ref (ad 7)])), (ad 5, .inl (cI, 8, .inl (iA (P)))), (ad 7, .inl (cZ, 8, .inl (iA (Mo)))), (ad 1, .inr (4, [.ref (ad 2), .ref (u.1), .int (iI (u.2.2.2.1))])), (ad 2, .inl (cI, 160, .inl (iA (u.2.1)))), (u.1, .inl (cI, xLn (goK (0 ≤ t ∧ t < 4 ∧ 0 ≤ k ∧ k < 20) (hasR V (t * 20 + k)) (True) = 0) Ln n, .inl (iA (u.2.2.1)))), (ad 6, .inl (cI, 8, .inl (iA (Ac)))), (ad 12, .inr (1, [.ref (ad 1), .ref (ad 4), .ref (ad 13)])), (ad 13, .inr (3, [.ref (ad 14), .ref (ad 15), .int (iI (u.2.2.2.2.2.2))])), (ad 14, .inl (cI, 80, .inl (iA (u.2.2.2.2.1)))), (ad 15, .inl (cZ, 80, .inl (iA (u.2.2.2.2.2.1))))] H := hP
    have hD : va_D AA [(ad 0, .inr (7, [.ref (ad 1), .ref (ad 4), .ref (ad 8), .ref (ad 12), .ref (ad 16), .ref (ad 18)])), (ad 4, .inr (0, [.ref (ad 1), .ref (ad 5), .ref (ad 6), .ref (ad 7)])), (ad 5, .inl (cI, 8, .inl (iA (P)))), (ad 7, .inl (cZ, 8, .inl (iA (Mo)))), (ad 1, .inr (4, [.ref (ad 2), .ref (u.1), .int (iI (u.2.2.2.1))])), (ad 2, .inl (cI, 160, .inl (iA (u.2.1)))), (u.1, .inl (cI, xLn (goK (0 ≤ t ∧ t < 4 ∧ 0 ≤ k ∧ k < 20) (hasR V (t * 20 + k)) (True) = 0) Ln n, .inl (iA (u.2.2.1)))), (ad 6, .inl (cI, 8, .inl (iA (Ac)))), (ad 12, .inr (1, [.ref (ad 1), .ref (ad 4), .ref (ad 13)])), (ad 13, .inr (3, [.ref (ad 14), .ref (ad 15), .int (iI (u.2.2.2.2.2.2))])), (ad 14, .inl (cI, 80, .inl (iA (u.2.2.2.2.1)))), (ad 15, .inl (cZ, 80, .inl (iA (u.2.2.2.2.2.1))))] := hD
    rcases hth with ⟨g_e, g_E⟩ | ⟨g_e, g_E⟩
    · subst g_E
      refine vx_catch (own := RL) (name := xI) (E := xI) hown [] { startPc := 0, endPc := 6, handlerPc := 7, catchType := 16 } [{ startPc := 0, endPc := 6, handlerPc := 11, catchType := 22 }] htab (fun z hz => absurd hz List.not_mem_nil) (by decide) (by decide) (hts (.classLink RL 16 "java/lang/IndexOutOfBoundsException") (List.mem_of_getElem? (i := 1) rfl)) (hCa.1 _ _ (List.mem_of_getElem? (i := 0) rfl)) hc1 hc2 hc3 ?_
      refine lv_astore_n (lv' := [(3, .ref (q8)), (0, .ref (ad 0)), (1, .int (iI (t))), (2, .int (iI (k)))]) hx hb dL_delete_7 rfl hl (by decide) rfl (fun ls hl => ?_)
      refine lv_ldc (v := iI (-1000001)) hx hb hown (by rw [show iI (-1000001) = (-1000001 : Int32) from by decide]; exact (hts (.constant RL 18 (-1000001)) (List.mem_of_getElem? (i := 3) rfl))) dL_delete_8 ?_
      refine W.widen (k := 2) (n := 1900) (by omega) (by omega) ?_
      refine z_mret ((xLn (goK (0 ≤ t ∧ t < 4 ∧ 0 ≤ k ∧ k < 20) (hasR V (t * 20 + k)) (True) = 0) Ln n, u)) hx hb hr hlocks dL_delete_10 hP hD hS ?_
      exfalso
      rcases goK_B (b := hasR V (t * 20 + k)) (show 0 ≤ t ∧ t < 4 ∧ 0 ≤ k ∧ k < 20 by omega) with ⟨h9, h8⟩ | ⟨h9, h8⟩ <;> omega
    · subst g_E
      refine vx_catch (own := RL) (name := xS) (E := xS) hown [{ startPc := 0, endPc := 6, handlerPc := 7, catchType := 16 }] { startPc := 0, endPc := 6, handlerPc := 11, catchType := 22 } [] htab (List.forall_mem_cons.mpr ⟨Or.inr ⟨by decide, xI, (hts (.classLink RL 16 "java/lang/IndexOutOfBoundsException") (List.mem_of_getElem? (i := 1) rfl)), hCa.2.2.2.2.2.1⟩, (fun z hz => absurd hz List.not_mem_nil)⟩) (by decide) (by decide) (hts (.classLink RL 22 "java/lang/IllegalStateException") (List.mem_of_getElem? (i := 2) rfl)) (hCa.1 _ _ (List.mem_of_getElem? (i := 2) rfl)) hc1 hc2 hc3 ?_
      refine lv_astore_n (lv' := [(3, .ref (q8)), (0, .ref (ad 0)), (1, .int (iI (t))), (2, .int (iI (k)))]) hx hb dL_delete_11 rfl hl (by decide) rfl (fun ls hl => ?_)
      refine lv_ldc (v := iI (-1000002)) hx hb hown (by rw [show iI (-1000002) = (-1000002 : Int32) from by decide]; exact (hts (.constant RL 21 (-1000002)) (List.mem_of_getElem? (i := 4) rfl))) dL_delete_12 ?_
      refine W.widen (k := 2) (n := 1900) (by omega) (by omega) ?_
      refine z_mret ((xLn (goK (0 ≤ t ∧ t < 4 ∧ 0 ≤ k ∧ k < 20) (hasR V (t * 20 + k)) (True) = 0) Ln n, u)) hx hb hr hlocks dL_delete_14 hP hD hS ?_
      rcases goK_B (b := hasR V (t * 20 + k)) (show 0 ≤ t ∧ t < 4 ∧ 0 ≤ k ∧ k < 20 by omega) with ⟨h9, h8⟩ | ⟨h9, h8⟩
      · exfalso; omega
      · obtain ⟨_, z1, z2, z3⟩ := hq
        exact ⟨⟨by omega, by omega⟩, lg, by dsimp only; rw [delW_f (h8), z1], z2, by dsimp only; rw [z1]; exact okH_mono (by omega) g_H, z3, hx9.1, hx9.2.2⟩
  · have hP : va_P D vwCl [(ad 0, .inr (7, [.ref (ad 1), .ref (ad 4), .ref (ad 8), .ref (ad 12), .ref (ad 16), .ref (ad 18)])), (ad 4, .inr (0, [.ref (ad 1), .ref (ad 5), .ref (ad 6), .ref (ad 7)])), (ad 5, .inl (cI, 8, .inl (iA (P)))), (ad 7, .inl (cZ, 8, .inl (iA (Mo)))), (ad 1, .inr (4, [.ref (ad 2), .ref (u.1), .int (iI (u.2.2.2.1))])), (ad 2, .inl (cI, 160, .inl (iA (u.2.1)))), (u.1, .inl (cI, xLn (goK (0 ≤ t ∧ t < 4 ∧ 0 ≤ k ∧ k < 20) (hasR V (t * 20 + k)) (True) = 0) Ln n, .inl (iA (u.2.2.1)))), (ad 6, .inl (cI, 8, .inl (iA (Ac)))), (ad 12, .inr (1, [.ref (ad 1), .ref (ad 4), .ref (ad 13)])), (ad 13, .inr (3, [.ref (ad 14), .ref (ad 15), .int (iI (u.2.2.2.2.2.2))])), (ad 14, .inl (cI, 80, .inl (iA (u.2.2.2.2.1)))), (ad 15, .inl (cZ, 80, .inl (iA (u.2.2.2.2.2.1))))] H := hP
    have hD : va_D AA [(ad 0, .inr (7, [.ref (ad 1), .ref (ad 4), .ref (ad 8), .ref (ad 12), .ref (ad 16), .ref (ad 18)])), (ad 4, .inr (0, [.ref (ad 1), .ref (ad 5), .ref (ad 6), .ref (ad 7)])), (ad 5, .inl (cI, 8, .inl (iA (P)))), (ad 7, .inl (cZ, 8, .inl (iA (Mo)))), (ad 1, .inr (4, [.ref (ad 2), .ref (u.1), .int (iI (u.2.2.2.1))])), (ad 2, .inl (cI, 160, .inl (iA (u.2.1)))), (u.1, .inl (cI, xLn (goK (0 ≤ t ∧ t < 4 ∧ 0 ≤ k ∧ k < 20) (hasR V (t * 20 + k)) (True) = 0) Ln n, .inl (iA (u.2.2.1)))), (ad 6, .inl (cI, 8, .inl (iA (Ac)))), (ad 12, .inr (1, [.ref (ad 1), .ref (ad 4), .ref (ad 13)])), (ad 13, .inr (3, [.ref (ad 14), .ref (ad 15), .int (iI (u.2.2.2.2.2.2))])), (ad 14, .inl (cI, 80, .inl (iA (u.2.2.2.2.1)))), (ad 15, .inl (cZ, 80, .inl (iA (u.2.2.2.2.2.1))))] := hD
    refine W.widen (k := 2) (n := 1900) (by omega) (by omega) ?_
    refine z_mret ((xLn (goK (0 ≤ t ∧ t < 4 ∧ 0 ≤ k ∧ k < 20) (hasR V (t * 20 + k)) (True) = 0) Ln n, u)) hx hb hr hlocks dL_delete_6 hP hD hS ?_
    obtain ⟨z0, z1, lg1, z2, z3, z4, z5⟩ := hq
    rcases goK_B (b := hasR V (t * 20 + k)) (show 0 ≤ t ∧ t < 4 ∧ 0 ≤ k ∧ k < 20 by omega) with ⟨h9, h8⟩ | ⟨h9, h8⟩
    · exact ⟨z1, lg1, by dsimp only; rw [delW_t h8]; exact z2, z3, z4, z5, hx9.1, hx9.2.2⟩
    · exfalso; omega

