/-! contracts over the fixed tables, and their calls -/
def zN : List Cond := [.methodLinkNest RX2 11 yX3_init RX7, .methodLinkNest RX1 11 yX3_init RX7, .methodLinkNest RX7 43 yX5_init RX7, .methodLinkNest RX7 50 yX6_init RX7, .methodLinkNest RX0 50 yX7_tableOfConstraint RX7, .methodLinkNest RX0 47 yX7_rowNumber RX7, .methodLinkNest RX0 38 yX7_columnOfConstraint RX7, .methodLinkNest RX0 62 yX7_refusalBecauseOf RX7, .methodLinkNest RX1 58 yX7_tableOfConstraint RX7, .methodLinkNest RX1 61 yX7_rowNumber RX7, .methodLinkNest RX1 68 yX7_columnOfConstraint RX7, .methodLinkNest RX1 50 yX7_refusalBecauseOf RX7, .methodLinkNest RX4 22 yX7_rowNumber RX7, .methodLinkNest RX2 26 yX7_tableOfConstraint RX7, .methodLinkNest RX2 30 yX7_rowNumber RX7, .methodLinkNest RX2 53 yX7_tableOfRow RX7, .methodLinkNest RX2 56 yX7_constraintNumber RX7]
theorem zN_form : ∀ w ∈ zN, ∃ (a : String) (i : Nat) (x : MethodName) (h : String), w = Cond.methodLinkNest a i x h := by
  intro w hw
  simp only [zN, List.mem_cons, List.not_mem_nil, or_false] at hw
  rcases hw with rfl | rfl | rfl | rfl | rfl | rfl | rfl | rfl | rfl | rfl | rfl | rfl | rfl | rfl | rfl | rfl | rfl <;> exact ⟨_, _, _, _, rfl⟩
/-- the classes, the array classes and the nest mates' links are as the tables have them -/
def zK (D : va_G) (cI cZ cC : ClassId) (U : State) : Prop := va_K D vwCl [(cI, .int), (cZ, .boolean), (cC, .char)] U ∧ ∀ w ∈ zN, va_Nw w U
theorem zK.same {D : va_G} {cI cZ cC : ClassId} {u U : State} (h : u.vm = U.vm) (k : zK D cI cZ cC u) : zK D cI cZ cC U := ⟨va_K.moved (by rw [h]; exact Vm.Alike.refl _) k.1, fun w hw => va_Nw.same (by obtain ⟨a, i, x, y, rfl⟩ := zN_form w hw; rfl) h (k.2 w hw)⟩
theorem zK.warm {D : va_G} {cI cZ cC : ClassId} {s U : State} (hW : s.WarmedH U.vm) (k : zK D cI cZ cC s) : zK D cI cZ cC U := ⟨va_K.moved hW.alike k.1, fun w hw => by
  obtain ⟨a, i, x, y, rfl⟩ := zN_form w hw
  exact va_Nw.warmM hW (k.2 _ hw)⟩
/-- a contract's start: reading, writing -/
def zPr (D : va_G) (cI cZ cC : ClassId) (wc : va_W) (U : State) : Prop := va_P D vwCl wc U.heap ∧ zK D cI cZ cC U
def zPw (D : va_G) (cI cZ cC : ClassId) (wc : va_W) (sz : Nat) (U : State) : Prop := U.heap.size = sz ∧ va_P D vwCl wc U.heap ∧ zK D cI cZ cC U ∧ va_D (fun _ => True) wc
/-- a method that reads: its answer is v, the heap stays -/
def zRo (l : Launch) (y : MethodName) (ws : List Cond) (rm : Room) (D : va_G) (cI cZ cC : ClassId) (wc : va_W) (av : List Value) (v : Int) : Prop := Met l y ws rm (va_Pc av (zPr D cI cZ cC wc)) (vp_Si (fun r => r = iI v)) 0 0 (fun _ => False)
/-- a method that writes its world wc: an int is answered, the world is w1 u -/
def zMi {S : Type} (l : Launch) (y : MethodName) (ws : List Cond) (rm : Room) (D : va_G) (cI cZ cC : ClassId) (wc : va_W) (sz : Nat) (av : List Value) (mc ms : Nat) (w1 : S → va_W) (q : Int → S → Prop) : Prop := Met l y ws rm (va_Pc av (zPw D cI cZ cC wc sz)) (va_Qi (fun r u => ∃ v : Int, r = iI v ∧ q v u) (fun (u : S) t => va_P D vwCl (w1 u) t.heap ∧ va_D (va_A wc sz) (w1 u)) (va_A wc sz)) mc ms (va_A wc sz)
def zMv {S : Type} (l : Launch) (y : MethodName) (ws : List Cond) (rm : Room) (D : va_G) (cI cZ cC : ClassId) (wc : va_W) (sz : Nat) (av : List Value) (mc ms : Nat) (w1 : S → va_W) (q : S → Prop) : Prop := Met l y ws rm (va_Pc av (zPw D cI cZ cC wc sz)) (va_Qv q (fun (u : S) t => va_P D vwCl (w1 u) t.heap ∧ va_D (va_A wc sz) (w1 u)) (va_A wc sz)) mc ms (va_A wc sz)
theorem zPr_blind {D : va_G} {cI cZ cC : ClassId} {wc : va_W} {av : List Value} : FrameBlind (va_Pc av (zPr D cI cZ cC wc)) := fun a U g mk q => ⟨q.1, q.2.1, zK.same (u := U) (U := U.calling g mk a) rfl q.2.2⟩
theorem zPw_blind {D : va_G} {cI cZ cC : ClassId} {wc : va_W} {sz : Nat} {av : List Value} : FrameBlind (va_Pc av (zPw D cI cZ cC wc sz)) := fun a U g mk q => ⟨q.1, q.2.1, q.2.2.1, zK.same (u := U) (U := U.calling g mk a) rfl q.2.2.2.1, q.2.2.2.2⟩
abbrev QRo (below : List Frame) (v : Int) (args : Array Value) (s : State) : State → Prop := MQ below (vp_Si (fun r => r = iI v)) args s 0 0 (fun _ => False)
abbrev QMi {S : Type} (below : List Frame) (D : va_G) (w1 : S → va_W) (q : Int → S → Prop) (A : Nat → Prop) (args : Array Value) (s : State) (mc ms : Nat) : State → Prop := MQ below (va_Qi (fun r u => ∃ v : Int, r = iI v ∧ q v u) (fun (u : S) t => va_P D vwCl (w1 u) t.heap ∧ va_D A (w1 u)) A) args s mc ms A
abbrev QMv {S : Type} (below : List Frame) (D : va_G) (w1 : S → va_W) (q : S → Prop) (A : Nat → Prop) (args : Array Value) (s : State) (mc ms : Nat) : State → Prop := MQ below (va_Qv q (fun (u : S) t => va_P D vwCl (w1 u) t.heap ∧ va_D A (w1 u)) A) args s mc ms A
section ZC
variable {p : Program} {l : Launch} {e : Env} {R : Room} {s : State} {m : MethodId} {args : Array Value} {below : List Frame} {meth : Method} {c : Code} {H : Heap} {locs : List Loc} {cells slots : Nat} {Q : State → Prop}
variable {cc bytes : ByteArray} {pc nL maxL n index : Nat} {ls : Array Slot} {rest As st0 : List Value} {D : va_G} {cI cZ cC : ClassId} {ret : Option FieldType} {own C host : String} {Ts wsY : List Cond} {y : MethodName} {rm : Room} {ws wc : va_W} {b : Nat}
theorem z_pre (hP : va_P D vwCl ws H) (hK : zK D cI cZ cC s) (ic : List Nat) (hC : ic.map (fun i => ws[i]?) = wc.map some) : ∀ U : State, U.heap = H → s.WarmedH U.vm → zPr D cI cZ cC wc U := by
  intro U hU hW
  refine ⟨?_, hK.warm hW⟩
  rw [hU]
  refine hP.sub ic ?_
  have h1 : ic.filterMap (fun i => ws[i]?) = (ic.map (fun i => ws[i]?)).filterMap id := by rw [List.filterMap_map]; rfl
  rw [h1, hC, List.filterMap_map]
  simp
theorem z_preW {A : Nat → Prop} (hP : va_P D vwCl ws H) (hD : va_D A ws) (hK : zK D cI cZ cC s) (ic : List Nat) (hn : va_nd ic = true) (hC : ic.map (fun i => ws[i]?) = wc.map some) : ∀ U : State, U.heap = H → s.WarmedH U.vm → zPw D cI cZ cC wc H.size U := by
  intro U hU hW
  have h := z_pre hP hK ic hC U hU hW
  exact ⟨by rw [hU], h.1, h.2, (hD.sub ic hn hC).weaken (fun _ _ _ _ => trivial)⟩
theorem z_run {v : Int} {a : Array Value} (hr : va_Run p l e R s m args below meth c H locs cells slots 0 0 (F0 m pc ls st0) rest (vp_Si (fun r => r = iI v) a) (fun _ => False))
    (kk : W p l e R s m args below meth c H locs cells slots Q (F0 m (pc + 3) ls (.int (iI v) :: rest))) : W p l e R s m args below meth c H locs cells slots Q (F0 m pc ls st0) := by
  refine vp_callSi (post := fun r => r = iI v) (a := a) (fun T hT X => ?_) (fun r hr2 => by rw [hr2]; exact kk)
  obtain ⟨v2, st₀, t, T', L, h0, X', hL, e1, -, hq, st⟩ := hr T hT X
  exact ⟨v2, st₀, t, T', L, h0, X', hL, e1, hq, st⟩
theorem z_roV {v : Int} (S : CallFix p m c cc nL s args Ts own) (hM : zRo l y wsY rm D cI cZ cC wc (.ref b :: As) v) (cw : CallW R s args own C index y bytes maxL ret wsY rm 0 0 n) (hP : va_P D vwCl ws H) (hK : zK D cI cZ cC s) (ic : List Nat) (hC : ic.map (fun i => ws[i]?) = wc.map some)
    (q0 ci : Nat) {fs : List Value} {q : vw_C} (hc : vwCl[ci]? = some q) (he : ws[q0]? = some (b, .inr (ci, fs))) (hq : q.1 = C)
    (hn : As.length = n) (hsize : ls.size = nL) (hstack : st0 = As.reverse ++ .ref b :: rest) (hW : (rest.map fun v => v.category).sum ≤ 8) (hdg : decode cc pc = .ok (.invokevirtual index, 3)) (hf : cells ≤ R.cells ∧ slots ≤ R.slots)
    (kk : W p l e R s m args below meth c H locs cells slots Q (F0 m (pc + 3) ls (.int (iI v) :: rest))) : W p l e R s m args below meth c H locs cells slots Q (F0 m pc ls st0) :=
  z_run (va_runV S hM cw ⟨zPr_blind, by rw [← hq]; exact va_recv hK.1 hP hc he, fun U hU hW2 => ⟨rfl, z_pre hP hK ic hC U hU hW2⟩⟩ rfl hn hsize hstack (lv_room hW) hdg hf) kk
theorem z_roS {v : Int} (S : CallFix p m c cc nL s args Ts own) (hM : zRo l y wsY rm D cI cZ cC wc As v) (cw : CallB R s args own index y bytes maxL ret wsY rm 0 0 n ∧ (Cond.static y).before args s = true) (hP : va_P D vwCl ws H) (hK : zK D cI cZ cC s) (ic : List Nat) (hC : ic.map (fun i => ws[i]?) = wc.map some)
    (hn : As.length = n) (hsize : ls.size = nL) (hstack : st0 = As.reverse ++ rest) (hW : (rest.map fun v => v.category).sum ≤ 8) (hdg : decode cc pc = .ok (.invokestatic index, 3)) (hf : cells ≤ R.cells ∧ slots ≤ R.slots)
    (kk : W p l e R s m args below meth c H locs cells slots Q (F0 m (pc + 3) ls (.int (iI v) :: rest))) : W p l e R s m args below meth c H locs cells slots Q (F0 m pc ls st0) :=
  z_run (va_runS S hM cw ⟨zPr_blind, fun U hU hW2 => ⟨rfl, z_pre hP hK ic hC U hU hW2⟩⟩ rfl hn hsize hstack (lv_room hW) hdg hf) kk
theorem z_roN {v : Int} (S : CallFix p m c cc nL s args Ts own) (hM : zRo l y wsY rm D cI cZ cC wc As v) (cw : va_CN R s args own index y host bytes maxL ret wsY rm 0 0 n ∧ (Cond.static y).before args s = true ∧ True) (hP : va_P D vwCl ws H) (hK : zK D cI cZ cC s) (ic : List Nat) (hC : ic.map (fun i => ws[i]?) = wc.map some)
    (hn : As.length = n) (hsize : ls.size = nL) (hstack : st0 = As.reverse ++ rest) (hW : (rest.map fun v => v.category).sum ≤ 8) (hdg : decode cc pc = .ok (.invokestatic index, 3)) (hf : cells ≤ R.cells ∧ slots ≤ R.slots)
    (kk : W p l e R s m args below meth c H locs cells slots Q (F0 m (pc + 3) ls (.int (iI v) :: rest))) : W p l e R s m args below meth c H locs cells slots Q (F0 m pc ls st0) :=
  z_run (va_runSN S hM cw ⟨zPr_blind, fun U hU hW2 => ⟨rfl, z_pre hP hK ic hC U hU hW2⟩⟩ rfl hn hsize hstack (lv_room hW) hdg hf) kk
/-- behind a call that writes: the caller's world, in its old order -/
theorem z_back {A : Nat → Prop} {wr w1 ws2 : va_W} {H1 : Heap} (hP : va_P D vwCl ws H) (hD : va_D A ws) (ic ir ip : List Nat) (hC : ic.map (fun i => ws[i]?) = wc.map some) (hR : ir.map (fun i => ws[i]?) = wr.map some) (hn : va_nd ir = true) (hdis : ∀ i ∈ ir, i ∉ ic) (hpn : va_nd ip = true) (hp : ip.map (fun i => (wr ++ w1)[i]?) = ws2.map some)
    (hk : ∀ q : Nat, q < H.size → ¬ va_A wc H.size q → H1[q]? = H[q]?) (hF : ∀ q, va_A wc H.size q → A q) (hP1 : va_P D vwCl w1 H1) (hD1 : va_D (va_A wc H.size) w1) : va_P D vwCl ws2 H1 ∧ va_D A ws2 := by
  obtain ⟨h1, h2⟩ := va_join hP hD ic ir hC hR hn hdis hk hF hP1 hD1
  refine ⟨?_, h2.sub ip hpn hp⟩
  refine h1.sub ip ?_
  have h3 : ip.filterMap (fun i => (wr ++ w1)[i]?) = (ip.map (fun i => (wr ++ w1)[i]?)).filterMap id := by rw [List.filterMap_map]; rfl
  rw [h3, hp, List.filterMap_map]
  simp
theorem z_muV {S0 : Type} {A : Nat → Prop} {mc ms : Nat} {w1 ws2 : S0 → va_W} {q : Int → S0 → Prop} {wr : va_W} (S : CallFix p m c cc nL s args Ts own) (hM : zMi l y wsY rm D cI cZ cC wc H.size (.ref b :: As) mc ms w1 q) (cw : CallW R s args own C index y bytes maxL ret wsY rm mc ms n) (hP : va_P D vwCl ws H) (hD : va_D A ws) (hS : va_S A s.heap H locs) (hA : ∀ q, s.heap.size ≤ q → A q) (hK : zK D cI cZ cC s)
    (ic ir ip : List Nat) (hC : ic.map (fun i => ws[i]?) = wc.map some) (hcn : va_nd ic = true) (hR : ir.map (fun i => ws[i]?) = wr.map some) (hrn : va_nd ir = true) (hdis : ∀ i ∈ ir, i ∉ ic) (hpn : va_nd ip = true) (hp : ∀ u, ip.map (fun i => (wr ++ w1 u)[i]?) = (ws2 u).map some)
    (q0 ci : Nat) {fs : List Value} {q9 : vw_C} (hc : vwCl[ci]? = some q9) (he : ws[q0]? = some (b, .inr (ci, fs))) (hq : q9.1 = C)
    (hn : As.length = n) (hsize : ls.size = nL) (hstack : st0 = As.reverse ++ .ref b :: rest) (hW : (rest.map fun v => v.category).sum ≤ 8) (hdg : decode cc pc = .ok (.invokevirtual index, 3)) (hf : cells + mc ≤ R.cells ∧ slots + ms ≤ R.slots)
    (kk : ∀ (v : Int) (u : S0) (H1 : Heap) (locs1 : List Loc), q v u → va_P D vwCl (ws2 u) H1 → va_D A (ws2 u) → va_S A s.heap H1 locs1 → W p l e R s m args below meth c H1 locs1 (cells + mc) (slots + ms) Q (F0 m (pc + 3) ls (.int (iI v) :: rest))) : W p l e R s m args below meth c H locs cells slots Q (F0 m pc ls st0) := by
  have hF := va_free hD hS hA ic hC
  refine va_calli (va_runV S hM cw ⟨zPw_blind, by rw [← hq]; exact va_recv hK.1 hP hc he, fun U hU hW2 => ⟨rfl, z_preW hP hD hK ic hcn hC U hU hW2⟩⟩ rfl hn hsize hstack (lv_room hW) hdg hf) hS (fun q _ h => hF q h) hF (fun r u t H1 locs1 ht hvm hw hB hz hk hS1 => ?_)
  obtain ⟨v, rfl, hqv⟩ := hw
  obtain ⟨hP1, hD1⟩ := hB
  rw [ht] at hP1
  obtain ⟨g1, g2⟩ := z_back hP hD ic ir ip hC hR hrn hdis hpn (hp u) hk hF hP1 hD1
  exact kk v u H1 locs1 hqv g1 g2 hS1
theorem z_mvV {S0 : Type} {A : Nat → Prop} {mc ms : Nat} {w1 ws2 : S0 → va_W} {q : S0 → Prop} {wr : va_W} (S : CallFix p m c cc nL s args Ts own) (hM : zMv l y wsY rm D cI cZ cC wc H.size (.ref b :: As) mc ms w1 q) (cw : CallW R s args own C index y bytes maxL ret wsY rm mc ms n) (hP : va_P D vwCl ws H) (hD : va_D A ws) (hS : va_S A s.heap H locs) (hA : ∀ q, s.heap.size ≤ q → A q) (hK : zK D cI cZ cC s)
    (ic ir ip : List Nat) (hC : ic.map (fun i => ws[i]?) = wc.map some) (hcn : va_nd ic = true) (hR : ir.map (fun i => ws[i]?) = wr.map some) (hrn : va_nd ir = true) (hdis : ∀ i ∈ ir, i ∉ ic) (hpn : va_nd ip = true) (hp : ∀ u, ip.map (fun i => (wr ++ w1 u)[i]?) = (ws2 u).map some)
    (q0 ci : Nat) {fs : List Value} {q9 : vw_C} (hc : vwCl[ci]? = some q9) (he : ws[q0]? = some (b, .inr (ci, fs))) (hq : q9.1 = C)
    (hn : As.length = n) (hsize : ls.size = nL) (hstack : st0 = As.reverse ++ .ref b :: rest) (hW : (rest.map fun v => v.category).sum ≤ 8) (hdg : decode cc pc = .ok (.invokevirtual index, 3)) (hf : cells + mc ≤ R.cells ∧ slots + ms ≤ R.slots)
    (kk : ∀ (u : S0) (H1 : Heap) (locs1 : List Loc), q u → va_P D vwCl (ws2 u) H1 → va_D A (ws2 u) → va_S A s.heap H1 locs1 → W p l e R s m args below meth c H1 locs1 (cells + mc) (slots + ms) Q (F0 m (pc + 3) ls rest)) : W p l e R s m args below meth c H locs cells slots Q (F0 m pc ls st0) := by
  have hF := va_free hD hS hA ic hC
  refine va_callv (va_runV S hM cw ⟨zPw_blind, by rw [← hq]; exact va_recv hK.1 hP hc he, fun U hU hW2 => ⟨rfl, z_preW hP hD hK ic hcn hC U hU hW2⟩⟩ rfl hn hsize hstack (lv_room hW) hdg hf) hS (fun q _ h => hF q h) hF (fun u t H1 locs1 ht hvm hw hB hz hk hS1 => ?_)
  obtain ⟨hP1, hD1⟩ := hB
  rw [ht] at hP1
  obtain ⟨g1, g2⟩ := z_back hP hD ic ir ip hC hR hrn hdis hpn (hp u) hk hF hP1 hD1
  exact kk u H1 locs1 hw g1 g2 hS1
end ZC
section ZR
variable {p : Program} {l : Launch} {e : Env} {R : Room} {s : State} {m : MethodId} {args : Array Value} {below : List Frame} {meth : Method} {c : Code} {H : Heap} {locs : List Loc} {cells slots : Nat} {Q : State → Prop}
variable {cc : ByteArray} {pc : Nat} {ls : Array Slot} {D : va_G} {A : Nat → Prop}
/-- the ends -/
theorem z_rret {v x : Int} (hx : p.tables.exec = Jvm.exec) (hb : c.code = cc) (hr : meth.sig.returnType = some .int) (hlocks : meth.locks = false) (hdg : decode cc pc = .ok (.ireturn, 1)) (h : x = v) : W p l e R s m args below meth c s.heap [] 0 0 (MQ below (vp_Si (fun r => r = iI v)) args s 0 0 (fun _ => False)) (F0 m pc ls [.int (iI x)]) := by
  subst h
  exact W.iret hx hb hr (fun t ht hW => ⟨_, rfl, rfl, ht⟩) (fun q h => by cases h) hdg hlocks
theorem z_rretZ {v x : Int} (hx : p.tables.exec = Jvm.exec) (hb : c.code = cc) (hr : meth.sig.returnType = some .boolean) (hlocks : meth.locks = false) (hdg : decode cc pc = .ok (.ireturn, 1)) (h1 : x = 0 ∨ x = 1) (h : x = v) : W p l e R s m args below meth c s.heap [] 0 0 (MQ below (vp_Si (fun r => r = iI v)) args s 0 0 (fun _ => False)) (F0 m pc ls [.int (iI x)]) := by
  subst h
  exact W.zret hx hb hr (nar_zI h1) (fun t ht hW => ⟨_, rfl, rfl, ht⟩) (fun q h => by cases h) hdg hlocks
theorem z_mret {S0 : Type} {w1 : S0 → va_W} {q : Int → S0 → Prop} {v : Int} (u : S0) (hx : p.tables.exec = Jvm.exec) (hb : c.code = cc) (hr : meth.sig.returnType = some .int) (hlocks : meth.locks = false) (hdg : decode cc pc = .ok (.ireturn, 1)) (hP : va_P D vwCl (w1 u) H) (hD : va_D A (w1 u)) (hS : va_S A s.heap H locs) (hq : q v u) : W p l e R s m args below meth c H locs cells slots (MQ below (va_Qi (fun r u => ∃ v : Int, r = iI v ∧ q v u) (fun (u : S0) t => va_P D vwCl (w1 u) t.heap ∧ va_D A (w1 u)) A) args s cells slots A) (F0 m pc ls [.int (iI v)]) :=
  W.iret hx hb hr (fun t ht hW => ⟨⟨_, u, rfl, ⟨v, rfl, hq⟩, by rw [ht]; exact hP, hD⟩, hS.F ht⟩) hS.2.2 hdg hlocks
theorem z_mretZ {S0 : Type} {w1 : S0 → va_W} {q : Int → S0 → Prop} {v : Int} (u : S0) (hx : p.tables.exec = Jvm.exec) (hb : c.code = cc) (hr : meth.sig.returnType = some .boolean) (hlocks : meth.locks = false) (hdg : decode cc pc = .ok (.ireturn, 1)) (h1 : v = 0 ∨ v = 1) (hP : va_P D vwCl (w1 u) H) (hD : va_D A (w1 u)) (hS : va_S A s.heap H locs) (hq : q v u) : W p l e R s m args below meth c H locs cells slots (MQ below (va_Qi (fun r u => ∃ v : Int, r = iI v ∧ q v u) (fun (u : S0) t => va_P D vwCl (w1 u) t.heap ∧ va_D A (w1 u)) A) args s cells slots A) (F0 m pc ls [.int (iI v)]) :=
  W.zret hx hb hr (nar_zI h1) (fun t ht hW => ⟨⟨_, u, rfl, ⟨v, rfl, hq⟩, by rw [ht]; exact hP, hD⟩, hS.F ht⟩) hS.2.2 hdg hlocks
theorem z_mretC {S0 : Type} {w1 : S0 → va_W} {q : Int → S0 → Prop} {v : Int} (u : S0) (hx : p.tables.exec = Jvm.exec) (hb : c.code = cc) (hr : meth.sig.returnType = some .char) (hlocks : meth.locks = false) (hdg : decode cc pc = .ok (.ireturn, 1)) (h1 : 0 ≤ v ∧ v < 65536) (hP : va_P D vwCl (w1 u) H) (hD : va_D A (w1 u)) (hS : va_S A s.heap H locs) (hq : q v u) : W p l e R s m args below meth c H locs cells slots (MQ below (va_Qi (fun r u => ∃ v : Int, r = iI v ∧ q v u) (fun (u : S0) t => va_P D vwCl (w1 u) t.heap ∧ va_D A (w1 u)) A) args s cells slots A) (F0 m pc ls [.int (iI v)]) :=
  W.zret hx hb hr (nar_cI h1) (fun t ht hW => ⟨⟨_, u, rfl, ⟨v, rfl, hq⟩, by rw [ht]; exact hP, hD⟩, hS.F ht⟩) hS.2.2 hdg hlocks
theorem z_vret {S0 : Type} {w1 : S0 → va_W} {q : S0 → Prop} (u : S0) (hx : p.tables.exec = Jvm.exec) (hb : c.code = cc) (hr : meth.sig.returnType = none) (hlocks : meth.locks = false) (hdg : decode cc pc = .ok (.return_, 1)) (hP : va_P D vwCl (w1 u) H) (hD : va_D A (w1 u)) (hS : va_S A s.heap H locs) (hq : q u) : W p l e R s m args below meth c H locs cells slots (MQ below (va_Qv q (fun (u : S0) t => va_P D vwCl (w1 u) t.heap ∧ va_D A (w1 u)) A) args s cells slots A) (F0 m pc ls []) :=
  W.vret hx hb hr (fun t ht hW => ⟨⟨u, rfl, hq, by rw [ht]; exact hP, hD⟩, hS.F ht⟩) hS.2.2 hdg hlocks
end ZR
/-- the walk of a method that reads, from its entry -/
theorem z_ofRo {l : Launch} {y : MethodName} {ws ws' : List Cond} {rm : Room} {cc : ByteArray} {maxL : Nat} {ret : Option FieldType} {D : va_G} {cI cZ cC : ClassId} {wc : va_W} {av : List Value} {v : Int} (own : String) (hy : plainName y.cls = true) (hw : ws = Cond.code y cc maxL ret :: ws') (ho : y.cls = own) (hlen : (lg_sl av).length ≤ maxL)
    (body : ∀ (p : Program) (e : Env) (s : State) (m : MethodId) (args : Array Value) (below : List Frame) (meth : Method) (c : Code) (ls : Array Slot), p.tables.exec = Jvm.exec → c.code = cc → meth.sig.returnType = ret → meth.locks = false → c.maxLocals = maxL → s.vm.findClass own = some m.cls → (∀ w ∈ ws, w.before args s = true) → va_P D vwCl wc s.heap → zK D cI cZ cC s → lv_has ls maxL (lv_args 0 av) → W p l e (headSpec ws rm).room s m args below meth c s.heap [] 0 0 (MQ below (vp_Si (fun r => r = iI v)) args s 0 0 (fun _ => False)) (F0 m 0 ls [])) : zRo l y ws rm D cI cZ cC wc av v := by
  refine Met.ofW (cc := cc) (maxL := maxL) (ret := ret) hy hw ?_
  intro p e s m args below meth c s₁ B hml hv
  obtain ⟨rfl, hP, hK⟩ := hv
  rw [lg_entry_eq]
  exact body p e s m _ below meth c _ B.exec B.bytes B.returns B.notSynchronized hml (by rw [← ho]; exact findClass_of_methodNamed B.named) (atoms_spec (ws := ws) B.pre) hP hK (lv_entry av hlen)
theorem z_ofMi {S0 : Type} {l : Launch} {y : MethodName} {ws ws' : List Cond} {rm : Room} {cc : ByteArray} {maxL : Nat} {ret : Option FieldType} {D : va_G} {cI cZ cC : ClassId} {wc : va_W} {sz : Nat} {av : List Value} {mc ms : Nat} {w1 : S0 → va_W} {q : Int → S0 → Prop} (own : String) (hy : plainName y.cls = true) (hw : ws = Cond.code y cc maxL ret :: ws') (ho : y.cls = own) (hlen : (lg_sl av).length ≤ maxL)
    (body : ∀ (p : Program) (e : Env) (s : State) (m : MethodId) (args : Array Value) (below : List Frame) (meth : Method) (c : Code) (ls : Array Slot) (A : Nat → Prop), p.tables.exec = Jvm.exec → c.code = cc → meth.sig.returnType = ret → meth.locks = false → c.maxLocals = maxL → s.vm.findClass own = some m.cls → (∀ w ∈ ws, w.before args s = true) → va_P D vwCl wc s.heap → va_D A wc → va_S A s.heap s.heap [] → (∀ q : Nat, s.heap.size ≤ q → A q) → zK D cI cZ cC s → lv_has ls maxL (lv_args 0 av) → W p l e (headSpec ws rm).room s m args below meth c s.heap [] 0 0 (MQ below (va_Qi (fun r u => ∃ v : Int, r = iI v ∧ q v u) (fun (u : S0) t => va_P D vwCl (w1 u) t.heap ∧ va_D A (w1 u)) A) args s mc ms A) (F0 m 0 ls [])) : zMi l y ws rm D cI cZ cC wc sz av mc ms w1 q := by
  refine Met.ofW (cc := cc) (maxL := maxL) (ret := ret) hy hw ?_
  intro p e s m args below meth c s₁ B hml hv
  obtain ⟨rfl, hsz, hP, hK, hD0⟩ := hv
  subst hsz
  rw [lg_entry_eq]
  exact body p e s m _ below meth c _ _ B.exec B.bytes B.returns B.notSynchronized hml (by rw [← ho]; exact findClass_of_methodNamed B.named) (atoms_spec (ws := ws) B.pre) hP hD0.self va_S.rf (fun q h => Or.inr h) hK (lv_entry av hlen)
theorem z_ofMv {S0 : Type} {l : Launch} {y : MethodName} {ws ws' : List Cond} {rm : Room} {cc : ByteArray} {maxL : Nat} {ret : Option FieldType} {D : va_G} {cI cZ cC : ClassId} {wc : va_W} {sz : Nat} {av : List Value} {mc ms : Nat} {w1 : S0 → va_W} {q : S0 → Prop} (own : String) (hy : plainName y.cls = true) (hw : ws = Cond.code y cc maxL ret :: ws') (ho : y.cls = own) (hlen : (lg_sl av).length ≤ maxL)
    (body : ∀ (p : Program) (e : Env) (s : State) (m : MethodId) (args : Array Value) (below : List Frame) (meth : Method) (c : Code) (ls : Array Slot) (A : Nat → Prop), p.tables.exec = Jvm.exec → c.code = cc → meth.sig.returnType = ret → meth.locks = false → meth.name = y.name → c.maxLocals = maxL → s.vm.findClass own = some m.cls → (∀ w ∈ ws, w.before args s = true) → va_P D vwCl wc s.heap → va_D A wc → va_S A s.heap s.heap [] → (∀ q : Nat, s.heap.size ≤ q → A q) → zK D cI cZ cC s → lv_has ls maxL (lv_args 0 av) → W p l e (headSpec ws rm).room s m args below meth c s.heap [] 0 0 (MQ below (va_Qv q (fun (u : S0) t => va_P D vwCl (w1 u) t.heap ∧ va_D A (w1 u)) A) args s mc ms A) (F0 m 0 ls [])) : zMv l y ws rm D cI cZ cC wc sz av mc ms w1 q := by
  refine Met.ofW (cc := cc) (maxL := maxL) (ret := ret) hy hw ?_
  intro p e s m args below meth c s₁ B hml hv
  obtain ⟨rfl, hsz, hP, hK, hD0⟩ := hv
  subst hsz
  rw [lg_entry_eq]
  exact body p e s m _ below meth c _ _ B.exec B.bytes B.returns B.notSynchronized (name_of_methodNamed B.named B.method).1 hml (by rw [← ho]; exact findClass_of_methodNamed B.named) (atoms_spec (ws := ws) B.pre) hP hD0.self va_S.rf (fun q h => Or.inr h) hK (lv_entry av hlen)
theorem nI_or {a b A : Nat} (k : Nat) (ha : a = 2 ^ k * A) (hb : b < 2 ^ k) (h : a + b < 2 ^ 31) : nI a ||| nI b = nI (a + b) := by
  apply Int32.toBitVec_inj.mp
  apply BitVec.eq_of_toNat_eq
  rw [Int32.toBitVec_or, BitVec.toNat_or, pk_tn (by omega), pk_tn (by omega), pk_tn (by omega), ha, Nat.two_pow_add_eq_or_of_lt hb]
section ZB
variable {p : Program} {l : Launch} {e : Env} {R : Room} {s : State} {m : MethodId} {args : Array Value} {below : List Frame} {meth : Method} {c : Code} {H : Heap} {locs : List Loc} {cells slots : Nat} {Q : State → Prop}
variable {cc : ByteArray} {pc : Nat} {ls : Array Slot} {rest : List Value}
theorem z_ishl (hx : p.tables.exec = Jvm.exec) (hb : c.code = cc) {x y : Int} (k : Nat) (M : Int) (hdg : decode cc pc = .ok (.ishl, 1)) (hs : (((iI y &&& 31).toBitVec).smod 32).toNat = k) (hM : ((2 ^ k : Nat) : Int) = M) (h : 0 ≤ x ∧ x * M < 2147483648) (kk : W p l e R s m args below meth c H locs cells slots Q (F0 m (pc + 1) ls (.int (iI (x * M)) :: rest))) : W p l e R s m args below meth c H locs cells slots Q (F0 m pc ls (.int (iI y) :: .int (iI x) :: rest)) := lv_ishl hx hb hdg (by
  subst hM
  have hz : x = ((x.toNat : Nat) : Int) := by omega
  have h3 : x.toNat * 2 ^ k < 2147483648 := by
    have h4 : ((x.toNat * 2 ^ k : Nat) : Int) < 2147483648 := by
      rw [Int.natCast_mul, ← hz]
      exact h.2
    generalize x.toNat * 2 ^ k = z at h4 ⊢
    omega
  have h2 : iI x <<< (iI y &&& 31) = iI (x * ((2 ^ k : Nat) : Int)) := by
    rw [iI_nat h.1, pk_shlN _ k hs (by omega), ← iI_nI, Int.natCast_mul, ← hz]
  rw [h2]
  exact kk)
theorem z_ishr (hx : p.tables.exec = Jvm.exec) (hb : c.code = cc) {x y : Int} (k : Nat) (M : Int) (hdg : decode cc pc = .ok (.ishr, 1)) (hs : (((iI y &&& 31).toBitVec).smod 32).toNat = k) (hM : ((2 ^ k : Nat) : Int) = M) (h : 0 ≤ x ∧ x < 2147483648) (kk : W p l e R s m args below meth c H locs cells slots Q (F0 m (pc + 1) ls (.int (iI (x / M)) :: rest))) : W p l e R s m args below meth c H locs cells slots Q (F0 m pc ls (.int (iI y) :: .int (iI x) :: rest)) := lv_ishr hx hb hdg (by
  subst hM
  have hz : x = ((x.toNat : Nat) : Int) := by omega
  have h2 : iI x >>> (iI y &&& 31) = iI (x / ((2 ^ k : Nat) : Int)) := by
    rw [iI_nat h.1, pk_shrN (by omega) _ k hs, ← iI_nI, Int.natCast_ediv, ← hz]
  rw [h2]
  exact kk)
theorem z_iand (hx : p.tables.exec = Jvm.exec) (hb : c.code = cc) {x y : Int} (k : Nat) (M : Int) (hdg : decode cc pc = .ok (.iand, 1)) (hs : (iI y).toBitVec.toNat = 2 ^ k - 1) (hM : ((2 ^ k : Nat) : Int) = M) (h : 0 ≤ x ∧ x < 2147483648) (kk : W p l e R s m args below meth c H locs cells slots Q (F0 m (pc + 1) ls (.int (iI (x % M)) :: rest))) : W p l e R s m args below meth c H locs cells slots Q (F0 m pc ls (.int (iI y) :: .int (iI x) :: rest)) := lv_iand hx hb hdg (by
  subst hM
  have hz : x = ((x.toNat : Nat) : Int) := by omega
  have h2 : iI x &&& iI y = iI (x % ((2 ^ k : Nat) : Int)) := by
    rw [iI_nat h.1, pk_andN (by omega) k hs, ← iI_nI, Int.natCast_emod, ← hz]
  rw [h2]
  exact kk)
theorem z_ior (hx : p.tables.exec = Jvm.exec) (hb : c.code = cc) {x y z : Int} (k : Nat) (M : Int) (hdg : decode cc pc = .ok (.ior, 1)) (hM : ((2 ^ k : Nat) : Int) = M) (hz : 0 ≤ z ∧ x = z * M) (hy : 0 ≤ y ∧ y < M) (h : x + y < 2147483648) (hx0 : 0 ≤ x) (kk : W p l e R s m args below meth c H locs cells slots Q (F0 m (pc + 1) ls (.int (iI (x + y)) :: rest))) : W p l e R s m args below meth c H locs cells slots Q (F0 m pc ls (.int (iI y) :: .int (iI x) :: rest)) := lv_ior hx hb hdg (by
  subst hM
  have h2 : iI x ||| iI y = iI (x + y) := by
    rw [iI_nat hx0, iI_nat hy.1, nI_or (A := z.toNat) k ?_ (by omega) (by omega), ← iI_nI]
    · congr 1
      omega
    · have h5 : ((x.toNat : Nat) : Int) = ((2 ^ k * z.toNat : Nat) : Int) := by
        rw [Int.natCast_mul, Int.toNat_of_nonneg hx0, Int.toNat_of_nonneg hz.1, hz.2, Int.mul_comm]
      exact_mod_cast h5
  rw [h2]
  exact kk)
end ZB
