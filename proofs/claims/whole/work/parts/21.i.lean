/-! methods that write their world and read the constants -/
def zPwE (D : va_G) (cI cZ cC : ClassId) (wc : va_W) (sz b0 : Nat) (adK adV : Nat → Nat) (U : State) : Prop := zPw D cI cZ cC wc sz U ∧ zE b0 adK adV U U.heap ∧ va_D (fun q => b0 ≤ q) wc ∧ b0 ≤ sz
theorem zPwE_blind {D : va_G} {cI cZ cC : ClassId} {wc : va_W} {sz b0 : Nat} {adK adV : Nat → Nat} {av : List Value} : FrameBlind (va_Pc av (zPwE D cI cZ cC wc sz b0 adK adV)) := fun a U g mk q => ⟨q.1, (zPw_blind a U g mk ⟨q.1, q.2.1⟩).2, zE.go (u := U) (U := U.calling g mk a) (Vm.Alike.refl U.vm) (zR.same (u := U) rfl q.2.2.1.2.2.2) (fun _ _ _ => rfl) q.2.2.1, q.2.2.2⟩
def zMiE {S : Type} (l : Launch) (y : MethodName) (ws : List Cond) (rm : Room) (D : va_G) (cI cZ cC : ClassId) (b0 : Nat) (adK adV : Nat → Nat) (wc : va_W) (sz : Nat) (av : List Value) (mc ms : Nat) (w1 : S → va_W) (q : Int → S → Prop) : Prop := Met l y ws rm (va_Pc av (zPwE D cI cZ cC wc sz b0 adK adV)) (va_Qi (fun r u => ∃ v : Int, r = iI v ∧ q v u) (fun (u : S) t => va_P D vwCl (w1 u) t.heap ∧ va_D (va_A wc sz) (w1 u)) (va_A wc sz)) mc ms (va_A wc sz)
theorem z_ofMiE {S0 : Type} {l : Launch} {y : MethodName} {ws ws' : List Cond} {rm : Room} {cc : ByteArray} {maxL : Nat} {ret : Option FieldType} {D : va_G} {cI cZ cC : ClassId} {b0 : Nat} {adK adV : Nat → Nat} {wc : va_W} {sz : Nat} {av : List Value} {mc ms : Nat} {w1 : S0 → va_W} {q : Int → S0 → Prop} (own : String) (hy : plainName y.cls = true) (hw : ws = Cond.code y cc maxL ret :: ws') (ho : y.cls = own) (hlen : (lg_sl av).length ≤ maxL)
    (body : ∀ (p : Program) (e : Env) (s : State) (m : MethodId) (args : Array Value) (below : List Frame) (meth : Method) (c : Code) (ls : Array Slot) (A : Nat → Prop), p.tables.exec = Jvm.exec → c.code = cc → meth.sig.returnType = ret → meth.locks = false → c.maxLocals = maxL → s.vm.findClass own = some m.cls → (∀ w ∈ ws, w.before args s = true) → zE b0 adK adV s s.heap → (∀ q, A q → b0 ≤ q) → b0 ≤ s.heap.size → va_P D vwCl wc s.heap → va_D A wc → va_S A s.heap s.heap [] → (∀ q : Nat, s.heap.size ≤ q → A q) → zK D cI cZ cC s → lv_has ls maxL (lv_args 0 av) → W p l e (headSpec ws rm).room s m args below meth c s.heap [] 0 0 (MQ below (va_Qi (fun r u => ∃ v : Int, r = iI v ∧ q v u) (fun (u : S0) t => va_P D vwCl (w1 u) t.heap ∧ va_D A (w1 u)) A) args s mc ms A) (F0 m 0 ls [])) : zMiE l y ws rm D cI cZ cC b0 adK adV wc sz av mc ms w1 q := by
  refine Met.ofW (cc := cc) (maxL := maxL) (ret := ret) hy hw ?_
  intro p e s m args below meth c s₁ B hml hv
  obtain ⟨rfl, ⟨hsz, hP, hK, hD0⟩, hE, hDb, hbs⟩ := hv
  subst hsz
  rw [lg_entry_eq]
  exact body p e s m _ below meth c _ _ B.exec B.bytes B.returns B.notSynchronized hml (by rw [← ho]; exact findClass_of_methodNamed B.named) (atoms_spec (ws := ws) B.pre) hE (fun q h => by
    rcases h with ⟨k, e, h⟩ | h
    · exact hDb.2 k (q, e) h
    · exact Nat.le_trans hbs h) hbs hP hD0.self va_S.rf (fun q h => Or.inr h) hK (lv_entry av hlen)
section ZCE
variable {p : Program} {l : Launch} {e : Env} {R : Room} {s : State} {m : MethodId} {args : Array Value} {below : List Frame} {meth : Method} {c : Code} {H : Heap} {locs : List Loc} {cells slots : Nat} {Q : State → Prop}
variable {cc bytes : ByteArray} {pc nL maxL n index : Nat} {ls : Array Slot} {rest As st0 : List Value} {D : va_G} {cI cZ cC : ClassId} {ret : Option FieldType} {own C host : String} {Ts wsY : List Cond} {y : MethodName} {rm : Room} {ws wc : va_W} {b b0 : Nat} {adK adV : Nat → Nat}
theorem z_muVE {S0 : Type} {A : Nat → Prop} {mc ms : Nat} {w1 ws2 : S0 → va_W} {q : Int → S0 → Prop} {wr : va_W} (hE : zE b0 adK adV s s.heap) (hAb : ∀ q, A q → b0 ≤ q) (hbs : b0 ≤ s.heap.size) (S : CallFix p m c cc nL s args Ts own) (hM : zMiE l y wsY rm D cI cZ cC b0 adK adV wc H.size (.ref b :: As) mc ms w1 q) (cw : CallW R s args own C index y bytes maxL ret wsY rm mc ms n) (hP : va_P D vwCl ws H) (hD : va_D A ws) (hS : va_S A s.heap H locs) (hA : ∀ q, s.heap.size ≤ q → A q) (hK : zK D cI cZ cC s)
    (ic ir ip : List Nat) (hC : ic.map (fun i => ws[i]?) = wc.map some) (hcn : va_nd ic = true) (hR : ir.map (fun i => ws[i]?) = wr.map some) (hrn : va_nd ir = true) (hdis : ∀ i ∈ ir, i ∉ ic) (hpn : va_nd ip = true) (hp : ∀ u, ip.map (fun i => (wr ++ w1 u)[i]?) = (ws2 u).map some)
    (q0 ci : Nat) {fs : List Value} {q9 : vw_C} (hc : vwCl[ci]? = some q9) (he : ws[q0]? = some (b, .inr (ci, fs))) (hq : q9.1 = C)
    (hn : As.length = n) (hsize : ls.size = nL) (hstack : st0 = As.reverse ++ .ref b :: rest) (hW : (rest.map fun v => v.category).sum ≤ 8) (hdg : decode cc pc = .ok (.invokevirtual index, 3)) (hf : cells + mc ≤ R.cells ∧ slots + ms ≤ R.slots)
    (kk : ∀ (v : Int) (u : S0) (H1 : Heap) (locs1 : List Loc), q v u → va_P D vwCl (ws2 u) H1 → va_D A (ws2 u) → va_S A s.heap H1 locs1 → W p l e R s m args below meth c H1 locs1 (cells + mc) (slots + ms) Q (F0 m (pc + 3) ls (.int (iI v) :: rest))) : W p l e R s m args below meth c H locs cells slots Q (F0 m pc ls st0) := by
  have hF := va_free hD hS hA ic hC
  refine va_calli (va_runV S hM cw ⟨zPwE_blind, by rw [← hq]; exact va_recv hK.1 hP hc he, fun U hU hW2 => ⟨rfl, z_preW hP hD hK ic hcn hC U hU hW2, hE.warm hW2 hU (va_S.wide hS hAb), (hD.sub ic hcn hC).weaken (fun _ _ _ h => hAb _ h), Nat.le_trans hbs hS.1⟩⟩ rfl hn hsize hstack (lv_room hW) hdg hf) hS (fun q _ h => hF q h) hF (fun r u t H1 locs1 ht hvm hw hB hz hk hS1 => ?_)
  obtain ⟨v, rfl, hqv⟩ := hw
  obtain ⟨hP1, hD1⟩ := hB
  rw [ht] at hP1
  obtain ⟨g1, g2⟩ := z_back hP hD ic ir ip hC hR hrn hdis hpn (hp u) hk hF hP1 hD1
  exact kk v u H1 locs1 hqv g1 g2 hS1
end ZCE
def zJs (l : Launch) (y : MethodName) (ws : List Cond) (rm : Room) (b0 : Nat) (adK adV : Nat → Nat) (av : List Value) (i : Nat) : Prop := Met l y ws rm (va_Pc av (fun U => zE b0 adK adV U U.heap)) (va_Sr (fun k => k = i) (fun k => .ref (adK k))) 0 0 (fun _ => False)
theorem z_ofJs {l : Launch} {y : MethodName} {ws ws' : List Cond} {rm : Room} {cc : ByteArray} {maxL : Nat} {ret : Option FieldType} {b0 : Nat} {adK adV : Nat → Nat} {av : List Value} {i : Nat} (own : String) (hy : plainName y.cls = true) (hw : ws = Cond.code y cc maxL ret :: ws') (ho : y.cls = own) (hlen : (lg_sl av).length ≤ maxL)
    (body : ∀ (p : Program) (e : Env) (s : State) (m : MethodId) (args : Array Value) (below : List Frame) (meth : Method) (c : Code) (ls : Array Slot), p.tables.exec = Jvm.exec → c.code = cc → meth.sig.returnType = ret → meth.locks = false → c.maxLocals = maxL → s.vm.findClass own = some m.cls → (∀ w ∈ ws, w.before args s = true) → zE b0 adK adV s s.heap → va_S (fun q => b0 ≤ q) s.heap s.heap [] → lv_has ls maxL (lv_args 0 av) → W p l e (headSpec ws rm).room s m args below meth c s.heap [] 0 0 (MQ below (va_Sr (fun k => k = i) (fun k => .ref (adK k))) args s 0 0 (fun _ => False)) (F0 m 0 ls [])) : zJs l y ws rm b0 adK adV av i := by
  refine Met.ofW (cc := cc) (maxL := maxL) (ret := ret) hy hw ?_
  intro p e s m args below meth c s₁ B hml hv
  obtain ⟨rfl, hE⟩ := hv
  rw [lg_entry_eq]
  exact body p e s m _ below meth c _ B.exec B.bytes B.returns B.notSynchronized hml (by rw [← ho]; exact findClass_of_methodNamed B.named) (atoms_spec (ws := ws) B.pre) hE va_S.rf (lv_entry av hlen)
section ZJS
variable {p : Program} {l : Launch} {e : Env} {R : Room} {s : State} {m : MethodId} {args : Array Value} {below : List Frame} {meth : Method} {c : Code} {H : Heap} {locs : List Loc} {cells slots : Nat} {Q : State → Prop}
variable {cc bytes : ByteArray} {pc nL maxL n index : Nat} {ls : Array Slot} {rest As st0 : List Value} {ret : Option FieldType} {own : String} {Ts wsY : List Cond} {y : MethodName} {rm : Room} {b0 : Nat} {adK adV : Nat → Nat}
theorem z_jsS {i : Nat} (S : CallFix p m c cc nL s args Ts own) (hM : zJs l y wsY rm b0 adK adV As i) (cw : CallB R s args own index y bytes maxL ret wsY rm 0 0 n ∧ (Cond.static y).before args s = true) (hE : zE b0 adK adV s s.heap) (hS : va_S (fun q => b0 ≤ q) s.heap H locs)
    (hn : As.length = n) (hsize : ls.size = nL) (hstack : st0 = As.reverse ++ rest) (hW : (rest.map fun v => v.category).sum ≤ 8) (hdg : decode cc pc = .ok (.invokestatic index, 3)) (hf : cells ≤ R.cells ∧ slots ≤ R.slots)
    (kk : W p l e R s m args below meth c H locs cells slots Q (F0 m (pc + 3) ls (.ref (adK i) :: rest))) : W p l e R s m args below meth c H locs cells slots Q (F0 m pc ls st0) := by
  refine va_csr (post := fun k => k = i) (ad := fun k => .ref (adK k)) (a := As.toArray) (fun T hT X => ?_) (fun k hk => by rw [hk]; exact kk)
  obtain ⟨v2, st₀, t, T', L, h0, X', hL, e1, -, hq, st⟩ := va_runS S hM cw ⟨zE.blind, fun U hU hW2 => ⟨rfl, hE.warm hW2 hU hS⟩⟩ (g := F0 m pc ls st0) rfl hn hsize hstack (lv_room hW) hdg hf T hT X
  exact ⟨v2, st₀, t, T', L, h0, X', hL, e1, hq, st⟩
end ZJS
