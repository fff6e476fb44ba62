/-! the String constants of the text reader, and the JDK's members over them -/
def txt6 : List (List Int) := [[105, 117, 100, 99, 114, 115, 98], [116, 44, 107, 44, 118, 44, 118], [116, 44, 107, 44, 99, 44, 118], [116, 44, 107], [112], []]
def tlen (i : Nat) : Nat := (txt6.getD i []).length
def chr (i : Nat) (j : Int) : Int := (txt6.getD i []).getD j.toNat 0
theorem tlen_b : ∀ i : Nat, i < 6 → tlen i < 8 := by decide
theorem chr_b {i : Nat} (hi : i < 6) (j : Int) : 0 ≤ chr i j ∧ chr i j < 128 := by
  have h0 : ∀ i : Nat, i < 6 → ∀ k : Nat, k < 8 → 0 ≤ (txt6.getD i []).getD k 0 ∧ (txt6.getD i []).getD k 0 < 128 := by decide
  unfold chr
  by_cases h : j.toNat < 8
  · exact h0 i hi _ h
  · have h1 := tlen_b i hi
    unfold tlen at h1
    have e : (txt6.getD i []).getD j.toNat 0 = 0 := by
      rw [List.getD_eq_getElem?_getD (l := txt6.getD i []), List.getElem?_eq_none (by omega)]
      rfl
    rw [e]
    omega
def zT (b0 : Nat) (adK adV : Nat → Nat) (i : Nat) (U : State) (H : Heap) : Prop := va_O "java/lang/String" (adK i) (fun q => b0 ≤ q) U H ∧ va_OF "java/lang/String" "coder" "B" (.int (iI 0)) (adK i) (fun q => b0 ≤ q) U H ∧ va_OF "java/lang/String" "value" "[B" (.ref (adV i)) (adK i) (fun q => b0 ≤ q) U H ∧ va_T .byte (adV i) (tlen i) (fun j => .int (iI (chr i (j : Int)))) (fun q => b0 ≤ q) U H
def zR (adK : Nat → Nat) (U : State) : Prop := vk_R RX6 47 "iudcrsb" (adK 0) U ∧ vk_R RX6 68 "t,k,v,v" (adK 1) U ∧ vk_R RX6 70 "t,k,c,v" (adK 2) U ∧ vk_R RX6 72 "t,k" (adK 3) U ∧ vk_R RX6 74 "p" (adK 4) U ∧ vk_R RX6 76 "" (adK 5) U
def zE (b0 : Nat) (adK adV : Nat → Nat) (U : State) (H : Heap) : Prop := va_Z "java/lang/String" "COMPACT_STRINGS" "Z" (.int (iI 1)) (fun q => b0 ≤ q) U H ∧ va_Zq "jdk/internal/util/Preconditions" "SIOOBE_FORMATTER" "Ljava/util/function/BiFunction;" (fun q => b0 ≤ q) U H ∧ (∀ i : Nat, i < 6 → zT b0 adK adV i U H) ∧ zR adK U
theorem zE.go {b0 : Nat} {adK adV : Nat → Nat} {u U : State} {H H1 : Heap} (hvm : u.vm.Alike U.vm) (hR : zR adK U) (hq : ∀ a : Nat, a < H.size → ¬ b0 ≤ a → H1[a]? = H[a]?) (h : zE b0 adK adV u H) : zE b0 adK adV U H1 :=
  ⟨(va_Z.moved hvm h.1).kept hq, (va_Zq.moved hvm h.2.1).kept hq, fun i hi => ⟨(va_O.moved hvm (h.2.2.1 i hi).1).kept hq, (va_OF.moved hvm (h.2.2.1 i hi).2.1).kept hq, (va_OF.moved hvm (h.2.2.1 i hi).2.2.1).kept hq, (va_T.moved hvm (h.2.2.1 i hi).2.2.2).kept hq⟩, hR⟩
theorem zR.warm {adK : Nat → Nat} {s U : State} (hW : s.WarmedH U.vm) (h : zR adK s) : zR adK U := ⟨h.1.warm hW, h.2.1.warm hW, h.2.2.1.warm hW, h.2.2.2.1.warm hW, h.2.2.2.2.1.warm hW, h.2.2.2.2.2.warm hW⟩
theorem zR.same {adK : Nat → Nat} {u U : State} (hv : U.vm = u.vm) (h : zR adK u) : zR adK U := ⟨h.1.same hv, h.2.1.same hv, h.2.2.1.same hv, h.2.2.2.1.same hv, h.2.2.2.2.1.same hv, h.2.2.2.2.2.same hv⟩
theorem zE.warm {b0 : Nat} {adK adV : Nat → Nat} {s U : State} {H : Heap} {locs : List Loc} (hW : s.WarmedH U.vm) (hU : U.heap = H) (hS : va_S (fun q => b0 ≤ q) s.heap H locs) (h : zE b0 adK adV s s.heap) : zE b0 adK adV U U.heap := zE.go hW.alike (h.2.2.2.warm hW) (fun a h1 h2 => by rw [hU]; exact hS.2.1 a h1 h2) h
theorem zE.blind {b0 : Nat} {adK adV : Nat → Nat} {av : List Value} : FrameBlind (va_Pc av (fun U => zE b0 adK adV U U.heap)) := fun a U g mk q => ⟨q.1, zE.go (u := U) (U := U.calling g mk a) (Vm.Alike.refl U.vm) (zR.same (u := U) rfl q.2.2.2.2) (fun _ _ _ => rfl) q.2⟩
theorem va_S.wide {A B : Nat → Prop} {H0 H : Heap} {locs : List Loc} (h : va_S A H0 H locs) (g : ∀ q, A q → B q) : va_S B H0 H locs := ⟨h.1, fun q a b => h.2.1 q a (fun z => b (g q z)), fun l hl => g _ (h.2.2 l hl)⟩
def zJr (l : Launch) (y : MethodName) (ws : List Cond) (rm : Room) (b0 : Nat) (adK adV : Nat → Nat) (av : List Value) (v : Int) : Prop := Met l y ws rm (va_Pc av (fun U => zE b0 adK adV U U.heap)) (vp_Si (fun r => r = iI v)) 0 0 (fun _ => False)
def zJv (l : Launch) (y : MethodName) (ws : List Cond) (rm : Room) (b0 : Nat) (adK adV : Nat → Nat) (av : List Value) : Prop := Met l y ws rm (va_Pc av (fun U => zE b0 adK adV U U.heap)) (va_Sv (fun _ => True)) 0 0 (fun _ => False)
section ZJ
variable {p : Program} {l : Launch} {e : Env} {R : Room} {s : State} {m : MethodId} {args : Array Value} {below : List Frame} {meth : Method} {c : Code} {H : Heap} {locs : List Loc} {cells slots : Nat} {Q : State → Prop}
variable {cc bytes : ByteArray} {pc nL maxL n index : Nat} {ls : Array Slot} {rest As st0 : List Value} {ret : Option FieldType} {own : String} {Ts wsY : List Cond} {y : MethodName} {rm : Room} {b0 : Nat} {adK adV : Nat → Nat}
theorem z_jrV {v : Int} {i : Nat} (S : CallFix p m c cc nL s args Ts own) (hM : zJr l y wsY rm b0 adK adV (.ref (adK i) :: As) v) (cw : CallW R s args own "java/lang/String" index y bytes maxL ret wsY rm 0 0 n) (hE : zE b0 adK adV s s.heap) (hS : va_S (fun q => b0 ≤ q) s.heap H locs) (hi : i < 6)
    (hn : As.length = n) (hsize : ls.size = nL) (hstack : st0 = As.reverse ++ .ref (adK i) :: rest) (hW : (rest.map fun v => v.category).sum ≤ 8) (hdg : decode cc pc = .ok (.invokevirtual index, 3)) (hf : cells ≤ R.cells ∧ slots ≤ R.slots)
    (kk : W p l e R s m args below meth c H locs cells slots Q (F0 m (pc + 3) ls (.int (iI v) :: rest))) : W p l e R s m args below meth c H locs cells slots Q (F0 m pc ls st0) :=
  z_run (va_runV S hM cw ⟨zE.blind, by
    obtain ⟨cell, h1, h2, h3, -⟩ := (hE.2.2.1 i hi).1.kept hS.2.1
    exact ⟨cell, h1, h2, h3⟩, fun U hU hW2 => ⟨rfl, hE.warm hW2 hU hS⟩⟩ rfl hn hsize hstack (lv_room hW) hdg hf) kk
theorem z_jrS {v : Int} (S : CallFix p m c cc nL s args Ts own) (hM : zJr l y wsY rm b0 adK adV As v) (cw : CallB R s args own index y bytes maxL ret wsY rm 0 0 n ∧ (Cond.static y).before args s = true) (hE : zE b0 adK adV s s.heap) (hS : va_S (fun q => b0 ≤ q) s.heap H locs)
    (hn : As.length = n) (hsize : ls.size = nL) (hstack : st0 = As.reverse ++ rest) (hW : (rest.map fun v => v.category).sum ≤ 8) (hdg : decode cc pc = .ok (.invokestatic index, 3)) (hf : cells ≤ R.cells ∧ slots ≤ R.slots)
    (kk : W p l e R s m args below meth c H locs cells slots Q (F0 m (pc + 3) ls (.int (iI v) :: rest))) : W p l e R s m args below meth c H locs cells slots Q (F0 m pc ls st0) :=
  z_run (va_runS S hM cw ⟨zE.blind, fun U hU hW2 => ⟨rfl, hE.warm hW2 hU hS⟩⟩ rfl hn hsize hstack (lv_room hW) hdg hf) kk
theorem z_jvS (S : CallFix p m c cc nL s args Ts own) (hM : zJv l y wsY rm b0 adK adV As) (cw : CallB R s args own index y bytes maxL ret wsY rm 0 0 n ∧ (Cond.static y).before args s = true) (hE : zE b0 adK adV s s.heap) (hS : va_S (fun q => b0 ≤ q) s.heap H locs)
    (hn : As.length = n) (hsize : ls.size = nL) (hstack : st0 = As.reverse ++ rest) (hW : (rest.map fun v => v.category).sum ≤ 8) (hdg : decode cc pc = .ok (.invokestatic index, 3)) (hf : cells ≤ R.cells ∧ slots ≤ R.slots)
    (kk : W p l e R s m args below meth c H locs cells slots Q (F0 m (pc + 3) ls rest)) : W p l e R s m args below meth c H locs cells slots Q (F0 m pc ls st0) := by
  refine va_csv (post := fun _ => True) (a := As.toArray) (fun T hT X => ?_) (fun _ => kk)
  obtain ⟨v2, st₀, t, T', L, h0, X', hL, e1, -, hq, st⟩ := va_runS S hM cw ⟨zE.blind, fun U hU hW2 => ⟨rfl, hE.warm hW2 hU hS⟩⟩ (g := F0 m pc ls st0) rfl hn hsize hstack (lv_room hW) hdg hf T hT X
  exact ⟨v2, st₀, t, T', L, h0, X', hL, e1, hq, st⟩
theorem z_jret {v x : Int} {ty : FieldType} (hx : p.tables.exec = Jvm.exec) (hb : c.code = cc) (hr : meth.sig.returnType = some ty) (hlocks : meth.locks = false) (hdg : decode cc pc = .ok (.ireturn, 1)) (hn : narrow ty (.int (iI x)) = .int (iI x)) (h : x = v) : W p l e R s m args below meth c s.heap [] 0 0 (MQ below (vp_Si (fun r => r = iI v)) args s 0 0 (fun _ => False)) (F0 m pc ls [.int (iI x)]) := by
  subst h
  exact W.zret hx hb hr hn (fun t ht hW => ⟨_, rfl, rfl, ht⟩) (fun q h => by cases h) hdg hlocks
end ZJ
theorem z_ofJr {l : Launch} {y : MethodName} {ws ws' : List Cond} {rm : Room} {cc : ByteArray} {maxL : Nat} {ret : Option FieldType} {b0 : Nat} {adK adV : Nat → Nat} {av : List Value} {v : Int} (own : String) (hy : plainName y.cls = true) (hw : ws = Cond.code y cc maxL ret :: ws') (ho : y.cls = own) (hlen : (lg_sl av).length ≤ maxL)
    (body : ∀ (p : Program) (e : Env) (s : State) (m : MethodId) (args : Array Value) (below : List Frame) (meth : Method) (c : Code) (ls : Array Slot), p.tables.exec = Jvm.exec → c.code = cc → meth.sig.returnType = ret → meth.locks = false → c.maxLocals = maxL → s.vm.findClass own = some m.cls → (∀ w ∈ ws, w.before args s = true) → zE b0 adK adV s s.heap → va_S (fun q => b0 ≤ q) s.heap s.heap [] → lv_has ls maxL (lv_args 0 av) → W p l e (headSpec ws rm).room s m args below meth c s.heap [] 0 0 (MQ below (vp_Si (fun r => r = iI v)) args s 0 0 (fun _ => False)) (F0 m 0 ls [])) : zJr l y ws rm b0 adK adV av v := by
  refine Met.ofW (cc := cc) (maxL := maxL) (ret := ret) hy hw ?_
  intro p e s m args below meth c s₁ B hml hv
  obtain ⟨rfl, hE⟩ := hv
  rw [lg_entry_eq]
  exact body p e s m _ below meth c _ B.exec B.bytes B.returns B.notSynchronized hml (by rw [← ho]; exact findClass_of_methodNamed B.named) (atoms_spec (ws := ws) B.pre) hE va_S.rf (lv_entry av hlen)
theorem z_ofJv {l : Launch} {y : MethodName} {ws ws' : List Cond} {rm : Room} {cc : ByteArray} {maxL : Nat} {ret : Option FieldType} {b0 : Nat} {adK adV : Nat → Nat} {av : List Value} (own : String) (hy : plainName y.cls = true) (hw : ws = Cond.code y cc maxL ret :: ws') (ho : y.cls = own) (hlen : (lg_sl av).length ≤ maxL)
    (body : ∀ (p : Program) (e : Env) (s : State) (m : MethodId) (args : Array Value) (below : List Frame) (meth : Method) (c : Code) (ls : Array Slot), p.tables.exec = Jvm.exec → c.code = cc → meth.sig.returnType = ret → meth.locks = false → c.maxLocals = maxL → s.vm.findClass own = some m.cls → (∀ w ∈ ws, w.before args s = true) → zE b0 adK adV s s.heap → va_S (fun q => b0 ≤ q) s.heap s.heap [] → lv_has ls maxL (lv_args 0 av) → W p l e (headSpec ws rm).room s m args below meth c s.heap [] 0 0 (MQ below (va_Sv (fun _ => True)) args s 0 0 (fun _ => False)) (F0 m 0 ls [])) : zJv l y ws rm b0 adK adV av := by
  refine Met.ofW (cc := cc) (maxL := maxL) (ret := ret) hy hw ?_
  intro p e s m args below meth c s₁ B hml hv
  obtain ⟨rfl, hE⟩ := hv
  rw [lg_entry_eq]
  exact body p e s m _ below meth c _ B.exec B.bytes B.returns B.notSynchronized hml (by rw [← ho]; exact findClass_of_methodNamed B.named) (atoms_spec (ws := ws) B.pre) hE va_S.rf (lv_entry av hlen)
theorem narB {x : Int} (h : 0 ≤ x ∧ x < 128) : narrow .byte (.int (iI x)) = .int (iI x) := by
  have h1 : ∀ n : Nat, n < 128 → narrow .byte (.int (nI n)) = .int (nI n) := by decide +kernel
  rw [iI_nat h.1]
  exact h1 _ (by omega)
theorem i2bI {x : Int} (h : 0 ≤ x ∧ x < 128) : (iI x).toInt8.toInt32 = iI x := by
  have h1 : ∀ n : Nat, n < 128 → (nI n).toInt8.toInt32 = nI n := by decide +kernel
  rw [iI_nat h.1]
  exact h1 _ (by omega)
theorem i2bN {x : Int} (h : 0 ≤ x ∧ x < 256) : ¬ x < 128 → (iI x).toInt8.toInt32 = iI (x - 256) := by
  have h1 : ∀ n : Nat, n < 256 → ¬ n < 128 → (nI n).toInt8.toInt32 = iI ((n : Int) - 256) := by decide +kernel
  intro h2
  rw [iI_nat h.1, h1 _ (by omega) (by omega)]
  congr 1
  omega
