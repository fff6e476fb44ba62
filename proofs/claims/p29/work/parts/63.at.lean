/-- an int of the script -/
def sc (xs : Nat → Int32) (k : Nat) : Int := (xs k).toInt
theorem sc_b (xs : Nat → Int32) (k : Nat) : -2147483648 ≤ sc xs k ∧ sc xs k < 2147483648 := ib_self _
section ZLW
variable {p : Program} {l : Launch} {e : Env} {R : Room} {s : State} {m : MethodId} {args : Array Value} {below : List Frame} {meth : Method} {c : Code} {H H0 : Heap} {locs : List Loc} {cells slots : Nat} {Q : State → Prop}
variable {cc : ByteArray} {pc : Nat} {ls : Array Slot} {rest : List Value} {A : Nat → Prop}
theorem z_sld (hx : p.tables.exec = Jvm.exec) (hb : c.code = cc) {b L : Nat} {xs : Nat → Int32} (hX : va_X b L xs s H0) (hbl : b < H0.size) (hbA : ¬ A b) (hS : va_S A H0 H locs) (k : Nat) {x : Int} (hk : x = (k : Int)) (hL : k < L) (hL2 : L ≤ 260) (hdg : decode cc pc = .ok (.iaload, 1))
    (kk : W p l e R s m args below meth c H locs cells slots Q (F0 m (pc + 1) ls (.int (iI (sc xs k)) :: rest))) : W p l e R s m args below meth c H locs cells slots Q (F0 m pc ls (.int (iI x) :: .ref b :: rest)) := by
  subst hk
  refine va_sld hx hb hX hbl hbA hS (iI_in ⟨by omega, by omega⟩ (by omega)) hdg ?_
  rw [iI_clamp ⟨by omega, by omega⟩, Int.toNat_natCast, ← iI_self (xs k)]
  exact kk
theorem z_slen (hx : p.tables.exec = Jvm.exec) (hb : c.code = cc) {b L : Nat} {xs : Nat → Int32} (hX : va_X b L xs s H0) (hbl : b < H0.size) (hbA : ¬ A b) (hS : va_S A H0 H locs) (hdg : decode cc pc = .ok (.arraylength, 1))
    (kk : W p l e R s m args below meth c H locs cells slots Q (F0 m (pc + 1) ls (.int (iI (L : Int)) :: rest))) : W p l e R s m args below meth c H locs cells slots Q (F0 m pc ls (.ref b :: rest)) := by
  refine va_slen hx hb hX hbl hbA hS hdg ?_
  rw [iI_nI] at kk
  exact kk
end ZLW
theorem at_blind {b L : Nat} {xs : Nat → Int32} {av : List Value} : FrameBlind (va_Pc av (fun U => va_X b L xs U U.heap ∧ b < U.heap.size)) := fun a U g mk q => ⟨q.1, va_X.moved (u := U) (U := U.calling g mk a) (Vm.Alike.refl U.vm) q.2.1, q.2.2⟩
theorem c_L_at (l : Launch) (b L : Nat) (xs : Nat → Int32) (k : Int) (hL2 : L ≤ 260) (hk : 0 ≤ k ∧ k < 200) : Met l yL_at wsL_at ({ frames := 0, cells := 0, slots := 0, locals := 0 }) (va_Pc [.ref b, .int (iI k)] (fun U => va_X b L xs U U.heap ∧ b < U.heap.size)) (vp_Si (fun _ => True)) 0 0 (fun _ => False) := by
  refine Met.ofW (cc := cL_at) (maxL := 2) (ret := some .int) (by decide +kernel) rfl ?_
  intro p e s m args below meth c s₁ B hml hv
  obtain ⟨rfl, hXs, hbl⟩ := hv
  rw [lg_entry_eq]
  have hx := B.exec
  have hb := B.bytes
  have hr := B.returns
  have hlocks := B.notSynchronized
  have hown : s.vm.findClass RL = some m.cls := findClass_of_methodNamed B.named
  have hts := atoms_spec (ws := wsL_at) B.pre
  have hl : lv_has _ 2 [(0, .ref b), (1, .int (iI k))] := lv_entry [.ref b, .int (iI k)] (Nat.le_of_ble_eq_true rfl)
  have hS : va_S (fun _ => False) s.heap s.heap [] := va_S.rf
  refine lv_iload_n hx hb dL_at_0 rfl (lv_at hl 1 rfl) ?_
  refine lv_aload_n hx hb dL_at_1 rfl (lv_at hl 0 rfl) ?_
  refine z_slen hx hb hXs hbl id hS dL_at_2 ?_
  refine z_icmp_ge (tgt := 12) hx hb dL_at_3 (by decide) ⟨⟨by omega, by omega⟩, ⟨by omega, by omega⟩⟩ (fun c_1 => ?_) (fun c_1 => ?_)
  · refine lv_ldc (v := iI 1066302828) hx hb hown (by rw [show iI (1066302828) = (1066302828 : Int32) from by decide]; exact hts (.constant RL 7 (1066302828)) (List.mem_of_getElem? (i := 1) rfl)) dL_at_12 ?_
    refine lv_iload_n hx hb dL_at_14 rfl (lv_at hl 1 rfl) ?_
    refine lv_iconst (v := iI 1) hx hb dL_at_15 rfl ?_
    refine z_iadd hx hb dL_at_16 ?_
    refine z_imul hx hb dL_at_17 ?_
    refine lv_ldc (v := iI 632595346) hx hb hown (by rw [show iI (632595346) = (632595346 : Int32) from by decide]; exact hts (.constant RL 8 (632595346)) (List.mem_of_getElem? (i := 2) rfl)) dL_at_18 ?_
    refine z_iadd hx hb dL_at_20 ?_
    exact W.iret hx hb hr (fun t ht hW => ⟨_, rfl, trivial, ht⟩) (fun q h => by cases h) dL_at_21 hlocks
  · refine lv_aload_n hx hb dL_at_6 rfl (lv_at hl 0 rfl) ?_
    refine lv_iload_n hx hb dL_at_7 rfl (lv_at hl 1 rfl) ?_
    refine z_sld hx hb hXs hbl id hS k.toNat (by omega) (by omega) hL2 dL_at_8 ?_
    refine lv_goto (tgt := 21) hx hb dL_at_9 (by decide) ?_
    exact W.iret hx hb hr (fun t ht hW => ⟨_, rfl, trivial, ht⟩) (fun q h => by cases h) dL_at_21 hlocks
section ZAT
variable {p : Program} {l : Launch} {e : Env} {R : Room} {s : State} {m : MethodId} {args : Array Value} {below : List Frame} {meth : Method} {c : Code} {H : Heap} {locs : List Loc} {cells slots : Nat} {Q : State → Prop}
variable {cc bytes : ByteArray} {pc nL maxL index : Nat} {ls : Array Slot} {rest st0 : List Value} {ret : Option FieldType} {own : String} {Ts wsY : List Cond} {y : MethodName} {rm : Room} {A : Nat → Prop}
theorem z_atS {b L : Nat} {xs : Nat → Int32} {k : Int} (S : CallFix p m c cc nL s args Ts own) (hM : Met l y wsY rm (va_Pc [.ref b, .int (iI k)] (fun U => va_X b L xs U U.heap ∧ b < U.heap.size)) (vp_Si (fun _ => True)) 0 0 (fun _ => False)) (cw : CallB R s args own index y bytes maxL ret wsY rm 0 0 2 ∧ (Cond.static y).before args s = true) (hXs : va_X b L xs s s.heap) (hbl : b < s.heap.size) (hbA : ¬ A b) (hS : va_S A s.heap H locs)
    (hsize : ls.size = nL) (hstack : st0 = [.int (iI k), .ref b] ++ rest) (hW : (rest.map fun v => v.category).sum ≤ 8) (hdg : decode cc pc = .ok (.invokestatic index, 3)) (hf : cells ≤ R.cells ∧ slots ≤ R.slots)
    (kk : ∀ x : Int, ib x → W p l e R s m args below meth c H locs cells slots Q (F0 m (pc + 3) ls (.int (iI x) :: rest))) : W p l e R s m args below meth c H locs cells slots Q (F0 m pc ls st0) := by
  refine vp_callSi (post := fun _ => True) (a := [.ref b, .int (iI k)].toArray) (fun T hT X => ?_) (fun r _ => by rw [← iI_self r]; exact kk _ (ib_self r))
  obtain ⟨v2, st₀, t, T', L9, h0, X', hL, e1, -, hq, st⟩ := va_runS S hM cw ⟨at_blind, fun U hU hW2 => ⟨rfl, by rw [hU]; exact va_X.moved hW2.alike (hXs.kept (hS.2.1 b hbl hbA)), by rw [hU]; exact Nat.lt_of_lt_of_le hbl hS.1⟩⟩ (g := F0 m pc ls st0) rfl rfl hsize hstack (lv_room hW) hdg hf T hT X
  exact ⟨v2, st₀, t, T', L9, h0, X', hL, e1, hq, st⟩
end ZAT
