/-! new arrays; Arrays.copyOf; beginStatement -/
theorem new0_cell (cA : ClassId) (N : Nat) {ty : FieldType} (hd : defaultValue ty = .int 0) : vp_cell cA (N, .inl (iA (fun _ => 0))) = arrV cA N (fun _ => defaultValue ty) := by
  rw [vp_cell_i, hd]
  congr 1
theorem z_cls {D : va_G} {cl : List vw_C} {tys : List (ClassId × FieldType)} {cA cT : ClassId} {ty : FieldType} {s : State} (hK : va_K D cl (tys ++ [(cA, ty)]) s) (t0 : Nat) (ht : tys[t0]? = some (cT, ty)) (hra : ∀ c, va_RA s c ty → s.vm.findClass ("[" ++ ty.toString) = some c) : cA = cT := by
  have h1 := hra _ (hK.2 tys.length (cA, ty) (by simp)).2
  have h2 := hra _ (hK.2 t0 (cT, ty) (by rw [List.getElem?_append_left (List.getElem?_eq_some_iff.mp ht).1]; exact ht)).2
  rw [h1] at h2
  exact Option.some.inj h2
section ZNA
variable {p : Program} {l : Launch} {e : Env} {R : Room} {s : State} {m : MethodId} {args : Array Value} {below : List Frame} {meth : Method} {c : Code} {H H0 : Heap} {locs : List Loc} {cells slots : Nat} {Q : State → Prop}
variable {cc : ByteArray} {pc : Nat} {ls : Array Slot} {rest : List Value} {D : va_G} {A : Nat → Prop} {ws : va_W} {cI cZ cC : ClassId}
theorem z_newa (hx : p.tables.exec = Jvm.exec) (hb : c.code = cc) {atype : ArrayType} {ty : FieldType} (harr : (Cond.arrayClass (newarray.typeOf atype)).before args s = true) (hty : newarray.typeOf atype = ty) (hra : ∀ c, va_RA s c ty → s.vm.findClass ("[" ++ ty.toString) = some c) (hd : defaultValue ty = .int 0) (hK : zK D cI cZ cC s) (hP : va_P D vwCl ws H) (hD : va_D A ws) (hS : va_S A H0 H locs) (hA : ∀ q, H0.size ≤ q → A q) (t0 : Nat) {cT : ClassId} (ht : ([(cI, .int), (cZ, .boolean), (cC, .char)] : List (ClassId × FieldType))[t0]? = some (cT, ty)) {n : Int} (N : Nat) (hn : n = (N : Int)) (hN : N < 100000000) (hbytes : N * componentBytes ty ≤ 536870912) (hcells : cells + 1 ≤ R.cells) (hslots : slots + N ≤ R.slots) (hdg : decode cc pc = .ok (.newarray atype, 2))
    (kk : ∀ (q : Nat) (H1 : Heap), va_P D vwCl (ws ++ [(q, .inl (cT, N, .inl (iA (fun _ => 0))))]) H1 → va_D A (ws ++ [(q, .inl (cT, N, .inl (iA (fun _ => 0))))]) → va_S A H0 H1 locs → W p l e R s m args below meth c H1 locs (cells + 1) (slots + N) Q (F0 m (pc + 2) ls (.ref q :: rest))) : W p l e R s m args below meth c H locs cells slots Q (F0 m pc ls (.int (iI n) :: rest)) := by
  subst hn
  refine va_newa hx hb harr hty hK.1 hP hD hS hA (N' := N) (a0 := (N, .inl (iA (fun _ => 0)))) (fun cA => new0_cell cA N hd) (fun q => ?_) ?_ hbytes hcells hslots hdg (fun q cA H1 k1 k2 k3 k4 => ?_)
  · rw [← iI_0, iI_lt ⟨by omega, by omega⟩ ib_0] at q
    omega
  · rw [iI_clamp ⟨by omega, by omega⟩]
    omega
  · have e1 := z_cls k1 t0 ht hra
    subst e1
    exact kk q H1 k2 k3 k4
end ZNA
def cpB (B : Int → Int) (Ln : Nat) : Int → Int := fun j => if 0 ≤ j ∧ j < (Ln : Int) then B j else 0
theorem cpB_eq (B : Int → Int) (Ln : Nat) : va_cpy (iA B) (iA (fun _ => 0)) 0 0 Ln = iA (cpB B Ln) := by
  funext j
  show (if 0 ≤ j ∧ j < 0 + Ln then iI (B ((0 + (j - 0) : Nat) : Int)) else iI 0) = iI (if 0 ≤ (j : Int) ∧ (j : Int) < (Ln : Int) then B (j : Int) else 0)
  by_cases h : j < Ln
  · rw [if_pos (by omega), if_pos (by omega)]
    congr 2
    omega
  · rw [if_neg (by omega), if_neg (by omega)]
set_option maxHeartbeats 4000000 in
set_option maxRecDepth 100000 in
theorem c_J7_copyOf (l : Launch) (D : va_G) (cI cZ cC : ClassId) (sz : Nat) (be Ln : Nat) (B : Int → Int) (g_L : 0 < Ln ∧ Ln < 10000000) : Met l yJ7_copyOf_59c91 wsJ7_copyOf_59c91 ({ frames := 1, cells := 1, slots := 2 * Ln, locals := 100 }) (va_Pc [.ref be, .int (iI (2 * (Ln : Int)))] (zPw D cI cZ cC [(be, .inl (cI, Ln, .inl (iA B)))] sz)) (va_Qr (fun _ : Unit => True) (fun _ a t => va_P D vwCl [(be, .inl (cI, Ln, .inl (iA B))), (a, .inl (cI, 2 * Ln, .inl (iA (cpB B Ln))))] t.heap ∧ va_D (va_A [(be, .inl (cI, Ln, .inl (iA B)))] sz) [(be, .inl (cI, Ln, .inl (iA B))), (a, .inl (cI, 2 * Ln, .inl (iA (cpB B Ln))))]) (va_A [(be, .inl (cI, Ln, .inl (iA B)))] sz)) 1 (2 * Ln) (va_A [(be, .inl (cI, Ln, .inl (iA B)))] sz) := by
  refine Met.ofW (cc := cJ7_copyOf_59c91) (maxL := 3) (ret := some (.array .int)) (by decide +kernel) rfl ?_
  intro p e s m args below meth c s₁ BB hml hv
  obtain ⟨rfl, hsz, hP, hK, hD0⟩ := hv
  have hx := BB.exec
  have hb := BB.bytes
  have hr := BB.returns
  have hts := atoms_spec (ws := wsJ7_copyOf_59c91) BB.pre
  have hown : s.vm.findClass RJ7 = some m.cls := findClass_of_methodNamed BB.named
  have hlocks := BB.notSynchronized
  subst hsz
  have hD := hD0.self (sz := s.heap.size)
  generalize hAe : va_A [(be, .inl (cI, Ln, .inl (iA B)))] s.heap.size = A at hD ⊢
  have hA : ∀ q : Nat, s.heap.size ≤ q → A q := fun q h => by rw [← hAe]; exact Or.inr h
  have hS : va_S A s.heap s.heap [] := va_S.rf
  have hl := lv_entry ([.ref be, .int (iI (2 * (Ln : Int)))]) (n := 3) (Nat.le_of_ble_eq_true rfl)
  rw [lg_entry_eq]
  generalize (lg_sl ([.ref be, .int (iI (2 * (Ln : Int)))]) ++ List.replicate (3 - (lg_sl ([.ref be, .int (iI (2 * (Ln : Int)))])).length) Slot.unset).toArray = ls at hl ⊢
  have hl : lv_has ls 3 [(0, .ref be), (1, .int (iI (2 * (Ln : Int))))] := hl
  refine lv_iload_n hx hb dJ7_copyOf_59c91_0 rfl (lv_at hl 1 rfl) ?_
  refine lv_aload_n hx hb dJ7_copyOf_59c91_1 rfl (lv_at hl 0 rfl) ?_
  refine va_alen hx hb hK.1 hP 0 0 rfl rfl (v := iI (Ln : Int)) (iI_nI _).symm dJ7_copyOf_59c91_2 ?_
  refine z_icmp_ne (tgt := 14) hx hb dJ7_copyOf_59c91_3 (by decide) ⟨⟨by omega, by omega⟩, ⟨by omega, by omega⟩⟩ (fun c_1 => ?_) (fun c_1 => ?_)
  · refine lv_iload_n hx hb dJ7_copyOf_59c91_14 rfl (lv_at hl 1 rfl) ?_
    refine z_newa (atype := .int) (ty := .int) hx hb (hts (.arrayClass .int) (List.mem_of_getElem? (i := 7) rfl)) rfl (fun _ h => h) rfl hK hP hD hS hA 0 rfl (2 * Ln) (by omega) (by omega) (by show 2 * Ln * 4 ≤ 536870912; omega) (Nat.le_refl 1) (by show 0 + 2 * Ln ≤ 2 * Ln; omega) dJ7_copyOf_59c91_15 (fun q H hP hD hS => ?_)
    have hP : va_P D vwCl [(be, .inl (cI, Ln, .inl (iA B))), (q, .inl (cI, 2 * Ln, .inl (iA (fun _ => 0))))] H := hP
    have hD : va_D A [(be, .inl (cI, Ln, .inl (iA B))), (q, .inl (cI, 2 * Ln, .inl (iA (fun _ => 0))))] := hD
    refine lv_astore_n (lv' := [(2, .ref q), (0, .ref be), (1, .int (iI (2 * (Ln : Int))))]) hx hb dJ7_copyOf_59c91_17 rfl hl (by decide) rfl (fun ls hl => ?_)
    refine lv_aload_n hx hb dJ7_copyOf_59c91_18 rfl (lv_at hl 1 rfl) ?_
    refine lv_iconst (v := iI 0) hx hb dJ7_copyOf_59c91_19 rfl ?_
    refine lv_aload_n hx hb dJ7_copyOf_59c91_20 rfl (lv_at hl 0 rfl) ?_
    refine lv_iconst (v := iI 0) hx hb dJ7_copyOf_59c91_21 rfl ?_
    refine lv_aload_n hx hb dJ7_copyOf_59c91_22 rfl (lv_at hl 1 rfl) ?_
    refine va_alen hx hb hK.1 hP 0 0 rfl rfl (v := iI (Ln : Int)) (iI_nI _).symm dJ7_copyOf_59c91_23 ?_
    refine lv_iload_n hx hb dJ7_copyOf_59c91_24 rfl (lv_at hl 2 rfl) ?_
    refine va_mmin hx hb (by rw [hml]; exact hl.1.symm) hown (hts (.methodLink RJ7 304 Lib.Math.min.name) (List.mem_of_getElem? (i := 8) rfl)) (hts (.static Lib.Math.min.name) (List.mem_of_getElem? (i := 9) rfl)) (hts (.initialized "java/lang/Math") (List.mem_of_getElem? (i := 10) rfl)) (hts (.code Lib.Math.min.name Lib.Math.min.code 2 (some .int)) (List.mem_of_getElem? (i := 11) rfl)) (Nat.le_refl 1) (Nat.le_of_ble_eq_true rfl) (Nat.le_refl 1) (by show 0 + 2 * Ln ≤ 2 * Ln; omega) dJ7_copyOf_59c91_25 ?_
    rw [if_neg (by rw [iI_lt ⟨by omega, by omega⟩ ⟨by omega, by omega⟩]; omega)]
    have z0 : (iI 0).toNatClampNeg = 0 := by decide
    have zL : (iI (Ln : Int)).toNatClampNeg = Ln := by rw [iI_clamp ⟨by omega, by omega⟩]; omega
    refine va_copyi hx hb (by rw [hml]; exact hl.1.symm) hown (hts (.methodLink RJ7 150 arraycopyName) (List.mem_of_getElem? (i := 12) rfl)) (hts (.native arraycopyName) (List.mem_of_getElem? (i := 13) rfl)) (hts (.static arraycopyName) (List.mem_of_getElem? (i := 14) rfl)) (hts (.initialized "java/lang/System") (List.mem_of_getElem? (i := 15) rfl)) hK.1 hP hD hS 0 1 0 0 rfl rfl rfl rfl rfl (by decide) (by decide) (fun q => by rw [← iI_0, iI_lt ⟨by omega, by omega⟩ ib_0] at q; omega) (by rw [z0, zL]; omega) (by rw [z0, zL]; omega) (fun _ _ => rfl) (Nat.le_refl 1) (by show 0 + (nativeFrameWords "java/lang/System" "arraycopy" 5 + 11) ≤ 100; decide) dJ7_copyOf_59c91_28 (fun H locs hP hD hS => ?_)
    rw [z0, zL, cpB_eq] at hP hD
    have hP : va_P D vwCl [(be, .inl (cI, Ln, .inl (iA B))), (q, .inl (cI, 2 * Ln, .inl (iA (cpB B Ln))))] H := hP
    have hD : va_D A [(be, .inl (cI, Ln, .inl (iA B))), (q, .inl (cI, 2 * Ln, .inl (iA (cpB B Ln))))] := hD
    refine lv_aload_n hx hb dJ7_copyOf_59c91_31 rfl (lv_at hl 0 rfl) ?_
    refine W.widen (k := 1) (n := 2 * Ln) (by omega) (by omega) ?_
    exact W.aret hx hb hr (Or.inr ⟨_, rfl⟩) (Or.inr ⟨q, rfl⟩) (fun t ht hW => ⟨⟨(), q, rfl, trivial, by rw [ht]; exact hP, hD⟩, hS.F ht⟩) hS.2.2 dJ7_copyOf_59c91_32
  · exfalso
    omega
