/-! what the law's start gives -/
abbrev FLn : List Cond := flatC (Jvm.Cond.and given_1 narrow_1)
theorem w_arr {args : Array Value} {s : State} {ty : FieldType} (h : (Cond.arrayClass ty).before args s = true) (h2 : ∀ c : ClassId, s.vm.findClass ("[" ++ ty.toString) = some c → va_RA s c ty) : ∃ cA : ClassId, ArrOfT s cA ty ∧ va_RA s cA ty := by
  obtain ⟨cA, kA, comp, hf, hk, hkind⟩ := Cond.arrayClass_spec h
  exact ⟨cA, fun n z => ⟨fun k h => (by cases h), kA, hk, comp, hkind⟩, h2 _ hf⟩
theorem zN_in : ∀ w ∈ zN, w ∈ lw_tbl := by decide +kernel
theorem zXW_in : ∀ w ∈ zXW, w ∈ lw_tbl := by decide +kernel
theorem zCW_in : ∀ w ∈ zCW, w ∈ lw_tbl := by decide +kernel
theorem zXT_in : ∀ q ∈ zXT, Cond.stringRef RX7 q.1 q.2 ∈ lw_tbl ∧ Cond.exactly (.string RX7 q.1) "java/lang/String" ∈ FLn := by decide +kernel
def kS (i : Nat) : Nat := [47, 68, 70, 72, 74, 76].getD i 0
def xS6 (i : Nat) : String := ["iudcrsb", "t,k,v,v", "t,k,c,v", "t,k", "p", ""].getD i ""
def tmS (i : Nat) : Term := .string RX6 (kS i)
theorem tmS_r : ∀ i : Nat, i < 6 → Cond.stringRef RX6 (kS i) (xS6 i) ∈ lw_tbl := by decide +kernel
theorem tmS_x : ∀ i : Nat, i < 6 → Cond.exactly (tmS i) "java/lang/String" ∈ FLn := by decide +kernel
theorem tmS_c : ∀ i : Nat, i < 6 → Cond.eq (.field (tmS i) "java/lang/String" "coder" "B") (.int (iI 0)) ∈ FLn := by decide +kernel
theorem tmS_a : ∀ i : Nat, i < 6 → Cond.arrayOf (.field (tmS i) "java/lang/String" "value" "[B") .byte ∈ FLn := by decide +kernel
theorem tmS_l : ∀ i : Nat, i < 6 → Cond.eq (.length (.field (tmS i) "java/lang/String" "value" "[B")) (.int (Int32.ofNat (tlen i))) ∈ FLn := by decide +kernel
theorem tmS_e : ∀ i : Nat, i < 6 → ∀ j : Nat, j < tlen i → Cond.eq (.elem (.field (tmS i) "java/lang/String" "value" "[B") (.int (Int32.ofNat j))) (.int (iI (chr i (j : Int)))) ∈ FLn := by decide +kernel
theorem lw_zE {s : State} {b : Nat} (hf : ∀ w ∈ FLn, w.before #[Value.ref b] s = true) (hts : ∀ w ∈ lw_tbl, w.before #[Value.ref b] s = true) : ∃ adK adV : Nat → Nat, zE s.heap.size adK adV s s.heap := by
  have hA : ∀ a : Nat, a < s.heap.size → ¬ (fun q : Nat => s.heap.size ≤ q) a := fun a h => Nat.not_le.mpr h
  have h0 : ∀ i : Nat, ∃ q : Nat × Nat, i < 6 → (tmS i).eval #[Value.ref b] s none [] s = some (.ref q.1) ∧ va_O "java/lang/String" q.1 (fun q : Nat => s.heap.size ≤ q) s s.heap ∧ va_OF "java/lang/String" "coder" "B" (.int (iI 0)) q.1 (fun q : Nat => s.heap.size ≤ q) s s.heap ∧ va_OF "java/lang/String" "value" "[B" (.ref q.2) q.1 (fun q : Nat => s.heap.size ≤ q) s s.heap ∧ va_T .byte q.2 (tlen i) (fun j => .int (iI (chr i (j : Int)))) (fun q : Nat => s.heap.size ≤ q) s s.heap := by
    intro i
    by_cases hi : i < 6
    · obtain ⟨a, c, cA, kA, q1, q2, q3, q4, q5, q6, -⟩ := Cond.exactly_spec (args := #[Value.ref b]) (first := s) (o := none) (s := s) (idx := []) (t := tmS i) (cls := "java/lang/String") (hf _ (tmS_x i hi))
      obtain ⟨t, ht, hT⟩ := va_Tof (f := fun j => .int (iI (chr i (j : Int)))) (A := fun q : Nat => s.heap.size ≤ q) (by have := tlen_b i hi; omega) (hf _ (tmS_a i hi)) (va_eqt (hf _ (tmS_l i hi))) (fun j hj => va_eqt (hf _ (tmS_e i hi j hj))) hA
      exact ⟨(a, t), fun _ => ⟨q1, ⟨cA, q3, q5, by rw [q6]; exact q2, hA a (Array.getElem?_eq_some_iff.mp q3).1⟩, vk_OFof q1 (va_eqt (hf _ (tmS_c i hi))) hA, vk_OFof q1 ht hA, hT⟩⟩
    · exact ⟨(0, 0), fun h => absurd h hi⟩
  obtain ⟨ad, had⟩ := Classical.axiomOfChoice h0
  have hR : ∀ i : Nat, i < 6 → vk_R RX6 (kS i) (xS6 i) (ad i).1 s := fun i hi => vk_R.of (A := #[Value.ref b]) (hts _ (tmS_r i hi)) (had i hi).1
  refine ⟨fun i => (ad i).1, fun i => (ad i).2, ?_, ?_, fun i hi => (had i hi).2, hR 0 (by omega), hR 1 (by omega), hR 2 (by omega), hR 3 (by omega), hR 4 (by omega), hR 5 (by omega)⟩
  · have h1 : (Term.static "java/lang/String" "COMPACT_STRINGS" "Z").eval #[Value.ref b] s none [] s = some (.int 1) := va_eqi (hf _ (by decide +kernel))
    rw [show (1 : Int32) = iI 1 from by decide] at h1
    exact va_Zof (hts _ (by decide +kernel)) (hts _ (by decide +kernel)) h1 hA
  · exact va_Zqof (hts _ (by decide +kernel)) (hts _ (by decide +kernel)) (hf _ (by decide +kernel)) hA
theorem lw_zX {s : State} {b : Nat} (hf : ∀ w ∈ FLn, w.before #[Value.ref b] s = true) (hts : ∀ w ∈ lw_tbl, w.before #[Value.ref b] s = true) : zX s.heap.size s s.heap := by
  have hA : ∀ a : Nat, a < s.heap.size → ¬ (fun q : Nat => s.heap.size ≤ q) a := fun a h => Nat.not_le.mpr h
  refine ⟨fun w hw => zX_face (a := #[Value.ref b]) (State.WarmedH.refl s) (List.all_eq_true.mp zXW_ok w hw) (hts w (zXW_in w hw)), fun q hq => ?_, ?_, ?_⟩
  · obtain ⟨h1, h2⟩ := zXT_in q hq
    obtain ⟨a, c, cA, kA, q1, -⟩ := Cond.exactly_spec (args := #[Value.ref b]) (first := s) (o := none) (s := s) (idx := []) (t := .string RX7 q.1) (cls := "java/lang/String") (hf _ h2)
    exact ⟨a, vk_R.of (A := #[Value.ref b]) (hts _ h1) q1⟩
  · exact vx_Zqof (hts _ (by decide +kernel)) (hts _ (by decide +kernel)) (hf _ (by decide +kernel)) hA
  · exact vx_Zqof (hts _ (by decide +kernel)) (hts _ (by decide +kernel)) (hf _ (by decide +kernel)) hA
theorem lw_zCa {s : State} {b : Nat} (hf : ∀ w ∈ FLn, w.before #[Value.ref b] s = true) (hts : ∀ w ∈ lw_tbl, w.before #[Value.ref b] s = true) : zCa s :=
  ⟨fun a w hw => zX_face (a := #[Value.ref b]) (State.WarmedH.refl s) (List.all_eq_true.mp zCW_ok w hw) (hts w (zCW_in w hw)), va_Nc.of (hf _ (by decide +kernel)), va_Nc.of (hf _ (by decide +kernel)), va_Nc.of (hf _ (by decide +kernel)), va_Nc.of (hf _ (by decide +kernel)), va_Nc.of (hf _ (by decide +kernel)), va_Nc.of (hf _ (by decide +kernel))⟩
theorem lw_K {s : State} {b : Nat} (hts : ∀ w ∈ lw_tbl, w.before #[Value.ref b] s = true) : ∃ (D : va_G) (cI cZ cC cJ : ClassId), zK D cI cZ cC s ∧ zKJ D cJ s := by
  obtain ⟨k0, i0, h0⟩ := u_known (C := RX0) (T := TX0) (N := 4) (n := 4) hts inX0 (hts (.instantiable RX0 4) (by decide +kernel))
  obtain ⟨k1, i1, h1⟩ := u_known (C := RX1) (T := TX1) (N := 3) (n := 3) hts inX1 (hts (.instantiable RX1 3) (by decide +kernel))
  obtain ⟨k2, i2, h2⟩ := u_known (C := RX2) (T := TX2) (N := 3) (n := 3) hts inX2 (hts (.instantiable RX2 3) (by decide +kernel))
  obtain ⟨k3, i3, h3⟩ := u_known (C := RX3) (T := TX3) (N := 3) (n := 3) hts inX3 (hts (.instantiable RX3 3) (by decide +kernel))
  obtain ⟨k4, i4, h4⟩ := u_known (C := RX4) (T := TX4) (N := 3) (n := 3) hts inX4 (hts (.instantiable RX4 3) (by decide +kernel))
  obtain ⟨k5, i5, h5⟩ := u_known (C := RX5) (T := TX5) (N := 2) (n := 2) hts inX5 (hts (.instantiable RX5 2) (by decide +kernel))
  obtain ⟨k6, i6, h6⟩ := u_known (C := RX6) (T := TX6) (N := 6) (n := 6) hts inX6 (hts (.instantiable RX6 6) (by decide +kernel))
  obtain ⟨k7, i7, h7⟩ := u_known (C := RX7) (T := TX7) (N := 6) (n := 6) hts inX7 (hts (.instantiable RX7 6) (by decide +kernel))
  obtain ⟨k8, i8, h8⟩ := u_known (C := RX8) (T := TX8) (N := 20) (n := 20) hts inX8 (hts (.instantiable RX8 20) (by decide +kernel))
  obtain ⟨D, hKc⟩ : ∃ D : va_G, ∀ (k : Nat) (q : vw_C), vwCl[k]? = some q → u_Kn s q.1 q.2.1 q.2.2 (D.1 k) (D.2 k) := by
    refine ⟨(fun k => [k0, k1, k2, k3, k4, k5, k6, k7, k8].getD k k0, fun k => [i0, i1, i2, i3, i4, i5, i6, i7, i8].getD k i0), ?_⟩
    intro k q hq
    match k, hq with
    | 0, hq => cases hq; exact h0
    | 1, hq => cases hq; exact h1
    | 2, hq => cases hq; exact h2
    | 3, hq => cases hq; exact h3
    | 4, hq => cases hq; exact h4
    | 5, hq => cases hq; exact h5
    | 6, hq => cases hq; exact h6
    | 7, hq => cases hq; exact h7
    | 8, hq => cases hq; exact h8
    | k + 9, hq => simp [vwCl] at hq
  obtain ⟨cI, a1, a2⟩ := w_arr (ty := .int) (hts (.arrayClass .int) (by decide +kernel)) (fun c h => h)
  obtain ⟨cZ, a3, a4⟩ := w_arr (ty := .boolean) (hts (.arrayClass .boolean) (by decide +kernel)) (fun c h => h)
  obtain ⟨cC, a5, a6⟩ := w_arr (ty := .char) (hts (.arrayClass .char) (by decide +kernel)) (fun c h => h)
  obtain ⟨cJ, a7, a8⟩ := w_arr (ty := .long) (hts (.arrayClass .long) (by decide +kernel)) (fun c h => h)
  refine ⟨D, cI, cZ, cC, cJ, ⟨⟨hKc, fun k q h => ?_⟩, fun w hw => ?_⟩, ⟨hKc, fun k q h => ?_⟩⟩
  · match k, h with
    | 0, h => cases h; exact ⟨a1, a2⟩
    | 1, h => cases h; exact ⟨a3, a4⟩
    | 2, h => cases h; exact ⟨a5, a6⟩
    | k + 3, h => simp at h
  · exact va_Nw.of (by obtain ⟨a, i, x, y, rfl⟩ := zN_form w hw; rfl) (hts w (zN_in w hw))
  · match k, h with
    | 0, h => cases h; exact ⟨a7, a8⟩
    | k + 1, h => simp at h
section ZNL
variable {p : Program} {l : Launch} {e : Env} {R : Room} {s : State} {m : MethodId} {args : Array Value} {below : List Frame} {meth : Method} {c : Code} {H H0 : Heap} {locs : List Loc} {cells slots : Nat} {Q : State → Prop}
variable {cc : ByteArray} {pc : Nat} {ls : Array Slot} {rest : List Value} {D : va_G} {A : Nat → Prop} {ws : va_W} {cJ : ClassId}
theorem z_newL (hx : p.tables.exec = Jvm.exec) (hb : c.code = cc) (harr : (Cond.arrayClass .long).before args s = true) (hK : zKJ D cJ s) (hP : va_P D vwCl ws H) (hD : va_D A ws) (hS : va_S A H0 H locs) (hA : ∀ q, H0.size ≤ q → A q) (hcells : cells + 1 ≤ R.cells) (hslots : slots + 1 ≤ R.slots) (hdg : decode cc pc = .ok (.newarray .long, 2))
    (kk : ∀ (q : Nat) (H1 : Heap), va_P D vwCl (ws ++ [(q, .inl (cJ, 1, .inr (.inl (fun _ => 0))))]) H1 → va_D A (ws ++ [(q, .inl (cJ, 1, .inr (.inl (fun _ => 0))))]) → va_S A H0 H1 locs → W p l e R s m args below meth c H1 locs (cells + 1) (slots + 1) Q (F0 m (pc + 2) ls (.ref q :: rest))) : W p l e R s m args below meth c H locs cells slots Q (F0 m pc ls (.int (iI 1) :: rest)) := by
  refine va_newa (atype := .long) (ty := .long) hx hb harr rfl hK hP hD hS hA (N' := 1) (a0 := (1, .inr (.inl (fun _ => 0)))) (fun cA => by rw [vp_cell_l]; rfl) (by decide) (by decide) (by decide) hcells hslots hdg (fun q cA H1 k1 k2 k3 k4 => ?_)
  have h1 := ((k1.2 1 (cA, .long) rfl).2 : va_RA s cA .long)
  have h2 := ((k1.2 0 (cJ, .long) rfl).2 : va_RA s cJ .long)
  have e1 : cA = cJ := Option.some.inj ((show s.vm.findClass _ = some cA from h1).symm.trans (show s.vm.findClass _ = some cJ from h2))
  subst e1
  exact kk q H1 k2 k3 k4
end ZNL
theorem LI_0 {P V : Int → Int} (hV : ∀ j : Int, 0 ≤ j → j < 160 → V j = -2) (hP : ∀ j : Int, 0 ≤ j → j < 8 → P j = -2) : LI ((0 : Nat) : Int) 240 0 240 P (fun _ => 0) (fun _ => 0) V [] (fun _ => 0) 0 (fun _ => 0) 0 (fun _ => 0) 0 (fun _ => 0) (fun _ => 0) (fun _ => 0) (fun _ => 0) (fun _ => 0) (fun _ => 0) (fun _ => 0) 0 := by
  have hb := pot_b V
  have q1 : (0 : Int) ≤ 0 ∧ (0 : Int) ≤ 3 := by decide
  have q2 : (0 : Int) ≤ 0 ∧ (0 : Int) < 128 := by decide
  have q3 : (-1 : Int) ≤ 0 ∧ (0 : Int) ≤ 19 ∧ (-1 : Int) ≤ 0 ∧ (0 : Int) ≤ 19 := by decide
  refine ⟨⟨fun j a b => Or.inl (hP j a b), fun j _ _ => Or.inl rfl, fun j _ _ => q1⟩, ⟨⟨fun j a b => by have := hV j a b; omega, fun r a b => by have h1 := hV (r * 2) (by omega) (by omega); have h2 := hV (r * 2 + 1) (by omega) (by omega); omega, hb.2⟩, rfl, ⟨by omega, by omega, by omega⟩⟩, ⟨spOK_0 _, fun j _ _ => q2, ⟨by omega, by omega⟩, bgt_0⟩, ?_, ?_, rfl⟩
  · intro r a b
    refine ⟨q3, Or.inr ⟨rfl, hV _ (by omega) (by omega), hV _ (by omega) (by omega)⟩⟩
  · intro k a b
    exact ⟨⟨q1.1, q1.2, q1.1, q1.2, Or.inl rfl⟩, Or.inr ⟨rfl, hP k a b⟩⟩
set_option maxHeartbeats 4000000 in
set_option maxRecDepth 100000 in
theorem law_loop {p0 : Program} {l : Launch} {en0 : Env} {s0 : State} {m0 : MethodId} {below0 : List Frame} {meth0 : Method} {c0 : Code} {D : va_G} {cI cZ cC cJ : ClassId} {b0 : Nat} {adK adV : Nat → Nat} {ad bd : Nat → Nat} {oo b L : Nat} {xs : Nat → Int32} {AA : Nat → Prop} (C0 : LC p0 l s0 m0 c0 D cI cZ cC cJ b0 adK adV b L xs AA) (h_b0 : b0 = s0.heap.size) (hret : meth0.sig.returnType = ret) (hlk : meth0.locks = false) : ∀ (fu c : Nat), 6 * c ≤ L → 512 < fu + c → LW p0 l en0 s0 m0 below0 meth0 c0 D cI cZ cC cJ ad bd oo b AA c c 23 := by
  obtain ⟨⟨hx, hb, hml, hown, hts⟩, ⟨hXs, hbl, hbA, hL2, g_lt⟩, hCa, hKJ, hX, hE, hAb, hbs, hA, hK⟩ := id C0
  intro fu
  induction fu with
  | zero => intro c h1 h2; exfalso; omega
  | succ fu ih => ?_
  intro c hcL hfu
  have e_c1 : ((c + 1 : Nat) : Int) = (c : Int) + 1 := by omega
  have K8 : 6 * c + 6 ≤ L → LW p0 l en0 s0 m0 below0 meth0 c0 D cI cZ cC cJ ad bd oo b AA (c + 1) c 1508 := by
    intro hc
    have ih9 := ih (c + 1) (by omega) (by omega)
    unfold LW at ih9 ⊢
    intro be Ln P Ac Mo V B n N mx lg Qa Qk ql Qb Qc qm SP sn SG tl tp tq tac TA Ir Vm Ic Pm Am Dm Lm Qm Rm cn th sp ta ke on tw f0 H locs g_I hP hD hS ls hl
    have e6 : 6 * ((c + 1 : Nat) : Int) = 6 * (c : Int) + 6 := by omega
    refine lv_iinc (v := iI (6 * (c : Int) + 6)) (lv' := [(4, .int (iI (6 * (c : Int) + 6))), (3, .ref oo), (2, .ref (bd 0)), (1, .ref (ad 0)), (0, .ref b)]) hx hb dL_law_1508 hl (k := 0) rfl (iI_add (6 * (c : Int)) (6)) (by decide) rfl (fun ls hl => ?_)
    refine lv_goto (tgt := 23) hx hb dL_law_1511 (by decide) ?_
    rw [← e6] at hl
    exact ih9 be Ln P Ac Mo V B n N mx lg Qa Qk ql Qb Qc qm SP sn SG tl tp tq tac TA Ir Vm Ic Pm Am Dm Lm Qm Rm cn th sp ta ke on tw f0 H locs g_I hP hD hS ls hl
  unfold LW
  intro be Ln P Ac Mo V B n N mx lg Qa Qk ql Qb Qc qm SP sn SG tl tp tq tac TA Ir Vm Ic Pm Am Dm Lm Qm Rm cn th sp ta ke on tw f0 H locs g_I hP hD hS ls hl
  have g_Ln := g_I.2.1.2.2
  refine lv_iload hx hb dL_law_23 (lv_at hl 0 rfl) ?_
  refine lv_aload_n hx hb dL_law_25 rfl (lv_at hl 4 rfl) ?_
  refine z_slen hx hb hXs hbl hbA hS dL_law_26 ?_
  refine lv_bipush (v := iI (6)) hx hb dL_law_27 (by decide) ?_
  refine z_isub hx hb dL_law_29 ?_
  refine z_icmp_gt (tgt := 1514) hx hb dL_law_30 (by decide) ⟨⟨by omega, by omega⟩, ⟨by omega, by omega⟩⟩ (fun c_1 => ?_) (fun c_1 => ?_)
  · refine lv_iconst (v := 1) hx hb dL_law_1514 rfl ?_
    refine va_forget (fun q hq => by have := hAb _ (hS.2.2 q hq); omega) ?_
    refine W.widen (k := 601024) (n := 7293034) (by omega) (by omega) ?_
    exact lw_ret hx hb hret hlk dL_law_1515
  · have hc : 6 * c + 6 ≤ L := by omega
    refine lv_aload_n hx hb dL_law_33 rfl (lv_at hl 4 rfl) ?_
    refine lv_iload hx hb dL_law_34 (lv_at hl 0 rfl) ?_
    refine z_sld hx hb hXs hbl hbA hS (6 * c + 0) (by omega) (by omega) hL2 dL_law_36 ?_
    have hb_2 := sc_b xs (6 * c + 0)
    refine lv_bipush (v := iI (31)) hx hb dL_law_37 (by decide) ?_
    refine z_and31 hx hb dL_law_39 ?_
    by_cases k_3 : (sc xs (6 * c + 0) % 32) = 0
    · refine lv_tableIn (off := 120) (tgt := 160) hx hb dL_law_40 (by rw [iI_toInt ⟨by omega, by omega⟩]; omega) (by rw [iI_toInt ⟨by omega, by omega⟩]; omega) (by rw [iI_toInt ⟨by omega, by omega⟩, k_3]; rfl) (by decide) ?_
      have h9 := law_define C0 c hc (K8 hc)
      unfold LW at h9
      exact h9 be Ln P Ac Mo V B n N mx lg Qa Qk ql Qb Qc qm SP sn SG tl tp tq tac TA Ir Vm Ic Pm Am Dm Lm Qm Rm cn th sp ta ke on tw f0 H locs g_I hP hD hS _ hl
    by_cases k_4 : (sc xs (6 * c + 0) % 32) = 1
    · refine lv_tableIn (off := 240) (tgt := 280) hx hb dL_law_40 (by rw [iI_toInt ⟨by omega, by omega⟩]; omega) (by rw [iI_toInt ⟨by omega, by omega⟩]; omega) (by rw [iI_toInt ⟨by omega, by omega⟩, k_4]; rfl) (by decide) ?_
      have h9 := law_drop C0 c hc (K8 hc)
      unfold LW at h9
      exact h9 be Ln P Ac Mo V B n N mx lg Qa Qk ql Qb Qc qm SP sn SG tl tp tq tac TA Ir Vm Ic Pm Am Dm Lm Qm Rm cn th sp ta ke on tw f0 H locs g_I hP hD hS _ hl
    by_cases k_5 : (sc xs (6 * c + 0) % 32) = 2
    · refine lv_tableIn (off := 308) (tgt := 348) hx hb dL_law_40 (by rw [iI_toInt ⟨by omega, by omega⟩]; omega) (by rw [iI_toInt ⟨by omega, by omega⟩]; omega) (by rw [iI_toInt ⟨by omega, by omega⟩, k_5]; rfl) (by decide) ?_
      have h9 := law_setMode C0 c hc (K8 hc)
      unfold LW at h9
      exact h9 be Ln P Ac Mo V B n N mx lg Qa Qk ql Qb Qc qm SP sn SG tl tp tq tac TA Ir Vm Ic Pm Am Dm Lm Qm Rm cn th sp ta ke on tw f0 H locs g_I hP hD hS _ hl
    by_cases k_6 : (sc xs (6 * c + 0) % 32) = 3
    · refine lv_tableIn (off := 404) (tgt := 444) hx hb dL_law_40 (by rw [iI_toInt ⟨by omega, by omega⟩]; omega) (by rw [iI_toInt ⟨by omega, by omega⟩]; omega) (by rw [iI_toInt ⟨by omega, by omega⟩, k_6]; rfl) (by decide) ?_
      have h9 := law_insert C0 c hc (K8 hc)
      unfold LW at h9
      exact h9 be Ln P Ac Mo V B n N mx lg Qa Qk ql Qb Qc qm SP sn SG tl tp tq tac TA Ir Vm Ic Pm Am Dm Lm Qm Rm cn th sp ta ke on tw f0 H locs g_I hP hD hS _ hl
    by_cases k_7 : (sc xs (6 * c + 0) % 32) = 4
    · refine lv_tableIn (off := 496) (tgt := 536) hx hb dL_law_40 (by rw [iI_toInt ⟨by omega, by omega⟩]; omega) (by rw [iI_toInt ⟨by omega, by omega⟩]; omega) (by rw [iI_toInt ⟨by omega, by omega⟩, k_7]; rfl) (by decide) ?_
      have h9 := law_update C0 c hc (K8 hc)
      unfold LW at h9
      exact h9 be Ln P Ac Mo V B n N mx lg Qa Qk ql Qb Qc qm SP sn SG tl tp tq tac TA Ir Vm Ic Pm Am Dm Lm Qm Rm cn th sp ta ke on tw f0 H locs g_I hP hD hS _ hl
    by_cases k_8 : (sc xs (6 * c + 0) % 32) = 5
    · refine lv_tableIn (off := 588) (tgt := 628) hx hb dL_law_40 (by rw [iI_toInt ⟨by omega, by omega⟩]; omega) (by rw [iI_toInt ⟨by omega, by omega⟩]; omega) (by rw [iI_toInt ⟨by omega, by omega⟩, k_8]; rfl) (by decide) ?_
      have h9 := law_delete C0 c hc (K8 hc)
      unfold LW at h9
      exact h9 be Ln P Ac Mo V B n N mx lg Qa Qk ql Qb Qc qm SP sn SG tl tp tq tac TA Ir Vm Ic Pm Am Dm Lm Qm Rm cn th sp ta ke on tw f0 H locs g_I hP hD hS _ hl
    by_cases k_9 : (sc xs (6 * c + 0) % 32) = 6
    · refine lv_tableIn (off := 656) (tgt := 696) hx hb dL_law_40 (by rw [iI_toInt ⟨by omega, by omega⟩]; omega) (by rw [iI_toInt ⟨by omega, by omega⟩]; omega) (by rw [iI_toInt ⟨by omega, by omega⟩, k_9]; rfl) (by decide) ?_
      have h9 := law_commit C0 c hc (K8 hc)
      unfold LW at h9
      exact h9 be Ln P Ac Mo V B n N mx lg Qa Qk ql Qb Qc qm SP sn SG tl tp tq tac TA Ir Vm Ic Pm Am Dm Lm Qm Rm cn th sp ta ke on tw f0 H locs g_I hP hD hS _ hl
    by_cases k_10 : (sc xs (6 * c + 0) % 32) = 7
    · refine lv_tableIn (off := 669) (tgt := 709) hx hb dL_law_40 (by rw [iI_toInt ⟨by omega, by omega⟩]; omega) (by rw [iI_toInt ⟨by omega, by omega⟩]; omega) (by rw [iI_toInt ⟨by omega, by omega⟩, k_10]; rfl) (by decide) ?_
      have h9 := law_rollBack C0 c hc (K8 hc)
      unfold LW at h9
      exact h9 be Ln P Ac Mo V B n N mx lg Qa Qk ql Qb Qc qm SP sn SG tl tp tq tac TA Ir Vm Ic Pm Am Dm Lm Qm Rm cn th sp ta ke on tw f0 H locs g_I hP hD hS _ hl
    by_cases k_11 : (sc xs (6 * c + 0) % 32) = 8
    · refine lv_tableIn (off := 682) (tgt := 722) hx hb dL_law_40 (by rw [iI_toInt ⟨by omega, by omega⟩]; omega) (by rw [iI_toInt ⟨by omega, by omega⟩]; omega) (by rw [iI_toInt ⟨by omega, by omega⟩, k_11]; rfl) (by decide) ?_
      have h9 := law_savePoint C0 c hc (K8 hc)
      unfold LW at h9
      exact h9 be Ln P Ac Mo V B n N mx lg Qa Qk ql Qb Qc qm SP sn SG tl tp tq tac TA Ir Vm Ic Pm Am Dm Lm Qm Rm cn th sp ta ke on tw f0 H locs g_I hP hD hS _ hl
    by_cases k_12 : (sc xs (6 * c + 0) % 32) = 9
    · refine lv_tableIn (off := 726) (tgt := 766) hx hb dL_law_40 (by rw [iI_toInt ⟨by omega, by omega⟩]; omega) (by rw [iI_toInt ⟨by omega, by omega⟩]; omega) (by rw [iI_toInt ⟨by omega, by omega⟩, k_12]; rfl) (by decide) ?_
      have h9 := law_rollBackTo C0 c hc (K8 hc)
      unfold LW at h9
      exact h9 be Ln P Ac Mo V B n N mx lg Qa Qk ql Qb Qc qm SP sn SG tl tp tq tac TA Ir Vm Ic Pm Am Dm Lm Qm Rm cn th sp ta ke on tw f0 H locs g_I hP hD hS _ hl
    by_cases k_13 : (sc xs (6 * c + 0) % 32) = 10
    · refine lv_tableIn (off := 782) (tgt := 822) hx hb dL_law_40 (by rw [iI_toInt ⟨by omega, by omega⟩]; omega) (by rw [iI_toInt ⟨by omega, by omega⟩]; omega) (by rw [iI_toInt ⟨by omega, by omega⟩, k_13]; rfl) (by decide) ?_
      have h9 := law_appendText C0 c hc (K8 hc)
      unfold LW at h9
      exact h9 be Ln P Ac Mo V B n N mx lg Qa Qk ql Qb Qc qm SP sn SG tl tp tq tac TA Ir Vm Ic Pm Am Dm Lm Qm Rm cn th sp ta ke on tw f0 H locs g_I hP hD hS _ hl
    by_cases k_14 : (sc xs (6 * c + 0) % 32) = 11
    · refine lv_tableIn (off := 838) (tgt := 878) hx hb dL_law_40 (by rw [iI_toInt ⟨by omega, by omega⟩]; omega) (by rw [iI_toInt ⟨by omega, by omega⟩]; omega) (by rw [iI_toInt ⟨by omega, by omega⟩, k_14]; rfl) (by decide) ?_
      have h9 := law_clearText C0 c hc (K8 hc)
      unfold LW at h9
      exact h9 be Ln P Ac Mo V B n N mx lg Qa Qk ql Qb Qc qm SP sn SG tl tp tq tac TA Ir Vm Ic Pm Am Dm Lm Qm Rm cn th sp ta ke on tw f0 H locs g_I hP hD hS _ hl
    by_cases k_15 : (sc xs (6 * c + 0) % 32) = 12
    · refine lv_tableIn (off := 851) (tgt := 891) hx hb dL_law_40 (by rw [iI_toInt ⟨by omega, by omega⟩]; omega) (by rw [iI_toInt ⟨by omega, by omega⟩]; omega) (by rw [iI_toInt ⟨by omega, by omega⟩, k_15]; rfl) (by decide) ?_
      have h9 := law_errorPosition C0 c hc (K8 hc)
      unfold LW at h9
      exact h9 be Ln P Ac Mo V B n N mx lg Qa Qk ql Qb Qc qm SP sn SG tl tp tq tac TA Ir Vm Ic Pm Am Dm Lm Qm Rm cn th sp ta ke on tw f0 H locs g_I hP hD hS _ hl
    by_cases k_16 : (sc xs (6 * c + 0) % 32) = 13
    · refine lv_tableIn (off := 864) (tgt := 904) hx hb dL_law_40 (by rw [iI_toInt ⟨by omega, by omega⟩]; omega) (by rw [iI_toInt ⟨by omega, by omega⟩]; omega) (by rw [iI_toInt ⟨by omega, by omega⟩, k_16]; rfl) (by decide) ?_
      have h9 := law_runText C0 c hc (K8 hc)
      unfold LW at h9
      exact h9 be Ln P Ac Mo V B n N mx lg Qa Qk ql Qb Qc qm SP sn SG tl tp tq tac TA Ir Vm Ic Pm Am Dm Lm Qm Rm cn th sp ta ke on tw f0 H locs g_I hP hD hS _ hl
    by_cases k_17 : (sc xs (6 * c + 0) % 32) = 14
    · refine lv_tableIn (off := 908) (tgt := 948) hx hb dL_law_40 (by rw [iI_toInt ⟨by omega, by omega⟩]; omega) (by rw [iI_toInt ⟨by omega, by omega⟩]; omega) (by rw [iI_toInt ⟨by omega, by omega⟩, k_17]; rfl) (by decide) ?_
      have h9 := law_exists C0 c hc (K8 hc)
      unfold LW at h9
      exact h9 be Ln P Ac Mo V B n N mx lg Qa Qk ql Qb Qc qm SP sn SG tl tp tq tac TA Ir Vm Ic Pm Am Dm Lm Qm Rm cn th sp ta ke on tw f0 H locs g_I hP hD hS _ hl
    by_cases k_18 : (sc xs (6 * c + 0) % 32) = 15
    · refine lv_tableIn (off := 983) (tgt := 1023) hx hb dL_law_40 (by rw [iI_toInt ⟨by omega, by omega⟩]; omega) (by rw [iI_toInt ⟨by omega, by omega⟩]; omega) (by rw [iI_toInt ⟨by omega, by omega⟩, k_18]; rfl) (by decide) ?_
      have h9 := law_value C0 c hc (K8 hc)
      unfold LW at h9
      exact h9 be Ln P Ac Mo V B n N mx lg Qa Qk ql Qb Qc qm SP sn SG tl tp tq tac TA Ir Vm Ic Pm Am Dm Lm Qm Rm cn th sp ta ke on tw f0 H locs g_I hP hD hS _ hl
    by_cases k_19 : (sc xs (6 * c + 0) % 32) = 16
    · refine lv_tableIn (off := 1063) (tgt := 1103) hx hb dL_law_40 (by rw [iI_toInt ⟨by omega, by omega⟩]; omega) (by rw [iI_toInt ⟨by omega, by omega⟩]; omega) (by rw [iI_toInt ⟨by omega, by omega⟩, k_19]; rfl) (by decide) ?_
      have h9 := law_rows C0 c hc (K8 hc)
      unfold LW at h9
      exact h9 be Ln P Ac Mo V B n N mx lg Qa Qk ql Qb Qc qm SP sn SG tl tp tq tac TA Ir Vm Ic Pm Am Dm Lm Qm Rm cn th sp ta ke on tw f0 H locs g_I hP hD hS _ hl
    by_cases k_20 : (sc xs (6 * c + 0) % 32) = 17
    · refine lv_tableIn (off := 1119) (tgt := 1159) hx hb dL_law_40 (by rw [iI_toInt ⟨by omega, by omega⟩]; omega) (by rw [iI_toInt ⟨by omega, by omega⟩]; omega) (by rw [iI_toInt ⟨by omega, by omega⟩, k_20]; rfl) (by decide) ?_
      have h9 := law_references C0 c hc (K8 hc)
      unfold LW at h9
      exact h9 be Ln P Ac Mo V B n N mx lg Qa Qk ql Qb Qc qm SP sn SG tl tp tq tac TA Ir Vm Ic Pm Am Dm Lm Qm Rm cn th sp ta ke on tw f0 H locs g_I hP hD hS _ hl
    by_cases k_21 : (sc xs (6 * c + 0) % 32) = 18
    · refine lv_tableIn (off := 1187) (tgt := 1227) hx hb dL_law_40 (by rw [iI_toInt ⟨by omega, by omega⟩]; omega) (by rw [iI_toInt ⟨by omega, by omega⟩]; omega) (by rw [iI_toInt ⟨by omega, by omega⟩, k_21]; rfl) (by decide) ?_
      have h9 := law_ancestors C0 c hc (K8 hc)
      unfold LW at h9
      exact h9 be Ln P Ac Mo V B n N mx lg Qa Qk ql Qb Qc qm SP sn SG tl tp tq tac TA Ir Vm Ic Pm Am Dm Lm Qm Rm cn th sp ta ke on tw f0 H locs g_I hP hD hS _ hl
    by_cases k_22 : (sc xs (6 * c + 0) % 32) = 19
    · refine lv_tableIn (off := 1255) (tgt := 1295) hx hb dL_law_40 (by rw [iI_toInt ⟨by omega, by omega⟩]; omega) (by rw [iI_toInt ⟨by omega, by omega⟩]; omega) (by rw [iI_toInt ⟨by omega, by omega⟩, k_22]; rfl) (by decide) ?_
      have h9 := law_constraint C0 c hc (K8 hc)
      unfold LW at h9
      exact h9 be Ln P Ac Mo V B n N mx lg Qa Qk ql Qb Qc qm SP sn SG tl tp tq tac TA Ir Vm Ic Pm Am Dm Lm Qm Rm cn th sp ta ke on tw f0 H locs g_I hP hD hS _ hl
    by_cases k_23 : (sc xs (6 * c + 0) % 32) = 20
    · refine lv_tableIn (off := 1335) (tgt := 1375) hx hb dL_law_40 (by rw [iI_toInt ⟨by omega, by omega⟩]; omega) (by rw [iI_toInt ⟨by omega, by omega⟩]; omega) (by rw [iI_toInt ⟨by omega, by omega⟩, k_23]; rfl) (by decide) ?_
      have h9 := law_constraints C0 c hc (K8 hc)
      unfold LW at h9
      exact h9 be Ln P Ac Mo V B n N mx lg Qa Qk ql Qb Qc qm SP sn SG tl tp tq tac TA Ir Vm Ic Pm Am Dm Lm Qm Rm cn th sp ta ke on tw f0 H locs g_I hP hD hS _ hl
    by_cases k_24 : (sc xs (6 * c + 0) % 32) = 21
    · refine lv_tableIn (off := 1348) (tgt := 1388) hx hb dL_law_40 (by rw [iI_toInt ⟨by omega, by omega⟩]; omega) (by rw [iI_toInt ⟨by omega, by omega⟩]; omega) (by rw [iI_toInt ⟨by omega, by omega⟩, k_24]; rfl) (by decide) ?_
      have h9 := law_firstViolation C0 c hc (K8 hc)
      unfold LW at h9
      exact h9 be Ln P Ac Mo V B n N mx lg Qa Qk ql Qb Qc qm SP sn SG tl tp tq tac TA Ir Vm Ic Pm Am Dm Lm Qm Rm cn th sp ta ke on tw f0 H locs g_I hP hD hS _ hl
    by_cases k_25 : (sc xs (6 * c + 0) % 32) = 22
    · refine lv_tableIn (off := 1361) (tgt := 1401) hx hb dL_law_40 (by rw [iI_toInt ⟨by omega, by omega⟩]; omega) (by rw [iI_toInt ⟨by omega, by omega⟩]; omega) (by rw [iI_toInt ⟨by omega, by omega⟩, k_25]; rfl) (by decide) ?_
      have h9 := law_ifDeleted C0 c hc (K8 hc)
      unfold LW at h9
      exact h9 be Ln P Ac Mo V B n N mx lg Qa Qk ql Qb Qc qm SP sn SG tl tp tq tac TA Ir Vm Ic Pm Am Dm Lm Qm Rm cn th sp ta ke on tw f0 H locs g_I hP hD hS _ hl
    by_cases k_26 : (sc xs (6 * c + 0) % 32) = 23
    · refine lv_tableIn (off := 1429) (tgt := 1469) hx hb dL_law_40 (by rw [iI_toInt ⟨by omega, by omega⟩]; omega) (by rw [iI_toInt ⟨by omega, by omega⟩]; omega) (by rw [iI_toInt ⟨by omega, by omega⟩, k_26]; rfl) (by decide) ?_
      have h9 := law_changes C0 c hc (K8 hc)
      unfold LW at h9
      exact h9 be Ln P Ac Mo V B n N mx lg Qa Qk ql Qb Qc qm SP sn SG tl tp tq tac TA Ir Vm Ic Pm Am Dm Lm Qm Rm cn th sp ta ke on tw f0 H locs g_I hP hD hS _ hl
    by_cases k_27 : (sc xs (6 * c + 0) % 32) = 24
    · refine lv_tableIn (off := 1442) (tgt := 1482) hx hb dL_law_40 (by rw [iI_toInt ⟨by omega, by omega⟩]; omega) (by rw [iI_toInt ⟨by omega, by omega⟩]; omega) (by rw [iI_toInt ⟨by omega, by omega⟩, k_27]; rfl) (by decide) ?_
      have h9 := law_savePoints C0 c hc (K8 hc)
      unfold LW at h9
      exact h9 be Ln P Ac Mo V B n N mx lg Qa Qk ql Qb Qc qm SP sn SG tl tp tq tac TA Ir Vm Ic Pm Am Dm Lm Qm Rm cn th sp ta ke on tw f0 H locs g_I hP hD hS _ hl
    by_cases k_28 : (sc xs (6 * c + 0) % 32) = 25
    · refine lv_tableIn (off := 1455) (tgt := 1495) hx hb dL_law_40 (by rw [iI_toInt ⟨by omega, by omega⟩]; omega) (by rw [iI_toInt ⟨by omega, by omega⟩]; omega) (by rw [iI_toInt ⟨by omega, by omega⟩, k_28]; rfl) (by decide) ?_
      have h9 := law_textLength C0 c hc (K8 hc)
      unfold LW at h9
      exact h9 be Ln P Ac Mo V B n N mx lg Qa Qk ql Qb Qc qm SP sn SG tl tp tq tac TA Ir Vm Ic Pm Am Dm Lm Qm Rm cn th sp ta ke on tw f0 H locs g_I hP hD hS _ hl
    refine lv_tableOut (tgt := 1508) hx hb dL_law_40 (by rw [iI_toInt ⟨by omega, by omega⟩]; omega) (by decide) ?_
    have h9 := K8 hc
    unfold LW at h9
    refine W.widen (k := 40 + (Ln - 240) + (c + 1)) (n := 20000 + 2 * (Ln - 240) + 6 * (c + 1)) (by omega) (by omega) ?_
    have hLI := LI_c g_I
    rw [← e_c1] at hLI
    exact h9 be Ln P Ac Mo V B n N mx lg Qa Qk ql Qb Qc qm SP sn SG tl tp tq tac TA Ir Vm Ic Pm Am Dm Lm Qm Rm cn th sp ta ke on tw f0 H locs hLI hP hD hS _ hl
