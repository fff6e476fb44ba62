theorem reV_pk {V : Int → Int} {r a b : Int} (h : 0 ≤ r ∧ r < 80 ∧ -2 ≤ a ∧ a ≤ 19 ∧ -2 ≤ b ∧ b ≤ 19) : reV V (pk r (a - -2) (b - -2)) = wrV V r a b := by
  unfold reV wrV
  have e1 : pk r (a - -2) (b - -2) / 1024 = r := by unfold pk; omega
  have e2 : pk r (a - -2) (b - -2) / 32 % 32 + -2 = a := by unfold pk; omega
  have e3 : pk r (a - -2) (b - -2) % 32 + -2 = b := by unfold pk; omega
  rw [e1, e2, e3]
theorem unV_L : ∀ {k : Nat} {lg : Lg} {B V : Int → Int} {n : Int}, isL lg B n → k ≤ lg.length → unV B k V n = (unL k V lg).1 ∧ isL (unL k V lg).2 B (n - k)
  | 0, lg, B, V, n, h, _ => ⟨rfl, by rw [show n - ((0 : Nat) : Int) = n by omega]; exact h⟩
  | k + 1, [], B, V, n, h, hk => by simp at hk
  | k + 1, e :: lg, B, V, n, h, hk => by
    have h1 := unV_L (k := k) (lg := lg) (B := B) (V := reE V e) (n := n - 1) h.2.2 (by simp at hk; omega)
    rw [unV, unL, h.1, reV_pk h.2.1]
    refine ⟨h1.1, ?_⟩
    rw [show n - ((k + 1 : Nat) : Int) = n - 1 - (k : Int) by omega]
    exact h1.2
theorem okH_un {N : Int} : ∀ {k : Nat} {lg : Lg} {V : Int → Int}, okH N lg V → okH N (unL k V lg).2 (unL k V lg).1
  | 0, _, _, h => h
  | _ + 1, [], _, h => h
  | k + 1, _ :: _, _, h => okH_un (k := k) h.2
theorem unL_len : ∀ (k : Nat) (V : Int → Int) (lg : Lg), (unL k V lg).2.length = lg.length - k
  | 0, _, _ => rfl
  | k + 1, _, [] => by simp [unL]
  | k + 1, V, e :: lg => by
    rw [unL, unL_len k]
    simp
noncomputable def enC (P Mo V : Int → Int) (ans : Int) : Int := if ans ≤ -10 then ans else fR (badC 0 Mo P V) 8 0
noncomputable def enF (P Mo V : Int → Int) (lg : Lg) (n bf ans : Int) : Int × (Int → Int) × Int := if enC P Mo V ans = 0 then (ans, V, n) else (enC P Mo V ans, (unL (unS n bf) V lg).1, bf)
/-- a statement's end: what it made stays, or nothing does -/
noncomputable def stmF (P Mo V : Int → Int) (lg : Lg) (V1 : Int → Int) (lg1 : Lg) (ans : Int) : Int × (Int → Int) × Lg := if enC P Mo V1 ans = 0 then (ans, V1, lg1) else (enC P Mo V1 ans, V, lg)
theorem stm_post {P Mo V V1 V2 B : Int → Int} {lg lg1 : Lg} {n n1 n2 v ans N : Int} (hE : extL V lg V1 lg1) (hL : isL lg1 B n1) (hH : okH N lg1 V1) (hn : n = (lg.length : Int)) (hq : (v, V2, n2) = enF P Mo V1 lg1 n1 n ans) : ∃ lg2 : Lg, (v, V2, lg2) = stmF P Mo V lg V1 lg1 ans ∧ isL lg2 B n2 ∧ okH N lg2 V2 := by
  unfold enF at hq
  unfold stmF
  by_cases hc : enC P Mo V1 ans = 0
  · rw [if_pos hc] at hq ⊢
    cases hq
    exact ⟨lg1, rfl, hL, hH⟩
  · rw [if_neg hc] at hq ⊢
    obtain ⟨k, h1, h2⟩ := hE
    have h3 := isL_n hL
    have h4 : unS n1 n = k := by unfold unS; omega
    rw [h4, h2] at hq
    cases hq
    have h5 := (unV_L (k := k) (V := V1) hL (by omega)).2
    have h6 := okH_un (k := k) hH
    rw [h2] at h5 h6
    exact ⟨lg, rfl, by rw [show n = n1 - (k : Int) by omega]; exact h5, h6⟩
noncomputable def xLn (q : Prop) (Ln : Nat) (n : Int) : Nat := @ite Nat q (Classical.propDecidable q) (gLn Ln n) Ln
theorem xLn_t {q : Prop} {Ln : Nat} {n : Int} (h : q) : xLn q Ln n = gLn Ln n := if_pos h
theorem xLn_f {q : Prop} {Ln : Nat} {n : Int} (h : ¬ q) : xLn q Ln n = Ln := if_neg h
theorem gLn_room {Ln : Nat} {n : Int} (h1 : 240 ≤ Ln) (h2 : n ≤ (Ln : Int)) (h3 : n ≤ 16384) : n + 240 ≤ (gLn Ln n : Int) := by
  unfold gLn
  split <;> omega
theorem gLn_le {Ln : Nat} {n : Int} (h : Ln ≤ 61440) : gLn Ln n ≤ 61440 ∨ gLn Ln n ≤ 65534 := by
  unfold gLn
  split <;> omega
theorem gLn_lt {Ln : Nat} {n : Int} (h : Ln < 100000) : gLn Ln n < 100000 := by
  unfold gLn
  split <;> omega
noncomputable def insF (P Mo V : Int → Int) (lg : Lg) (r a b : Int) : Int × (Int → Int) × Lg := @ite _ (hasR V r) (Classical.propDecidable _) (-3, V, lg) (stmF P Mo V lg (wrV V r a b) (pe V r :: lg) 1)
noncomputable def updF (P Mo V : Int → Int) (lg : Lg) (r c v : Int) : Int × (Int → Int) × Lg := @ite _ (hasR V r) (Classical.propDecidable _) (stmF P Mo V lg (wcV V r c v) (pe V r :: lg) 1) (-3, V, lg)
noncomputable def delF (P Ac Mo V : Int → Int) (lg : Lg) (r : Int) : Int × (Int → Int) × Lg := @ite _ (hasR V r) (Classical.propDecidable _) (stmF P Mo V lg (delL P Ac 81 0 (V, lg, [r])).2.1 (delL P Ac 81 0 (V, lg, [r])).2.2.1 (delL P Ac 81 0 (V, lg, [r])).1) (-3, V, lg)
theorem okH_ins {N : Int} {lg : Lg} {V : Int → Int} {r a b : Int} (h : okH N lg V) (hr : 0 ≤ r ∧ r < 80) (ha : -1 ≤ a ∧ a ≤ 19 ∧ -1 ≤ b ∧ b ≤ 19) : okH (N + 4) (pe V r :: lg) (wrV V r a b) := by
  have h1 := okH_top h
  have h2 := potV_b (V (r * 2)) (V (r * 2 + 1))
  have h3 := potV_b a b
  have h4 := pot_b V
  have g : okD 2000000 V (lg.length : Int) → okD 2000000 (wrV V r a b) ((lg.length : Int) + 1) → okH (N + 4) (pe V r :: lg) (wrV V r a b) := fun _ g => ⟨⟨g.1, g.2.1, by rw [pot_wr hr.1 hr.2]; omega⟩, by rw [reE_pe]; exact okH_mono (by omega) h⟩
  refine ⟨⟨?_, ?_, by rw [pot_wr hr.1 hr.2]; omega⟩, by rw [reE_pe]; exact okH_mono (by omega) h⟩
  · intro j q1 q2
    by_cases e1 : j = r * 2
    · rw [e1, wrV_l]; omega
    · by_cases e2 : j = r * 2 + 1
      · rw [e2, wrV_r]; omega
      · rw [wrV_o e1 e2]; exact h1.1 j q1 q2
  · intro x q1 q2
    by_cases e : x = r
    · rw [e, wrV_l, wrV_r]; omega
    · rw [wrV_o (by omega) (by omega), wrV_o (by omega) (by omega)]; exact h1.2.1 x q1 q2
theorem has_v {N : Int} {lg : Lg} {V : Int → Int} {r : Int} (h : okH N lg V) (hr : hasR V r) : -1 ≤ V (r * 2) ∧ V (r * 2) ≤ 19 ∧ -1 ≤ V (r * 2 + 1) ∧ V (r * 2 + 1) ≤ 19 := by
  have h1 := okH_top h
  obtain ⟨k1, k2, k3⟩ := hr
  have m1 := h1.1 (r * 2) (by omega) (by omega)
  have m2 := h1.1 (r * 2 + 1) (by omega) (by omega)
  have m3 := h1.2.1 r k1 k2
  omega
theorem wcV_eq {V : Int → Int} {r c v : Int} (hr : 0 ≤ r ∧ r < 80) : wcV V r c v = wrV V r (if c = 0 then v else V (r * 2)) (if c = 1 then v else V (r * 2 + 1)) := by
  unfold wcV
  rw [vOf_at (by omega), vOf_at (by omega), Int.add_zero]
theorem okH_upd {N : Int} {lg : Lg} {V : Int → Int} {r c v : Int} (h : okH N lg V) (hr : hasR V r) (hc : c = 0 ∨ c = 1) (ha : -1 ≤ v ∧ v ≤ 19) : okH (N + 4) (pe V r :: lg) (wcV V r c v) := by
  have h1 := has_v h hr
  rw [wcV_eq ⟨hr.1, hr.2.1⟩]
  refine okH_ins h ⟨hr.1, hr.2.1⟩ ?_
  rcases hc with rfl | rfl
  · simp; omega
  · simp; omega
theorem insF_t {P Mo V : Int → Int} {lg : Lg} {r a b : Int} (h : hasR V r) : insF P Mo V lg r a b = (-3, V, lg) := if_pos h
theorem insF_f {P Mo V : Int → Int} {lg : Lg} {r a b : Int} (h : ¬ hasR V r) : insF P Mo V lg r a b = stmF P Mo V lg (wrV V r a b) (pe V r :: lg) 1 := if_neg h
theorem updF_t {P Mo V : Int → Int} {lg : Lg} {r a b : Int} (h : hasR V r) : updF P Mo V lg r a b = stmF P Mo V lg (wcV V r a b) (pe V r :: lg) 1 := if_pos h
theorem updF_f {P Mo V : Int → Int} {lg : Lg} {r a b : Int} (h : ¬ hasR V r) : updF P Mo V lg r a b = (-3, V, lg) := if_neg h
theorem delF_t {P Ac Mo V : Int → Int} {lg : Lg} {r : Int} (h : hasR V r) : delF P Ac Mo V lg r = stmF P Mo V lg (delL P Ac 81 0 (V, lg, [r])).2.1 (delL P Ac 81 0 (V, lg, [r])).2.2.1 (delL P Ac 81 0 (V, lg, [r])).1 := if_pos h
theorem delF_f {P Ac Mo V : Int → Int} {lg : Lg} {r : Int} (h : ¬ hasR V r) : delF P Ac Mo V lg r = (-3, V, lg) := if_neg h
theorem enC_b (P Mo V : Int → Int) (ans : Int) (h : -20 < ans) : enC P Mo V ans = 0 ∨ (-20 < enC P Mo V ans ∧ enC P Mo V ans ≤ -10) := by
  have := fR_b (badC 0 Mo P V) 8 0
  unfold enC
  split <;> omega
theorem enF_v {P Mo V1 V2 : Int → Int} {lg1 : Lg} {n1 n n2 v ans : Int} (h : (v, V2, n2) = enF P Mo V1 lg1 n1 n ans) (ha : -20 < ans) : v = ans ∨ (-20 < v ∧ v ≤ -10) := by
  have h1 := enC_b P Mo V1 ans ha
  unfold enF at h
  split at h
  · cases h; exact Or.inl rfl
  · cases h; exact Or.inr (by omega)
theorem enF_n {P Mo V1 V2 : Int → Int} {lg1 : Lg} {n1 n n2 v ans : Int} (h : (v, V2, n2) = enF P Mo V1 lg1 n1 n ans) : n2 = n1 ∨ n2 = n := by
  unfold enF at h
  split at h
  · cases h; exact Or.inl rfl
  · cases h; exact Or.inr rfl
theorem enF_ib {P Mo V1 V2 : Int → Int} {lg1 : Lg} {n1 n n2 v ans : Int} (h : (v, V2, n2) = enF P Mo V1 lg1 n1 n ans) (ha : -20 < ans ∧ ans < 2147483648) : ib v := by
  have h1 := enC_b P Mo V1 ans ha.1
  unfold enF at h
  split at h
  · cases h
    exact ⟨by omega, by omega⟩
  · cases h
    exact ⟨by omega, by omega⟩
theorem extL_len {V V1 : Int → Int} {lg lg1 : Lg} (h : extL V lg V1 lg1) : lg.length ≤ lg1.length := by
  obtain ⟨k, h1, -⟩ := h
  omega
theorem stm_ext {P Mo V V1 V2 : Int → Int} {lg lg1 lg2 : Lg} {v ans : Int} (h : extL V lg V1 lg1) (k : (v, V2, lg2) = stmF P Mo V lg V1 lg1 ans) : extL V lg V2 lg2 := by
  unfold stmF at k
  split at k
  · cases k
    exact h
  · cases k
    exact extL_rf _ _

set_option maxHeartbeats 600000 in
set_option maxRecDepth 100000 in
theorem c_X7_endStatement (l : Launch) (D : va_G) (cI cZ cC : ClassId) (sz : Nat) (ad : Nat → Nat) (be Ln : Nat) (P Mo V B : Int → Int) (n N : Int) (lg : Lg) (bf ans : Int) (g_P : ∀ j : Int, 0 ≤ j → j < 8 → P j = -2 ∨ (0 ≤ P j ∧ P j < 4)) (g_Mo : ∀ j : Int, 0 ≤ j → j < 8 → Mo j = 0 ∨ Mo j = 1) (g_H : okH N lg V) (g_L : isL lg B n) (g_n : n ≤ (Ln : Int) ∧ Ln < 100000) (g_bf : 0 ≤ bf ∧ bf ≤ n) (g_ans : ib ans) : zMi l yX7_endStatement wsX7_endStatement ({ frames := 3, cells := 0, slots := 0, locals := 71 }) D cI cZ cC [(ad 0, .inr (7, [.ref (ad 1), .ref (ad 4), .ref (ad 8), .ref (ad 12), .ref (ad 16), .ref (ad 18)])), (ad 4, .inr (0, [.ref (ad 1), .ref (ad 5), .ref (ad 6), .ref (ad 7)])), (ad 5, .inl (cI, 8, .inl (iA (P)))), (ad 7, .inl (cZ, 8, .inl (iA (Mo)))), (ad 1, .inr (4, [.ref (ad 2), .ref (be), .int (iI (n))])), (ad 2, .inl (cI, 160, .inl (iA (V)))), (be, .inl (cI, Ln, .inl (iA (B))))] sz [.ref (ad 0), .int (iI (bf)), .int (iI (ans))] (0) (0) (fun (u : (Int → Int) × Int) => [(ad 0, .inr (7, [.ref (ad 1), .ref (ad 4), .ref (ad 8), .ref (ad 12), .ref (ad 16), .ref (ad 18)])), (ad 4, .inr (0, [.ref (ad 1), .ref (ad 5), .ref (ad 6), .ref (ad 7)])), (ad 5, .inl (cI, 8, .inl (iA (P)))), (ad 7, .inl (cZ, 8, .inl (iA (Mo)))), (ad 1, .inr (4, [.ref (ad 2), .ref (be), .int (iI (u.2))])), (ad 2, .inl (cI, 160, .inl (iA (u.1)))), (be, .inl (cI, Ln, .inl (iA (B))))]) (fun v (u : (Int → Int) × Int) => (v, u.1, u.2) = enF P Mo V lg n bf ans) := by
  refine z_ofMi (cc := cX7_endStatement) (maxL := 4) (ret := (some .int)) RX7 (by decide +kernel) rfl rfl (Nat.le_of_ble_eq_true rfl) ?_
  intro p0 en0 s0 m0 args0 below0 meth0 c0 ls AA hx hb hr hlocks hml hown hts hP hD hS hA hK hl
  have hl : lv_has ls 4 [(0, .ref (ad 0)), (1, .int (iI (bf))), (2, .int (iI (ans)))] := hl
  obtain ⟨H, hH⟩ : ∃ H, H = s0.heap := ⟨_, rfl⟩
  obtain ⟨locs, hlo⟩ : ∃ locs : List Loc, locs = [] := ⟨_, rfl⟩
  have hP : va_P D vwCl [(ad 0, .inr (7, [.ref (ad 1), .ref (ad 4), .ref (ad 8), .ref (ad 12), .ref (ad 16), .ref (ad 18)])), (ad 4, .inr (0, [.ref (ad 1), .ref (ad 5), .ref (ad 6), .ref (ad 7)])), (ad 5, .inl (cI, 8, .inl (iA (P)))), (ad 7, .inl (cZ, 8, .inl (iA (Mo)))), (ad 1, .inr (4, [.ref (ad 2), .ref (be), .int (iI (n))])), (ad 2, .inl (cI, 160, .inl (iA (V)))), (be, .inl (cI, Ln, .inl (iA (B))))] H := by rw [hH]; exact hP
  have hS : va_S AA s0.heap H locs := by rw [hH, hlo]; exact hS
  suffices hW : W p0 l en0 (headSpec wsX7_endStatement ({ frames := 3, cells := 0, slots := 0, locals := 71 })).room s0 m0 args0 below0 meth0 c0 H locs 0 0 (QMi below0 D ((fun (u : (Int → Int) × Int) => [(ad 0, .inr (7, [.ref (ad 1), .ref (ad 4), .ref (ad 8), .ref (ad 12), .ref (ad 16), .ref (ad 18)])), (ad 4, .inr (0, [.ref (ad 1), .ref (ad 5), .ref (ad 6), .ref (ad 7)])), (ad 5, .inl (cI, 8, .inl (iA (P)))), (ad 7, .inl (cZ, 8, .inl (iA (Mo)))), (ad 1, .inr (4, [.ref (ad 2), .ref (be), .int (iI (u.2))])), (ad 2, .inl (cI, 160, .inl (iA (u.1)))), (be, .inl (cI, Ln, .inl (iA (B))))])) (fun v (u : (Int → Int) × Int) => (v, u.1, u.2) = enF P Mo V lg n bf ans) AA args0 s0 (0) (0)) (F0 m0 0 ls []) by rw [hH, hlo] at hW; exact hW
  have g_V := (okH_top g_H).1
  have g_nn := isL_n g_L
  refine lv_iload_n hx hb dX7_endStatement_0 rfl (lv_at hl 2 rfl) ?_
  refine lv_bipush (v := iI (-10)) hx hb dX7_endStatement_1 (by decide) ?_
  refine z_icmp_gt (tgt := 10) hx hb dX7_endStatement_3 (by decide) ⟨⟨by omega, by omega⟩, ⟨by omega, by omega⟩⟩ (fun c_1 => ?_) (fun c_1 => ?_)
  · refine lv_aload_n hx hb dX7_endStatement_10 rfl (lv_at hl 0 rfl) ?_
    refine va_get (D := D) (ci := 7) (v := .ref (ad 4)) (C := RX7) (T := TX7) (N := 6) hx hb hts (fun _ h => List.mem_cons_of_mem _ (List.mem_append_left _ (List.mem_append_left _ (List.mem_append_right _ (h))))) hown hK.1 hP 0 rfl rfl 1 (by decide) (hts (.fieldLink RX7 21 "ForeignKeyStore" "constraintSet" "LForeignKeyStore$Constraints;") (List.mem_of_getElem? (i := 1) rfl)) (fun _ h9 => h9) rfl dX7_endStatement_11 ?_
    refine lv_iconst (v := iI (0)) hx hb dX7_endStatement_14 rfl ?_
    refine z_roV (As := [.int (iI (0))]) (rest := []) ⟨hx, hb, hml, hown, hts⟩ (c_X0_firstRefusal l D cI cZ cC (ad) (be) (n) (P) (Mo) (V) (0) (by first | assumption | omega) (by first | assumption | omega) (by first | assumption | omega) (by first | assumption | omega)) (cwV 1 hts gX7_endStatement_X0_firstRefusal rfl rfl rfl (by decide +kernel) ⟨Nat.le_of_ble_eq_true rfl, Nat.le_of_ble_eq_true rfl⟩) hP hK [1, 2, 3, 4, 5] rfl 1 0 rfl rfl rfl rfl hl.1 rfl (Nat.le_of_ble_eq_true rfl) dX7_endStatement_15 ⟨by omega, by omega⟩ ?_
    have hf_2 := fR_b (badC 0 Mo P V) 8 0
    refine lv_istore_n (lv' := [(3, .int (iI ((fR (badC 0 Mo P V) 8 0)))), (0, .ref (ad 0)), (1, .int (iI (bf))), (2, .int (iI (ans)))]) hx hb dX7_endStatement_18 rfl hl (by decide) rfl (fun ls hl => ?_)
    refine lv_iload_n hx hb dX7_endStatement_19 rfl (lv_at hl 0 rfl) ?_
    refine z_if_ne (tgt := 25) hx hb dX7_endStatement_20 (by decide) ⟨by omega, by omega⟩ (fun c_3 => ?_) (fun c_3 => ?_)
    · refine lv_aload_n hx hb dX7_endStatement_25 rfl (lv_at hl 1 rfl) ?_
      refine va_get (D := D) (ci := 7) (v := .ref (ad 1)) (C := RX7) (T := TX7) (N := 6) hx hb hts (fun _ h => List.mem_cons_of_mem _ (List.mem_append_left _ (List.mem_append_left _ (List.mem_append_right _ (h))))) hown hK.1 hP 0 rfl rfl 0 (by decide) (hts (.fieldLink RX7 12 "ForeignKeyStore" "rowStore" "LForeignKeyStore$Rows;") (List.mem_of_getElem? (i := 2) rfl)) (fun _ h9 => h9) rfl dX7_endStatement_26 ?_
      refine lv_iload_n hx hb dX7_endStatement_29 rfl (lv_at hl 2 rfl) ?_
      refine z_muV (As := [.int (iI (bf))]) (rest := []) (wr := [(ad 0, .inr (7, [.ref (ad 1), .ref (ad 4), .ref (ad 8), .ref (ad 12), .ref (ad 16), .ref (ad 18)])), (ad 4, .inr (0, [.ref (ad 1), .ref (ad 5), .ref (ad 6), .ref (ad 7)])), (ad 5, .inl (cI, 8, .inl (iA (P)))), (ad 7, .inl (cZ, 8, .inl (iA (Mo))))]) (ws2 := (fun (u : Unit) => [(ad 0, .inr (7, [.ref (ad 1), .ref (ad 4), .ref (ad 8), .ref (ad 12), .ref (ad 16), .ref (ad 18)])), (ad 4, .inr (0, [.ref (ad 1), .ref (ad 5), .ref (ad 6), .ref (ad 7)])), (ad 5, .inl (cI, 8, .inl (iA (P)))), (ad 7, .inl (cZ, 8, .inl (iA (Mo)))), (ad 1, .inr (4, [.ref (ad 2), .ref (be), .int (iI (n - (unS n bf : Int)))])), (ad 2, .inl (cI, 160, .inl (iA (unV B (unS n bf) V n)))), (be, .inl (cI, Ln, .inl (iA (B))))])) ⟨hx, hb, hml, hown, hts⟩ (c_X4_undoTo l D cI cZ cC H.size (ad) (be) (Ln) (n) (V) (B) (bf) (by first | assumption | omega) (by first | assumption | omega) (isL_b g_L)) (cwV 1 hts gX7_endStatement_X4_undoTo rfl rfl rfl (by decide +kernel) ⟨Nat.le_of_ble_eq_true rfl, Nat.le_of_ble_eq_true rfl⟩) hP hD hS hA hK [4, 5, 6] [0, 1, 2, 3] [0, 1, 2, 3, 4, 5, 6] rfl (by decide) rfl (by decide) (by decide) (by decide) (fun _ => rfl) 4 4 rfl rfl rfl rfl hl.1 rfl (Nat.le_of_ble_eq_true rfl) dX7_endStatement_30 ⟨by omega, by omega⟩ (fun r_5 u H locs hq_4 hP hD hS => ?_)
      have hP : va_P D vwCl [(ad 0, .inr (7, [.ref (ad 1), .ref (ad 4), .ref (ad 8), .ref (ad 12), .ref (ad 16), .ref (ad 18)])), (ad 4, .inr (0, [.ref (ad 1), .ref (ad 5), .ref (ad 6), .ref (ad 7)])), (ad 5, .inl (cI, 8, .inl (iA (P)))), (ad 7, .inl (cZ, 8, .inl (iA (Mo)))), (ad 1, .inr (4, [.ref (ad 2), .ref (be), .int (iI (n - (unS n bf : Int)))])), (ad 2, .inl (cI, 160, .inl (iA (unV B (unS n bf) V n)))), (be, .inl (cI, Ln, .inl (iA (B))))] H := hP
      have hD : va_D AA [(ad 0, .inr (7, [.ref (ad 1), .ref (ad 4), .ref (ad 8), .ref (ad 12), .ref (ad 16), .ref (ad 18)])), (ad 4, .inr (0, [.ref (ad 1), .ref (ad 5), .ref (ad 6), .ref (ad 7)])), (ad 5, .inl (cI, 8, .inl (iA (P)))), (ad 7, .inl (cZ, 8, .inl (iA (Mo)))), (ad 1, .inr (4, [.ref (ad 2), .ref (be), .int (iI (n - (unS n bf : Int)))])), (ad 2, .inl (cI, 160, .inl (iA (unV B (unS n bf) V n)))), (be, .inl (cI, Ln, .inl (iA (B))))] := hD
      try dsimp only at hq_4
      obtain ⟨hv9, hq_4⟩ := hq_4
      have hv9 := hv9.symm
      subst hv9
      refine lv_pop hx hb dX7_endStatement_33 rfl ?_
      refine lv_iload_n hx hb dX7_endStatement_34 rfl (lv_at hl 0 rfl) ?_
      have hz := (unV_L (k := unS n bf) (V := V) g_L (by unfold unS; omega)).1
      rw [hz, show n - (unS n bf : Int) = bf by unfold unS; omega] at hP hD
      refine z_mret (((unL (unS n bf) V lg).1, bf)) hx hb hr hlocks dX7_endStatement_35 hP hD hS ?_
      have h_c : enC P Mo V ans = (fR (badC 0 Mo P V) 8 0) := by
        unfold enC
        rw [if_neg (by omega)]
      unfold enF
      rw [if_neg (by rw [h_c]; omega), h_c]
    · refine lv_iload_n hx hb dX7_endStatement_23 rfl (lv_at hl 3 rfl) ?_
      
      refine z_mret ((V, n)) hx hb hr hlocks dX7_endStatement_24 hP hD hS ?_
      have h_c : enC P Mo V ans = 0 := by
        unfold enC
        rw [if_neg (by omega)]
        omega
      unfold enF
      rw [if_pos h_c]
  · refine lv_iload_n hx hb dX7_endStatement_6 rfl (lv_at hl 2 rfl) ?_
    refine lv_goto (tgt := 18) hx hb dX7_endStatement_7 (by decide) ?_
    refine lv_istore_n (lv' := [(3, .int (iI (ans))), (0, .ref (ad 0)), (1, .int (iI (bf))), (2, .int (iI (ans)))]) hx hb dX7_endStatement_18 rfl hl (by decide) rfl (fun ls hl => ?_)
    refine lv_iload_n hx hb dX7_endStatement_19 rfl (lv_at hl 0 rfl) ?_
    refine z_if_ne (tgt := 25) hx hb dX7_endStatement_20 (by decide) ⟨by omega, by omega⟩ (fun c_6 => ?_) (fun c_6 => ?_)
    · refine lv_aload_n hx hb dX7_endStatement_25 rfl (lv_at hl 1 rfl) ?_
      refine va_get (D := D) (ci := 7) (v := .ref (ad 1)) (C := RX7) (T := TX7) (N := 6) hx hb hts (fun _ h => List.mem_cons_of_mem _ (List.mem_append_left _ (List.mem_append_left _ (List.mem_append_right _ (h))))) hown hK.1 hP 0 rfl rfl 0 (by decide) (hts (.fieldLink RX7 12 "ForeignKeyStore" "rowStore" "LForeignKeyStore$Rows;") (List.mem_of_getElem? (i := 2) rfl)) (fun _ h9 => h9) rfl dX7_endStatement_26 ?_
      refine lv_iload_n hx hb dX7_endStatement_29 rfl (lv_at hl 2 rfl) ?_
      refine z_muV (As := [.int (iI (bf))]) (rest := []) (wr := [(ad 0, .inr (7, [.ref (ad 1), .ref (ad 4), .ref (ad 8), .ref (ad 12), .ref (ad 16), .ref (ad 18)])), (ad 4, .inr (0, [.ref (ad 1), .ref (ad 5), .ref (ad 6), .ref (ad 7)])), (ad 5, .inl (cI, 8, .inl (iA (P)))), (ad 7, .inl (cZ, 8, .inl (iA (Mo))))]) (ws2 := (fun (u : Unit) => [(ad 0, .inr (7, [.ref (ad 1), .ref (ad 4), .ref (ad 8), .ref (ad 12), .ref (ad 16), .ref (ad 18)])), (ad 4, .inr (0, [.ref (ad 1), .ref (ad 5), .ref (ad 6), .ref (ad 7)])), (ad 5, .inl (cI, 8, .inl (iA (P)))), (ad 7, .inl (cZ, 8, .inl (iA (Mo)))), (ad 1, .inr (4, [.ref (ad 2), .ref (be), .int (iI (n - (unS n bf : Int)))])), (ad 2, .inl (cI, 160, .inl (iA (unV B (unS n bf) V n)))), (be, .inl (cI, Ln, .inl (iA (B))))])) ⟨hx, hb, hml, hown, hts⟩ (c_X4_undoTo l D cI cZ cC H.size (ad) (be) (Ln) (n) (V) (B) (bf) (by first | assumption | omega) (by first | assumption | omega) (isL_b g_L)) (cwV 1 hts gX7_endStatement_X4_undoTo rfl rfl rfl (by decide +kernel) ⟨Nat.le_of_ble_eq_true rfl, Nat.le_of_ble_eq_true rfl⟩) hP hD hS hA hK [4, 5, 6] [0, 1, 2, 3] [0, 1, 2, 3, 4, 5, 6] rfl (by decide) rfl (by decide) (by decide) (by decide) (fun _ => rfl) 4 4 rfl rfl rfl rfl hl.1 rfl (Nat.le_of_ble_eq_true rfl) dX7_endStatement_30 ⟨by omega, by omega⟩ (fun r_8 u H locs hq_7 hP hD hS => ?_)
      have hP : va_P D vwCl [(ad 0, .inr (7, [.ref (ad 1), .ref (ad 4), .ref (ad 8), .ref (ad 12), .ref (ad 16), .ref (ad 18)])), (ad 4, .inr (0, [.ref (ad 1), .ref (ad 5), .ref (ad 6), .ref (ad 7)])), (ad 5, .inl (cI, 8, .inl (iA (P)))), (ad 7, .inl (cZ, 8, .inl (iA (Mo)))), (ad 1, .inr (4, [.ref (ad 2), .ref (be), .int (iI (n - (unS n bf : Int)))])), (ad 2, .inl (cI, 160, .inl (iA (unV B (unS n bf) V n)))), (be, .inl (cI, Ln, .inl (iA (B))))] H := hP
      have hD : va_D AA [(ad 0, .inr (7, [.ref (ad 1), .ref (ad 4), .ref (ad 8), .ref (ad 12), .ref (ad 16), .ref (ad 18)])), (ad 4, .inr (0, [.ref (ad 1), .ref (ad 5), .ref (ad 6), .ref (ad 7)])), (ad 5, .inl (cI, 8, .inl (iA (P)))), (ad 7, .inl (cZ, 8, .inl (iA (Mo)))), (ad 1, .inr (4, [.ref (ad 2), .ref (be), .int (iI (n - (unS n bf : Int)))])), (ad 2, .inl (cI, 160, .inl (iA (unV B (unS n bf) V n)))), (be, .inl (cI, Ln, .inl (iA (B))))] := hD
      try dsimp only at hq_7
      obtain ⟨hv9, hq_7⟩ := hq_7
      have hv9 := hv9.symm
      subst hv9
      refine lv_pop hx hb dX7_endStatement_33 rfl ?_
      refine lv_iload_n hx hb dX7_endStatement_34 rfl (lv_at hl 0 rfl) ?_
      have hz := (unV_L (k := unS n bf) (V := V) g_L (by unfold unS; omega)).1
      rw [hz, show n - (unS n bf : Int) = bf by unfold unS; omega] at hP hD
      refine z_mret (((unL (unS n bf) V lg).1, bf)) hx hb hr hlocks dX7_endStatement_35 hP hD hS ?_
      have h_c : enC P Mo V ans = ans := by
        unfold enC
        rw [if_pos (by omega)]
      unfold enF
      rw [if_neg (by rw [h_c]; omega), h_c]
    · exfalso
      omega

set_option maxHeartbeats 600000 in
set_option maxRecDepth 100000 in
theorem c_X7_insertRow (l : Launch) (D : va_G) (cI cZ cC : ClassId) (sz : Nat) (ad : Nat → Nat) (be Ln : Nat) (P Mo V B : Int → Int) (n N : Int) (lg : Lg) (r a b : Int) (g_P : ∀ j : Int, 0 ≤ j → j < 8 → P j = -2 ∨ (0 ≤ P j ∧ P j < 4)) (g_Mo : ∀ j : Int, 0 ≤ j → j < 8 → Mo j = 0 ∨ Mo j = 1) (g_H : okH N lg V) (g_L : isL lg B n) (g_N : N ≤ 16380) (g_Ln : 240 ≤ Ln ∧ n ≤ (Ln : Int) ∧ Ln < 100000) (g_r : 0 ≤ r ∧ r < 80) (g_ab : -1 ≤ a ∧ a ≤ 19 ∧ -1 ≤ b ∧ b ≤ 19) : zMi l yX7_insertRow wsX7_insertRow ({ frames := 4, cells := 1, slots := 2 * (xLn (¬ hasR V r) Ln n - Ln), locals := 143 }) D cI cZ cC [(ad 0, .inr (7, [.ref (ad 1), .ref (ad 4), .ref (ad 8), .ref (ad 12), .ref (ad 16), .ref (ad 18)])), (ad 4, .inr (0, [.ref (ad 1), .ref (ad 5), .ref (ad 6), .ref (ad 7)])), (ad 5, .inl (cI, 8, .inl (iA (P)))), (ad 7, .inl (cZ, 8, .inl (iA (Mo)))), (ad 1, .inr (4, [.ref (ad 2), .ref (be), .int (iI (n))])), (ad 2, .inl (cI, 160, .inl (iA (V)))), (be, .inl (cI, Ln, .inl (iA (B))))] sz [.ref (ad 0), .int (iI (r)), .int (iI (a)), .int (iI (b))] (1) (2 * (xLn (¬ hasR V r) Ln n - Ln)) (fun (u : Nat × (Int → Int) × (Int → Int) × Int) => [(ad 0, .inr (7, [.ref (ad 1), .ref (ad 4), .ref (ad 8), .ref (ad 12), .ref (ad 16), .ref (ad 18)])), (ad 4, .inr (0, [.ref (ad 1), .ref (ad 5), .ref (ad 6), .ref (ad 7)])), (ad 5, .inl (cI, 8, .inl (iA (P)))), (ad 7, .inl (cZ, 8, .inl (iA (Mo)))), (ad 1, .inr (4, [.ref (ad 2), .ref (u.1), .int (iI (u.2.2.2))])), (ad 2, .inl (cI, 160, .inl (iA (u.2.1)))), (u.1, .inl (cI, xLn (¬ hasR V r) Ln n, .inl (iA (u.2.2.1))))]) (fun v (u : Nat × (Int → Int) × (Int → Int) × Int) => ib v ∧ ∃ lg1 : Lg, (v, u.2.1, lg1) = insF P Mo V lg r a b ∧ isL lg1 u.2.2.1 u.2.2.2 ∧ okH (N + 4) lg1 u.2.1 ∧ u.2.2.2 ≤ (xLn (¬ hasR V r) Ln n : Int)) := by
  refine z_ofMi (cc := cX7_insertRow) (maxL := 5) (ret := (some .int)) RX7 (by decide +kernel) rfl rfl (Nat.le_of_ble_eq_true rfl) ?_
  intro p0 en0 s0 m0 args0 below0 meth0 c0 ls AA hx hb hr hlocks hml hown hts hP hD hS hA hK hl
  have hl : lv_has ls 5 [(0, .ref (ad 0)), (1, .int (iI (r))), (2, .int (iI (a))), (3, .int (iI (b)))] := hl
  obtain ⟨H, hH⟩ : ∃ H, H = s0.heap := ⟨_, rfl⟩
  obtain ⟨locs, hlo⟩ : ∃ locs : List Loc, locs = [] := ⟨_, rfl⟩
  have hP : va_P D vwCl [(ad 0, .inr (7, [.ref (ad 1), .ref (ad 4), .ref (ad 8), .ref (ad 12), .ref (ad 16), .ref (ad 18)])), (ad 4, .inr (0, [.ref (ad 1), .ref (ad 5), .ref (ad 6), .ref (ad 7)])), (ad 5, .inl (cI, 8, .inl (iA (P)))), (ad 7, .inl (cZ, 8, .inl (iA (Mo)))), (ad 1, .inr (4, [.ref (ad 2), .ref (be), .int (iI (n))])), (ad 2, .inl (cI, 160, .inl (iA (V)))), (be, .inl (cI, Ln, .inl (iA (B))))] H := by rw [hH]; exact hP
  have hS : va_S AA s0.heap H locs := by rw [hH, hlo]; exact hS
  suffices hW : W p0 l en0 (headSpec wsX7_insertRow ({ frames := 4, cells := 1, slots := 2 * (xLn (¬ hasR V r) Ln n - Ln), locals := 143 })).room s0 m0 args0 below0 meth0 c0 H locs 0 0 (QMi below0 D ((fun (u : Nat × (Int → Int) × (Int → Int) × Int) => [(ad 0, .inr (7, [.ref (ad 1), .ref (ad 4), .ref (ad 8), .ref (ad 12), .ref (ad 16), .ref (ad 18)])), (ad 4, .inr (0, [.ref (ad 1), .ref (ad 5), .ref (ad 6), .ref (ad 7)])), (ad 5, .inl (cI, 8, .inl (iA (P)))), (ad 7, .inl (cZ, 8, .inl (iA (Mo)))), (ad 1, .inr (4, [.ref (ad 2), .ref (u.1), .int (iI (u.2.2.2))])), (ad 2, .inl (cI, 160, .inl (iA (u.2.1)))), (u.1, .inl (cI, xLn (¬ hasR V r) Ln n, .inl (iA (u.2.2.1))))])) (fun v (u : Nat × (Int → Int) × (Int → Int) × Int) => ib v ∧ ∃ lg1 : Lg, (v, u.2.1, lg1) = insF P Mo V lg r a b ∧ isL lg1 u.2.2.1 u.2.2.2 ∧ okH (N + 4) lg1 u.2.1 ∧ u.2.2.2 ≤ (xLn (¬ hasR V r) Ln n : Int)) AA args0 s0 (1) (2 * (xLn (¬ hasR V r) Ln n - Ln))) (F0 m0 0 ls []) by rw [hH, hlo] at hW; exact hW
  have g_V := (okH_top g_H).1
  have g_nn := isL_n g_L
  have g_top := (okH_top g_H).2.2
  have g_pot := pot_b V
  have g_rm := gLn_room g_Ln.1 g_Ln.2.1 (by omega)
  have g_gl := gLn_lt (n := n) g_Ln.2.2
  refine lv_aload_n hx hb dX7_insertRow_0 rfl (lv_at hl 0 rfl) ?_
  refine va_get (D := D) (ci := 7) (v := .ref (ad 1)) (C := RX7) (T := TX7) (N := 6) hx hb hts (fun _ h => List.mem_cons_of_mem _ (List.mem_append_left _ (List.mem_append_left _ (List.mem_append_right _ (h))))) hown hK.1 hP 0 rfl rfl 0 (by decide) (hts (.fieldLink RX7 12 "ForeignKeyStore" "rowStore" "LForeignKeyStore$Rows;") (List.mem_of_getElem? (i := 1) rfl)) (fun _ h9 => h9) rfl dX7_insertRow_1 ?_
  refine lv_iload_n hx hb dX7_insertRow_4 rfl (lv_at hl 1 rfl) ?_
  refine z_roV (As := [.int (iI (r))]) (rest := []) ⟨hx, hb, hml, hown, hts⟩ (c_X4_has l D cI cZ cC (ad) (be) (n) (V) (r) (by first | assumption | omega) (by first | assumption | omega)) (cwV 1 hts gX7_insertRow_X4_has rfl rfl rfl (by decide +kernel) ⟨Nat.le_of_ble_eq_true rfl, Nat.le_of_ble_eq_true rfl⟩) hP hK [4, 5] rfl 4 4 rfl rfl rfl rfl hl.1 rfl (Nat.le_of_ble_eq_true rfl) dX7_insertRow_5 ⟨(by show _ ≤ (1 : Nat); omega), (by show _ ≤ (2 * (xLn (¬ hasR V r) Ln n - Ln) : Nat); omega)⟩ ?_
  refine z_b_eq (tgt := 14) hx hb dX7_insertRow_8 (by decide) (fun c_1 => ?_) (fun c_1 => ?_)
  · have hx9 : xLn (¬ hasR V r) Ln n = gLn Ln n := xLn_t c_1
    refine lv_aload_n hx hb dX7_insertRow_14 rfl (lv_at hl 0 rfl) ?_
    refine va_get (D := D) (ci := 7) (v := .ref (ad 1)) (C := RX7) (T := TX7) (N := 6) hx hb hts (fun _ h => List.mem_cons_of_mem _ (List.mem_append_left _ (List.mem_append_left _ (List.mem_append_right _ (h))))) hown hK.1 hP 0 rfl rfl 0 (by decide) (hts (.fieldLink RX7 12 "ForeignKeyStore" "rowStore" "LForeignKeyStore$Rows;") (List.mem_of_getElem? (i := 1) rfl)) (fun _ h9 => h9) rfl dX7_insertRow_15 ?_
    refine z_muV (As := []) (rest := []) (wr := [(ad 0, .inr (7, [.ref (ad 1), .ref (ad 4), .ref (ad 8), .ref (ad 12), .ref (ad 16), .ref (ad 18)])), (ad 4, .inr (0, [.ref (ad 1), .ref (ad 5), .ref (ad 6), .ref (ad 7)])), (ad 5, .inl (cI, 8, .inl (iA (P)))), (ad 7, .inl (cZ, 8, .inl (iA (Mo))))]) (ws2 := (fun (u : Nat × (Int → Int)) => [(ad 0, .inr (7, [.ref (ad 1), .ref (ad 4), .ref (ad 8), .ref (ad 12), .ref (ad 16), .ref (ad 18)])), (ad 4, .inr (0, [.ref (ad 1), .ref (ad 5), .ref (ad 6), .ref (ad 7)])), (ad 5, .inl (cI, 8, .inl (iA (P)))), (ad 7, .inl (cZ, 8, .inl (iA (Mo)))), (ad 1, .inr (4, [.ref (ad 2), .ref (u.1), .int (iI (n))])), (ad 2, .inl (cI, 160, .inl (iA (V)))), (u.1, .inl (cI, gLn Ln n, .inl (iA (u.2))))])) ⟨hx, hb, hml, hown, hts⟩ (c_X4_beginStatement l D cI cZ cC H.size (ad) (be) (Ln) (n) (V) (B) (by first | assumption | omega) (by first | assumption | omega)) (cwV 0 hts gX7_insertRow_X4_beginStatement rfl rfl rfl (by decide +kernel) ⟨Nat.le_of_ble_eq_true rfl, Nat.le_of_ble_eq_true rfl⟩) hP hD hS hA hK [4, 5, 6] [0, 1, 2, 3] [0, 1, 2, 3, 4, 5, 6] rfl (by decide) rfl (by decide) (by decide) (by decide) (fun _ => rfl) 4 4 rfl rfl rfl rfl hl.1 rfl (Nat.le_of_ble_eq_true rfl) dX7_insertRow_18 ⟨(by show _ ≤ (1 : Nat); omega), (by show _ ≤ (2 * (xLn (¬ hasR V r) Ln n - Ln) : Nat); omega)⟩ (fun r_3 u H locs hq_2 hP hD hS => ?_)
    obtain ⟨be_4, B_5⟩ := u
    have hP : va_P D vwCl [(ad 0, .inr (7, [.ref (ad 1), .ref (ad 4), .ref (ad 8), .ref (ad 12), .ref (ad 16), .ref (ad 18)])), (ad 4, .inr (0, [.ref (ad 1), .ref (ad 5), .ref (ad 6), .ref (ad 7)])), (ad 5, .inl (cI, 8, .inl (iA (P)))), (ad 7, .inl (cZ, 8, .inl (iA (Mo)))), (ad 1, .inr (4, [.ref (ad 2), .ref (be_4), .int (iI (n))])), (ad 2, .inl (cI, 160, .inl (iA (V)))), (be_4, .inl (cI, gLn Ln n, .inl (iA (B_5))))] H := hP
    have hD : va_D AA [(ad 0, .inr (7, [.ref (ad 1), .ref (ad 4), .ref (ad 8), .ref (ad 12), .ref (ad 16), .ref (ad 18)])), (ad 4, .inr (0, [.ref (ad 1), .ref (ad 5), .ref (ad 6), .ref (ad 7)])), (ad 5, .inl (cI, 8, .inl (iA (P)))), (ad 7, .inl (cZ, 8, .inl (iA (Mo)))), (ad 1, .inr (4, [.ref (ad 2), .ref (be_4), .int (iI (n))])), (ad 2, .inl (cI, 160, .inl (iA (V)))), (be_4, .inl (cI, gLn Ln n, .inl (iA (B_5))))] := hD
    try dsimp only at hq_2
    obtain ⟨hv9, hq_2⟩ := hq_2
    have hv9 := hv9.symm
    subst hv9
    refine lv_istore (lv' := [(4, .int (iI ((n)))), (0, .ref (ad 0)), (1, .int (iI (r))), (2, .int (iI (a))), (3, .int (iI (b)))]) hx hb dX7_insertRow_21 hl (by decide) rfl (fun ls hl => ?_)
    refine lv_aload_n hx hb dX7_insertRow_23 rfl (lv_at hl 1 rfl) ?_
    refine va_get (D := D) (ci := 7) (v := .ref (ad 1)) (C := RX7) (T := TX7) (N := 6) hx hb hts (fun _ h => List.mem_cons_of_mem _ (List.mem_append_left _ (List.mem_append_left _ (List.mem_append_right _ (h))))) hown hK.1 hP 0 rfl rfl 0 (by decide) (hts (.fieldLink RX7 12 "ForeignKeyStore" "rowStore" "LForeignKeyStore$Rows;") (List.mem_of_getElem? (i := 1) rfl)) (fun _ h9 => h9) rfl dX7_insertRow_24 ?_
    refine lv_iload_n hx hb dX7_insertRow_27 rfl (lv_at hl 2 rfl) ?_
    refine lv_iload_n hx hb dX7_insertRow_28 rfl (lv_at hl 3 rfl) ?_
    refine lv_iload_n hx hb dX7_insertRow_29 rfl (lv_at hl 4 rfl) ?_
    refine z_mvV (As := [.int (iI (r)), .int (iI (a)), .int (iI (b))]) (rest := []) (wr := [(ad 0, .inr (7, [.ref (ad 1), .ref (ad 4), .ref (ad 8), .ref (ad 12), .ref (ad 16), .ref (ad 18)])), (ad 4, .inr (0, [.ref (ad 1), .ref (ad 5), .ref (ad 6), .ref (ad 7)])), (ad 5, .inl (cI, 8, .inl (iA (P)))), (ad 7, .inl (cZ, 8, .inl (iA (Mo))))]) (ws2 := (fun (u : Unit) => [(ad 0, .inr (7, [.ref (ad 1), .ref (ad 4), .ref (ad 8), .ref (ad 12), .ref (ad 16), .ref (ad 18)])), (ad 4, .inr (0, [.ref (ad 1), .ref (ad 5), .ref (ad 6), .ref (ad 7)])), (ad 5, .inl (cI, 8, .inl (iA (P)))), (ad 7, .inl (cZ, 8, .inl (iA (Mo)))), (ad 1, .inr (4, [.ref (ad 2), .ref (be_4), .int (iI (n + 1))])), (ad 2, .inl (cI, 160, .inl (iA (wrV V r a b)))), (be_4, .inl (cI, (gLn Ln n), .inl (iA (wrB B_5 n r V))))])) ⟨hx, hb, hml, hown, hts⟩ (c_X4_write l D cI cZ cC H.size (ad) (be_4) (gLn Ln n) (n) (V) (B_5) (r) (a) (b) (by first | assumption | omega) (by first | assumption | omega) (⟨by omega, by omega, by omega⟩)) (cwV 3 hts gX7_insertRow_X4_write rfl rfl rfl (by decide +kernel) ⟨Nat.le_of_ble_eq_true rfl, Nat.le_of_ble_eq_true rfl⟩) hP hD hS hA hK [4, 5, 6] [0, 1, 2, 3] [0, 1, 2, 3, 4, 5, 6] rfl (by decide) rfl (by decide) (by decide) (by decide) (fun _ => rfl) 4 4 rfl rfl rfl rfl hl.1 rfl (Nat.le_of_ble_eq_true rfl) dX7_insertRow_30 ⟨(by show _ ≤ (1 : Nat); omega), (by show _ ≤ (2 * (xLn (¬ hasR V r) Ln n - Ln) : Nat); omega)⟩ (fun u H locs hq_6 hP hD hS => ?_)
    have hP : va_P D vwCl [(ad 0, .inr (7, [.ref (ad 1), .ref (ad 4), .ref (ad 8), .ref (ad 12), .ref (ad 16), .ref (ad 18)])), (ad 4, .inr (0, [.ref (ad 1), .ref (ad 5), .ref (ad 6), .ref (ad 7)])), (ad 5, .inl (cI, 8, .inl (iA (P)))), (ad 7, .inl (cZ, 8, .inl (iA (Mo)))), (ad 1, .inr (4, [.ref (ad 2), .ref (be_4), .int (iI (n + 1))])), (ad 2, .inl (cI, 160, .inl (iA (wrV V r a b)))), (be_4, .inl (cI, (gLn Ln n), .inl (iA (wrB B_5 n r V))))] H := hP
    have hD : va_D AA [(ad 0, .inr (7, [.ref (ad 1), .ref (ad 4), .ref (ad 8), .ref (ad 12), .ref (ad 16), .ref (ad 18)])), (ad 4, .inr (0, [.ref (ad 1), .ref (ad 5), .ref (ad 6), .ref (ad 7)])), (ad 5, .inl (cI, 8, .inl (iA (P)))), (ad 7, .inl (cZ, 8, .inl (iA (Mo)))), (ad 1, .inr (4, [.ref (ad 2), .ref (be_4), .int (iI (n + 1))])), (ad 2, .inl (cI, 160, .inl (iA (wrV V r a b)))), (be_4, .inl (cI, (gLn Ln n), .inl (iA (wrB B_5 n r V))))] := hD
    try dsimp only at hq_6
    have h_L1 := isL_push (isL_ag g_L hq_2) g_V g_r
    have h_H1 := okH_ins (a := a) (b := b) g_H g_r g_ab
    refine lv_aload_n hx hb dX7_insertRow_33 rfl (lv_at hl 1 rfl) ?_
    refine lv_iload hx hb dX7_insertRow_34 (lv_at hl 0 rfl) ?_
    refine lv_iconst (v := iI (1)) hx hb dX7_insertRow_36 rfl ?_
    refine z_muV (As := [.int (iI ((n))), .int (iI (1))]) (rest := []) (wr := []) (ws2 := (fun (u : (Int → Int) × Int) => [(ad 0, .inr (7, [.ref (ad 1), .ref (ad 4), .ref (ad 8), .ref (ad 12), .ref (ad 16), .ref (ad 18)])), (ad 4, .inr (0, [.ref (ad 1), .ref (ad 5), .ref (ad 6), .ref (ad 7)])), (ad 5, .inl (cI, 8, .inl (iA (P)))), (ad 7, .inl (cZ, 8, .inl (iA (Mo)))), (ad 1, .inr (4, [.ref (ad 2), .ref (be_4), .int (iI (u.2))])), (ad 2, .inl (cI, 160, .inl (iA (u.1)))), (be_4, .inl (cI, ((gLn Ln n)), .inl (iA ((wrB B_5 n r V)))))])) ⟨hx, hb, hml, hown, hts⟩ (c_X7_endStatement l D cI cZ cC H.size (ad) (be_4) ((gLn Ln n)) (P) (Mo) (wrV V r a b) (wrB B_5 n r V) (n + 1) (N + 4) (pe V r :: lg) ((n)) (1) (by first | assumption | omega) (by first | assumption | omega) (h_H1) (h_L1) (⟨by omega, by omega⟩) (⟨by omega, by omega⟩) (⟨by omega, by omega⟩)) (cwV 2 hts gX7_insertRow_X7_endStatement rfl rfl rfl (by decide +kernel) ⟨Nat.le_of_ble_eq_true rfl, Nat.le_of_ble_eq_true rfl⟩) hP hD hS hA hK [0, 1, 2, 3, 4, 5, 6] [] [0, 1, 2, 3, 4, 5, 6] rfl (by decide) rfl (by decide) (by decide) (by decide) (fun _ => rfl) 0 7 rfl rfl rfl rfl hl.1 rfl (Nat.le_of_ble_eq_true rfl) dX7_insertRow_37 ⟨(by show _ ≤ (1 : Nat); omega), (by show _ ≤ (2 * (xLn (¬ hasR V r) Ln n - Ln) : Nat); omega)⟩ (fun r_8 u H locs hq_7 hP hD hS => ?_)
    obtain ⟨V_9, n_10⟩ := u
    have hP : va_P D vwCl [(ad 0, .inr (7, [.ref (ad 1), .ref (ad 4), .ref (ad 8), .ref (ad 12), .ref (ad 16), .ref (ad 18)])), (ad 4, .inr (0, [.ref (ad 1), .ref (ad 5), .ref (ad 6), .ref (ad 7)])), (ad 5, .inl (cI, 8, .inl (iA (P)))), (ad 7, .inl (cZ, 8, .inl (iA (Mo)))), (ad 1, .inr (4, [.ref (ad 2), .ref (be_4), .int (iI (n_10))])), (ad 2, .inl (cI, 160, .inl (iA (V_9)))), (be_4, .inl (cI, ((gLn Ln n)), .inl (iA ((wrB B_5 n r V)))))] H := hP
    have hD : va_D AA [(ad 0, .inr (7, [.ref (ad 1), .ref (ad 4), .ref (ad 8), .ref (ad 12), .ref (ad 16), .ref (ad 18)])), (ad 4, .inr (0, [.ref (ad 1), .ref (ad 5), .ref (ad 6), .ref (ad 7)])), (ad 5, .inl (cI, 8, .inl (iA (P)))), (ad 7, .inl (cZ, 8, .inl (iA (Mo)))), (ad 1, .inr (4, [.ref (ad 2), .ref (be_4), .int (iI (n_10))])), (ad 2, .inl (cI, 160, .inl (iA (V_9)))), (be_4, .inl (cI, ((gLn Ln n)), .inl (iA ((wrB B_5 n r V)))))] := hD
    try dsimp only at hq_7
    rw [← hx9] at hP hD
    refine W.widen (k := 1) (n := 2 * (xLn (¬ hasR V r) Ln n - Ln)) (by omega) (by omega) ?_
    refine z_mret ((be_4, V_9, (wrB B_5 n r V), n_10)) hx hb hr hlocks dX7_insertRow_40 hP hD hS ?_
    obtain ⟨lg2, k1, k2, k3⟩ := stm_post (extL_push (extL_rf V lg)) h_L1 h_H1 g_nn hq_7
    exact ⟨enF_ib hq_7 (by omega), lg2, by rw [insF_f c_1]; exact k1, k2, k3, by have := enF_n hq_7; dsimp only; omega⟩
  · refine lv_bipush (v := iI (-3)) hx hb dX7_insertRow_11 (by decide) ?_
    have hx9 : xLn (¬ hasR V r) Ln n = Ln := xLn_f (fun h => h c_1)
    rw [← hx9] at hP hD
    refine W.widen (k := 1) (n := 2 * (xLn (¬ hasR V r) Ln n - Ln)) (by omega) (by omega) ?_
    refine z_mret ((be, V, B, n)) hx hb hr hlocks dX7_insertRow_13 hP hD hS ?_
    exact ⟨⟨by omega, by omega⟩, lg, (insF_t c_1).symm, g_L, okH_mono (by omega) g_H, by rw [hx9]; exact g_Ln.2.1⟩

set_option maxHeartbeats 600000 in
set_option maxRecDepth 100000 in
theorem c_X7_updateRow (l : Launch) (D : va_G) (cI cZ cC : ClassId) (sz : Nat) (ad : Nat → Nat) (be Ln : Nat) (P Mo V B : Int → Int) (n N : Int) (lg : Lg) (r c v : Int) (g_P : ∀ j : Int, 0 ≤ j → j < 8 → P j = -2 ∨ (0 ≤ P j ∧ P j < 4)) (g_Mo : ∀ j : Int, 0 ≤ j → j < 8 → Mo j = 0 ∨ Mo j = 1) (g_H : okH N lg V) (g_L : isL lg B n) (g_N : N ≤ 16380) (g_Ln : 240 ≤ Ln ∧ n ≤ (Ln : Int) ∧ Ln < 100000) (g_r : 0 ≤ r ∧ r < 80) (g_c : c = 0 ∨ c = 1) (g_v : -1 ≤ v ∧ v ≤ 19) : zMi l yX7_updateRow wsX7_updateRow ({ frames := 4, cells := 1, slots := 2 * (xLn (hasR V r) Ln n - Ln), locals := 143 }) D cI cZ cC [(ad 0, .inr (7, [.ref (ad 1), .ref (ad 4), .ref (ad 8), .ref (ad 12), .ref (ad 16), .ref (ad 18)])), (ad 4, .inr (0, [.ref (ad 1), .ref (ad 5), .ref (ad 6), .ref (ad 7)])), (ad 5, .inl (cI, 8, .inl (iA (P)))), (ad 7, .inl (cZ, 8, .inl (iA (Mo)))), (ad 1, .inr (4, [.ref (ad 2), .ref (be), .int (iI (n))])), (ad 2, .inl (cI, 160, .inl (iA (V)))), (be, .inl (cI, Ln, .inl (iA (B))))] sz [.ref (ad 0), .int (iI (r)), .int (iI (c)), .int (iI (v))] (1) (2 * (xLn (hasR V r) Ln n - Ln)) (fun (u : Nat × (Int → Int) × (Int → Int) × Int) => [(ad 0, .inr (7, [.ref (ad 1), .ref (ad 4), .ref (ad 8), .ref (ad 12), .ref (ad 16), .ref (ad 18)])), (ad 4, .inr (0, [.ref (ad 1), .ref (ad 5), .ref (ad 6), .ref (ad 7)])), (ad 5, .inl (cI, 8, .inl (iA (P)))), (ad 7, .inl (cZ, 8, .inl (iA (Mo)))), (ad 1, .inr (4, [.ref (ad 2), .ref (u.1), .int (iI (u.2.2.2))])), (ad 2, .inl (cI, 160, .inl (iA (u.2.1)))), (u.1, .inl (cI, xLn (hasR V r) Ln n, .inl (iA (u.2.2.1))))]) (fun w (u : Nat × (Int → Int) × (Int → Int) × Int) => ib w ∧ ∃ lg1 : Lg, (w, u.2.1, lg1) = updF P Mo V lg r c v ∧ isL lg1 u.2.2.1 u.2.2.2 ∧ okH (N + 4) lg1 u.2.1 ∧ u.2.2.2 ≤ (xLn (hasR V r) Ln n : Int)) := by
  refine z_ofMi (cc := cX7_updateRow) (maxL := 5) (ret := (some .int)) RX7 (by decide +kernel) rfl rfl (Nat.le_of_ble_eq_true rfl) ?_
  intro p0 en0 s0 m0 args0 below0 meth0 c0 ls AA hx hb hr hlocks hml hown hts hP hD hS hA hK hl
  have hl : lv_has ls 5 [(0, .ref (ad 0)), (1, .int (iI (r))), (2, .int (iI (c))), (3, .int (iI (v)))] := hl
  obtain ⟨H, hH⟩ : ∃ H, H = s0.heap := ⟨_, rfl⟩
  obtain ⟨locs, hlo⟩ : ∃ locs : List Loc, locs = [] := ⟨_, rfl⟩
  have hP : va_P D vwCl [(ad 0, .inr (7, [.ref (ad 1), .ref (ad 4), .ref (ad 8), .ref (ad 12), .ref (ad 16), .ref (ad 18)])), (ad 4, .inr (0, [.ref (ad 1), .ref (ad 5), .ref (ad 6), .ref (ad 7)])), (ad 5, .inl (cI, 8, .inl (iA (P)))), (ad 7, .inl (cZ, 8, .inl (iA (Mo)))), (ad 1, .inr (4, [.ref (ad 2), .ref (be), .int (iI (n))])), (ad 2, .inl (cI, 160, .inl (iA (V)))), (be, .inl (cI, Ln, .inl (iA (B))))] H := by rw [hH]; exact hP
  have hS : va_S AA s0.heap H locs := by rw [hH, hlo]; exact hS
  suffices hW : W p0 l en0 (headSpec wsX7_updateRow ({ frames := 4, cells := 1, slots := 2 * (xLn (hasR V r) Ln n - Ln), locals := 143 })).room s0 m0 args0 below0 meth0 c0 H locs 0 0 (QMi below0 D ((fun (u : Nat × (Int → Int) × (Int → Int) × Int) => [(ad 0, .inr (7, [.ref (ad 1), .ref (ad 4), .ref (ad 8), .ref (ad 12), .ref (ad 16), .ref (ad 18)])), (ad 4, .inr (0, [.ref (ad 1), .ref (ad 5), .ref (ad 6), .ref (ad 7)])), (ad 5, .inl (cI, 8, .inl (iA (P)))), (ad 7, .inl (cZ, 8, .inl (iA (Mo)))), (ad 1, .inr (4, [.ref (ad 2), .ref (u.1), .int (iI (u.2.2.2))])), (ad 2, .inl (cI, 160, .inl (iA (u.2.1)))), (u.1, .inl (cI, xLn (hasR V r) Ln n, .inl (iA (u.2.2.1))))])) (fun w (u : Nat × (Int → Int) × (Int → Int) × Int) => ib w ∧ ∃ lg1 : Lg, (w, u.2.1, lg1) = updF P Mo V lg r c v ∧ isL lg1 u.2.2.1 u.2.2.2 ∧ okH (N + 4) lg1 u.2.1 ∧ u.2.2.2 ≤ (xLn (hasR V r) Ln n : Int)) AA args0 s0 (1) (2 * (xLn (hasR V r) Ln n - Ln))) (F0 m0 0 ls []) by rw [hH, hlo] at hW; exact hW
  have g_V := (okH_top g_H).1
  have g_nn := isL_n g_L
  have g_top := (okH_top g_H).2.2
  have g_pot := pot_b V
  have g_rm := gLn_room g_Ln.1 g_Ln.2.1 (by omega)
  have g_gl := gLn_lt (n := n) g_Ln.2.2
  refine lv_aload_n hx hb dX7_updateRow_0 rfl (lv_at hl 0 rfl) ?_
  refine va_get (D := D) (ci := 7) (v := .ref (ad 1)) (C := RX7) (T := TX7) (N := 6) hx hb hts (fun _ h => List.mem_cons_of_mem _ (List.mem_append_left _ (List.mem_append_left _ (List.mem_append_right _ (h))))) hown hK.1 hP 0 rfl rfl 0 (by decide) (hts (.fieldLink RX7 12 "ForeignKeyStore" "rowStore" "LForeignKeyStore$Rows;") (List.mem_of_getElem? (i := 1) rfl)) (fun _ h9 => h9) rfl dX7_updateRow_1 ?_
  refine lv_iload_n hx hb dX7_updateRow_4 rfl (lv_at hl 1 rfl) ?_
  refine z_roV (As := [.int (iI (r))]) (rest := []) ⟨hx, hb, hml, hown, hts⟩ (c_X4_has l D cI cZ cC (ad) (be) (n) (V) (r) (by first | assumption | omega) (by first | assumption | omega)) (cwV 1 hts gX7_updateRow_X4_has rfl rfl rfl (by decide +kernel) ⟨Nat.le_of_ble_eq_true rfl, Nat.le_of_ble_eq_true rfl⟩) hP hK [4, 5] rfl 4 4 rfl rfl rfl rfl hl.1 rfl (Nat.le_of_ble_eq_true rfl) dX7_updateRow_5 ⟨(by show _ ≤ (1 : Nat); omega), (by show _ ≤ (2 * (xLn (hasR V r) Ln n - Ln) : Nat); omega)⟩ ?_
  refine z_b_ne (tgt := 14) hx hb dX7_updateRow_8 (by decide) (fun c_1 => ?_) (fun c_1 => ?_)
  · have hx9 : xLn (hasR V r) Ln n = gLn Ln n := xLn_t c_1
    have g_h := c_1
    refine lv_aload_n hx hb dX7_updateRow_14 rfl (lv_at hl 0 rfl) ?_
    refine va_get (D := D) (ci := 7) (v := .ref (ad 1)) (C := RX7) (T := TX7) (N := 6) hx hb hts (fun _ h => List.mem_cons_of_mem _ (List.mem_append_left _ (List.mem_append_left _ (List.mem_append_right _ (h))))) hown hK.1 hP 0 rfl rfl 0 (by decide) (hts (.fieldLink RX7 12 "ForeignKeyStore" "rowStore" "LForeignKeyStore$Rows;") (List.mem_of_getElem? (i := 1) rfl)) (fun _ h9 => h9) rfl dX7_updateRow_15 ?_
    refine z_muV (As := []) (rest := []) (wr := [(ad 0, .inr (7, [.ref (ad 1), .ref (ad 4), .ref (ad 8), .ref (ad 12), .ref (ad 16), .ref (ad 18)])), (ad 4, .inr (0, [.ref (ad 1), .ref (ad 5), .ref (ad 6), .ref (ad 7)])), (ad 5, .inl (cI, 8, .inl (iA (P)))), (ad 7, .inl (cZ, 8, .inl (iA (Mo))))]) (ws2 := (fun (u : Nat × (Int → Int)) => [(ad 0, .inr (7, [.ref (ad 1), .ref (ad 4), .ref (ad 8), .ref (ad 12), .ref (ad 16), .ref (ad 18)])), (ad 4, .inr (0, [.ref (ad 1), .ref (ad 5), .ref (ad 6), .ref (ad 7)])), (ad 5, .inl (cI, 8, .inl (iA (P)))), (ad 7, .inl (cZ, 8, .inl (iA (Mo)))), (ad 1, .inr (4, [.ref (ad 2), .ref (u.1), .int (iI (n))])), (ad 2, .inl (cI, 160, .inl (iA (V)))), (u.1, .inl (cI, gLn Ln n, .inl (iA (u.2))))])) ⟨hx, hb, hml, hown, hts⟩ (c_X4_beginStatement l D cI cZ cC H.size (ad) (be) (Ln) (n) (V) (B) (by first | assumption | omega) (by first | assumption | omega)) (cwV 0 hts gX7_updateRow_X4_beginStatement rfl rfl rfl (by decide +kernel) ⟨Nat.le_of_ble_eq_true rfl, Nat.le_of_ble_eq_true rfl⟩) hP hD hS hA hK [4, 5, 6] [0, 1, 2, 3] [0, 1, 2, 3, 4, 5, 6] rfl (by decide) rfl (by decide) (by decide) (by decide) (fun _ => rfl) 4 4 rfl rfl rfl rfl hl.1 rfl (Nat.le_of_ble_eq_true rfl) dX7_updateRow_18 ⟨(by show _ ≤ (1 : Nat); omega), (by show _ ≤ (2 * (xLn (hasR V r) Ln n - Ln) : Nat); omega)⟩ (fun r_3 u H locs hq_2 hP hD hS => ?_)
    obtain ⟨be_4, B_5⟩ := u
    have hP : va_P D vwCl [(ad 0, .inr (7, [.ref (ad 1), .ref (ad 4), .ref (ad 8), .ref (ad 12), .ref (ad 16), .ref (ad 18)])), (ad 4, .inr (0, [.ref (ad 1), .ref (ad 5), .ref (ad 6), .ref (ad 7)])), (ad 5, .inl (cI, 8, .inl (iA (P)))), (ad 7, .inl (cZ, 8, .inl (iA (Mo)))), (ad 1, .inr (4, [.ref (ad 2), .ref (be_4), .int (iI (n))])), (ad 2, .inl (cI, 160, .inl (iA (V)))), (be_4, .inl (cI, gLn Ln n, .inl (iA (B_5))))] H := hP
    have hD : va_D AA [(ad 0, .inr (7, [.ref (ad 1), .ref (ad 4), .ref (ad 8), .ref (ad 12), .ref (ad 16), .ref (ad 18)])), (ad 4, .inr (0, [.ref (ad 1), .ref (ad 5), .ref (ad 6), .ref (ad 7)])), (ad 5, .inl (cI, 8, .inl (iA (P)))), (ad 7, .inl (cZ, 8, .inl (iA (Mo)))), (ad 1, .inr (4, [.ref (ad 2), .ref (be_4), .int (iI (n))])), (ad 2, .inl (cI, 160, .inl (iA (V)))), (be_4, .inl (cI, gLn Ln n, .inl (iA (B_5))))] := hD
    try dsimp only at hq_2
    obtain ⟨hv9, hq_2⟩ := hq_2
    have hv9 := hv9.symm
    subst hv9
    refine lv_istore (lv' := [(4, .int (iI ((n)))), (0, .ref (ad 0)), (1, .int (iI (r))), (2, .int (iI (c))), (3, .int (iI (v)))]) hx hb dX7_updateRow_21 hl (by decide) rfl (fun ls hl => ?_)
    refine lv_aload_n hx hb dX7_updateRow_23 rfl (lv_at hl 1 rfl) ?_
    refine va_get (D := D) (ci := 7) (v := .ref (ad 1)) (C := RX7) (T := TX7) (N := 6) hx hb hts (fun _ h => List.mem_cons_of_mem _ (List.mem_append_left _ (List.mem_append_left _ (List.mem_append_right _ (h))))) hown hK.1 hP 0 rfl rfl 0 (by decide) (hts (.fieldLink RX7 12 "ForeignKeyStore" "rowStore" "LForeignKeyStore$Rows;") (List.mem_of_getElem? (i := 1) rfl)) (fun _ h9 => h9) rfl dX7_updateRow_24 ?_
    refine lv_iload_n hx hb dX7_updateRow_27 rfl (lv_at hl 2 rfl) ?_
    refine lv_iload_n hx hb dX7_updateRow_28 rfl (lv_at hl 3 rfl) ?_
    refine lv_iload_n hx hb dX7_updateRow_29 rfl (lv_at hl 4 rfl) ?_
    refine z_mvV (As := [.int (iI (r)), .int (iI (c)), .int (iI (v))]) (rest := []) (wr := [(ad 0, .inr (7, [.ref (ad 1), .ref (ad 4), .ref (ad 8), .ref (ad 12), .ref (ad 16), .ref (ad 18)])), (ad 4, .inr (0, [.ref (ad 1), .ref (ad 5), .ref (ad 6), .ref (ad 7)])), (ad 5, .inl (cI, 8, .inl (iA (P)))), (ad 7, .inl (cZ, 8, .inl (iA (Mo))))]) (ws2 := (fun (u : Unit) => [(ad 0, .inr (7, [.ref (ad 1), .ref (ad 4), .ref (ad 8), .ref (ad 12), .ref (ad 16), .ref (ad 18)])), (ad 4, .inr (0, [.ref (ad 1), .ref (ad 5), .ref (ad 6), .ref (ad 7)])), (ad 5, .inl (cI, 8, .inl (iA (P)))), (ad 7, .inl (cZ, 8, .inl (iA (Mo)))), (ad 1, .inr (4, [.ref (ad 2), .ref (be_4), .int (iI (n + 1))])), (ad 2, .inl (cI, 160, .inl (iA (wcV V r c v)))), (be_4, .inl (cI, (gLn Ln n), .inl (iA (wrB B_5 n r V))))])) ⟨hx, hb, hml, hown, hts⟩ (c_X4_writeColumn l D cI cZ cC H.size (ad) (be_4) (gLn Ln n) (n) (V) (B_5) (r) (c) (v) (by first | assumption | omega) (by first | assumption | omega) (⟨by omega, by omega, by omega⟩) (by first | assumption | omega)) (cwV 3 hts gX7_updateRow_X4_writeColumn rfl rfl rfl (by decide +kernel) ⟨Nat.le_of_ble_eq_true rfl, Nat.le_of_ble_eq_true rfl⟩) hP hD hS hA hK [4, 5, 6] [0, 1, 2, 3] [0, 1, 2, 3, 4, 5, 6] rfl (by decide) rfl (by decide) (by decide) (by decide) (fun _ => rfl) 4 4 rfl rfl rfl rfl hl.1 rfl (Nat.le_of_ble_eq_true rfl) dX7_updateRow_30 ⟨(by show _ ≤ (1 : Nat); omega), (by show _ ≤ (2 * (xLn (hasR V r) Ln n - Ln) : Nat); omega)⟩ (fun u H locs hq_6 hP hD hS => ?_)
    have hP : va_P D vwCl [(ad 0, .inr (7, [.ref (ad 1), .ref (ad 4), .ref (ad 8), .ref (ad 12), .ref (ad 16), .ref (ad 18)])), (ad 4, .inr (0, [.ref (ad 1), .ref (ad 5), .ref (ad 6), .ref (ad 7)])), (ad 5, .inl (cI, 8, .inl (iA (P)))), (ad 7, .inl (cZ, 8, .inl (iA (Mo)))), (ad 1, .inr (4, [.ref (ad 2), .ref (be_4), .int (iI (n + 1))])), (ad 2, .inl (cI, 160, .inl (iA (wcV V r c v)))), (be_4, .inl (cI, (gLn Ln n), .inl (iA (wrB B_5 n r V))))] H := hP
    have hD : va_D AA [(ad 0, .inr (7, [.ref (ad 1), .ref (ad 4), .ref (ad 8), .ref (ad 12), .ref (ad 16), .ref (ad 18)])), (ad 4, .inr (0, [.ref (ad 1), .ref (ad 5), .ref (ad 6), .ref (ad 7)])), (ad 5, .inl (cI, 8, .inl (iA (P)))), (ad 7, .inl (cZ, 8, .inl (iA (Mo)))), (ad 1, .inr (4, [.ref (ad 2), .ref (be_4), .int (iI (n + 1))])), (ad 2, .inl (cI, 160, .inl (iA (wcV V r c v)))), (be_4, .inl (cI, (gLn Ln n), .inl (iA (wrB B_5 n r V))))] := hD
    try dsimp only at hq_6
    have h_L1 := isL_push (isL_ag g_L hq_2) g_V g_r
    have h_H1 := okH_upd (c := c) (v := v) g_H g_h g_c g_v
    refine lv_aload_n hx hb dX7_updateRow_33 rfl (lv_at hl 1 rfl) ?_
    refine lv_iload hx hb dX7_updateRow_34 (lv_at hl 0 rfl) ?_
    refine lv_iconst (v := iI (1)) hx hb dX7_updateRow_36 rfl ?_
    refine z_muV (As := [.int (iI ((n))), .int (iI (1))]) (rest := []) (wr := []) (ws2 := (fun (u : (Int → Int) × Int) => [(ad 0, .inr (7, [.ref (ad 1), .ref (ad 4), .ref (ad 8), .ref (ad 12), .ref (ad 16), .ref (ad 18)])), (ad 4, .inr (0, [.ref (ad 1), .ref (ad 5), .ref (ad 6), .ref (ad 7)])), (ad 5, .inl (cI, 8, .inl (iA (P)))), (ad 7, .inl (cZ, 8, .inl (iA (Mo)))), (ad 1, .inr (4, [.ref (ad 2), .ref (be_4), .int (iI (u.2))])), (ad 2, .inl (cI, 160, .inl (iA (u.1)))), (be_4, .inl (cI, ((gLn Ln n)), .inl (iA ((wrB B_5 n r V)))))])) ⟨hx, hb, hml, hown, hts⟩ (c_X7_endStatement l D cI cZ cC H.size (ad) (be_4) ((gLn Ln n)) (P) (Mo) (wcV V r c v) (wrB B_5 n r V) (n + 1) (N + 4) (pe V r :: lg) ((n)) (1) (by first | assumption | omega) (by first | assumption | omega) (h_H1) (h_L1) (⟨by omega, by omega⟩) (⟨by omega, by omega⟩) (⟨by omega, by omega⟩)) (cwV 2 hts gX7_updateRow_X7_endStatement rfl rfl rfl (by decide +kernel) ⟨Nat.le_of_ble_eq_true rfl, Nat.le_of_ble_eq_true rfl⟩) hP hD hS hA hK [0, 1, 2, 3, 4, 5, 6] [] [0, 1, 2, 3, 4, 5, 6] rfl (by decide) rfl (by decide) (by decide) (by decide) (fun _ => rfl) 0 7 rfl rfl rfl rfl hl.1 rfl (Nat.le_of_ble_eq_true rfl) dX7_updateRow_37 ⟨(by show _ ≤ (1 : Nat); omega), (by show _ ≤ (2 * (xLn (hasR V r) Ln n - Ln) : Nat); omega)⟩ (fun r_8 u H locs hq_7 hP hD hS => ?_)
    obtain ⟨V_9, n_10⟩ := u
    have hP : va_P D vwCl [(ad 0, .inr (7, [.ref (ad 1), .ref (ad 4), .ref (ad 8), .ref (ad 12), .ref (ad 16), .ref (ad 18)])), (ad 4, .inr (0, [.ref (ad 1), .ref (ad 5), .ref (ad 6), .ref (ad 7)])), (ad 5, .inl (cI, 8, .inl (iA (P)))), (ad 7, .inl (cZ, 8, .inl (iA (Mo)))), (ad 1, .inr (4, [.ref (ad 2), .ref (be_4), .int (iI (n_10))])), (ad 2, .inl (cI, 160, .inl (iA (V_9)))), (be_4, .inl (cI, ((gLn Ln n)), .inl (iA ((wrB B_5 n r V)))))] H := hP
    have hD : va_D AA [(ad 0, .inr (7, [.ref (ad 1), .ref (ad 4), .ref (ad 8), .ref (ad 12), .ref (ad 16), .ref (ad 18)])), (ad 4, .inr (0, [.ref (ad 1), .ref (ad 5), .ref (ad 6), .ref (ad 7)])), (ad 5, .inl (cI, 8, .inl (iA (P)))), (ad 7, .inl (cZ, 8, .inl (iA (Mo)))), (ad 1, .inr (4, [.ref (ad 2), .ref (be_4), .int (iI (n_10))])), (ad 2, .inl (cI, 160, .inl (iA (V_9)))), (be_4, .inl (cI, ((gLn Ln n)), .inl (iA ((wrB B_5 n r V)))))] := hD
    try dsimp only at hq_7
    rw [← hx9] at hP hD
    refine W.widen (k := 1) (n := 2 * (xLn (hasR V r) Ln n - Ln)) (by omega) (by omega) ?_
    refine z_mret ((be_4, V_9, (wrB B_5 n r V), n_10)) hx hb hr hlocks dX7_updateRow_40 hP hD hS ?_
    obtain ⟨lg2, k1, k2, k3⟩ := stm_post (by rw [wcV_eq g_r]; exact extL_push (extL_rf V lg)) h_L1 h_H1 g_nn hq_7
    exact ⟨enF_ib hq_7 (by omega), lg2, by rw [updF_t g_h]; exact k1, k2, k3, by have := enF_n hq_7; dsimp only; omega⟩
  · refine lv_bipush (v := iI (-3)) hx hb dX7_updateRow_11 (by decide) ?_
    have hx9 : xLn (hasR V r) Ln n = Ln := xLn_f c_1
    rw [← hx9] at hP hD
    refine W.widen (k := 1) (n := 2 * (xLn (hasR V r) Ln n - Ln)) (by omega) (by omega) ?_
    refine z_mret ((be, V, B, n)) hx hb hr hlocks dX7_updateRow_13 hP hD hS ?_
    exact ⟨⟨by omega, by omega⟩, lg, (updF_f c_1).symm, g_L, okH_mono (by omega) g_H, by rw [hx9]; exact g_Ln.2.1⟩

set_option maxHeartbeats 600000 in
set_option maxRecDepth 100000 in
theorem c_X7_deleteRow (l : Launch) (D : va_G) (cI cZ cC : ClassId) (sz : Nat) (ad : Nat → Nat) (be Ln : Nat) (P Ac Mo V B : Int → Int) (n N : Int) (lg : Lg) (Qa Qk : Int → Int) (ql : Int) (r : Int) (g_P : ∀ j : Int, 0 ≤ j → j < 8 → P j = -2 ∨ (0 ≤ P j ∧ P j < 4)) (g_Mo : ∀ j : Int, 0 ≤ j → j < 8 → Mo j = 0 ∨ Mo j = 1) (g_Ac : ∀ j : Int, 0 ≤ j → j < 8 → 0 ≤ Ac j ∧ Ac j ≤ 3) (g_H : okH N lg V) (g_L : isL lg B n) (g_N : N ≤ 16380) (g_Ln : 240 ≤ Ln ∧ n ≤ (Ln : Int) ∧ Ln < 100000) (g_r : 0 ≤ r ∧ r < 80) : zMi l yX7_deleteRow wsX7_deleteRow ({ frames := 4, cells := 1, slots := 2 * (xLn (hasR V r) Ln n - Ln), locals := 143 }) D cI cZ cC [(ad 0, .inr (7, [.ref (ad 1), .ref (ad 4), .ref (ad 8), .ref (ad 12), .ref (ad 16), .ref (ad 18)])), (ad 4, .inr (0, [.ref (ad 1), .ref (ad 5), .ref (ad 6), .ref (ad 7)])), (ad 5, .inl (cI, 8, .inl (iA (P)))), (ad 7, .inl (cZ, 8, .inl (iA (Mo)))), (ad 1, .inr (4, [.ref (ad 2), .ref (be), .int (iI (n))])), (ad 2, .inl (cI, 160, .inl (iA (V)))), (be, .inl (cI, Ln, .inl (iA (B)))), (ad 6, .inl (cI, 8, .inl (iA (Ac)))), (ad 12, .inr (1, [.ref (ad 1), .ref (ad 4), .ref (ad 13)])), (ad 13, .inr (3, [.ref (ad 14), .ref (ad 15), .int (iI (ql))])), (ad 14, .inl (cI, 80, .inl (iA (Qa)))), (ad 15, .inl (cZ, 80, .inl (iA (Qk))))] sz [.ref (ad 0), .int (iI (r))] (1) (2 * (xLn (hasR V r) Ln n - Ln)) (fun (u : Nat × (Int → Int) × (Int → Int) × Int × (Int → Int) × (Int → Int) × Int) => [(ad 0, .inr (7, [.ref (ad 1), .ref (ad 4), .ref (ad 8), .ref (ad 12), .ref (ad 16), .ref (ad 18)])), (ad 4, .inr (0, [.ref (ad 1), .ref (ad 5), .ref (ad 6), .ref (ad 7)])), (ad 5, .inl (cI, 8, .inl (iA (P)))), (ad 7, .inl (cZ, 8, .inl (iA (Mo)))), (ad 1, .inr (4, [.ref (ad 2), .ref (u.1), .int (iI (u.2.2.2.1))])), (ad 2, .inl (cI, 160, .inl (iA (u.2.1)))), (u.1, .inl (cI, xLn (hasR V r) Ln n, .inl (iA (u.2.2.1)))), (ad 6, .inl (cI, 8, .inl (iA (Ac)))), (ad 12, .inr (1, [.ref (ad 1), .ref (ad 4), .ref (ad 13)])), (ad 13, .inr (3, [.ref (ad 14), .ref (ad 15), .int (iI (u.2.2.2.2.2.2))])), (ad 14, .inl (cI, 80, .inl (iA (u.2.2.2.2.1)))), (ad 15, .inl (cZ, 80, .inl (iA (u.2.2.2.2.2.1))))]) (fun w (u : Nat × (Int → Int) × (Int → Int) × Int × (Int → Int) × (Int → Int) × Int) => ib w ∧ ∃ lg1 : Lg, (w, u.2.1, lg1) = delF P Ac Mo V lg r ∧ isL lg1 u.2.2.1 u.2.2.2.1 ∧ okH N lg1 u.2.1 ∧ extL V lg u.2.1 lg1 ∧ u.2.2.2.1 ≤ (xLn (hasR V r) Ln n : Int) ∧ (w = -3 ↔ ¬ hasR V r)) := by
  refine z_ofMi (cc := cX7_deleteRow) (maxL := 4) (ret := (some .int)) RX7 (by decide +kernel) rfl rfl (Nat.le_of_ble_eq_true rfl) ?_
  intro p0 en0 s0 m0 args0 below0 meth0 c0 ls AA hx hb hr hlocks hml hown hts hP hD hS hA hK hl
  have hl : lv_has ls 4 [(0, .ref (ad 0)), (1, .int (iI (r)))] := hl
  obtain ⟨H, hH⟩ : ∃ H, H = s0.heap := ⟨_, rfl⟩
  obtain ⟨locs, hlo⟩ : ∃ locs : List Loc, locs = [] := ⟨_, rfl⟩
  have hP : va_P D vwCl [(ad 0, .inr (7, [.ref (ad 1), .ref (ad 4), .ref (ad 8), .ref (ad 12), .ref (ad 16), .ref (ad 18)])), (ad 4, .inr (0, [.ref (ad 1), .ref (ad 5), .ref (ad 6), .ref (ad 7)])), (ad 5, .inl (cI, 8, .inl (iA (P)))), (ad 7, .inl (cZ, 8, .inl (iA (Mo)))), (ad 1, .inr (4, [.ref (ad 2), .ref (be), .int (iI (n))])), (ad 2, .inl (cI, 160, .inl (iA (V)))), (be, .inl (cI, Ln, .inl (iA (B)))), (ad 6, .inl (cI, 8, .inl (iA (Ac)))), (ad 12, .inr (1, [.ref (ad 1), .ref (ad 4), .ref (ad 13)])), (ad 13, .inr (3, [.ref (ad 14), .ref (ad 15), .int (iI (ql))])), (ad 14, .inl (cI, 80, .inl (iA (Qa)))), (ad 15, .inl (cZ, 80, .inl (iA (Qk))))] H := by rw [hH]; exact hP
  have hS : va_S AA s0.heap H locs := by rw [hH, hlo]; exact hS
  suffices hW : W p0 l en0 (headSpec wsX7_deleteRow ({ frames := 4, cells := 1, slots := 2 * (xLn (hasR V r) Ln n - Ln), locals := 143 })).room s0 m0 args0 below0 meth0 c0 H locs 0 0 (QMi below0 D ((fun (u : Nat × (Int → Int) × (Int → Int) × Int × (Int → Int) × (Int → Int) × Int) => [(ad 0, .inr (7, [.ref (ad 1), .ref (ad 4), .ref (ad 8), .ref (ad 12), .ref (ad 16), .ref (ad 18)])), (ad 4, .inr (0, [.ref (ad 1), .ref (ad 5), .ref (ad 6), .ref (ad 7)])), (ad 5, .inl (cI, 8, .inl (iA (P)))), (ad 7, .inl (cZ, 8, .inl (iA (Mo)))), (ad 1, .inr (4, [.ref (ad 2), .ref (u.1), .int (iI (u.2.2.2.1))])), (ad 2, .inl (cI, 160, .inl (iA (u.2.1)))), (u.1, .inl (cI, xLn (hasR V r) Ln n, .inl (iA (u.2.2.1)))), (ad 6, .inl (cI, 8, .inl (iA (Ac)))), (ad 12, .inr (1, [.ref (ad 1), .ref (ad 4), .ref (ad 13)])), (ad 13, .inr (3, [.ref (ad 14), .ref (ad 15), .int (iI (u.2.2.2.2.2.2))])), (ad 14, .inl (cI, 80, .inl (iA (u.2.2.2.2.1)))), (ad 15, .inl (cZ, 80, .inl (iA (u.2.2.2.2.2.1))))])) (fun w (u : Nat × (Int → Int) × (Int → Int) × Int × (Int → Int) × (Int → Int) × Int) => ib w ∧ ∃ lg1 : Lg, (w, u.2.1, lg1) = delF P Ac Mo V lg r ∧ isL lg1 u.2.2.1 u.2.2.2.1 ∧ okH N lg1 u.2.1 ∧ extL V lg u.2.1 lg1 ∧ u.2.2.2.1 ≤ (xLn (hasR V r) Ln n : Int) ∧ (w = -3 ↔ ¬ hasR V r)) AA args0 s0 (1) (2 * (xLn (hasR V r) Ln n - Ln))) (F0 m0 0 ls []) by rw [hH, hlo] at hW; exact hW
  have g_V := (okH_top g_H).1
  have g_nn := isL_n g_L
  have g_top := (okH_top g_H).2.2
  have g_pot := pot_b V
  have g_rm := gLn_room g_Ln.1 g_Ln.2.1 (by omega)
  have g_gl := gLn_lt (n := n) g_Ln.2.2
  refine lv_aload_n hx hb dX7_deleteRow_0 rfl (lv_at hl 0 rfl) ?_
  refine va_get (D := D) (ci := 7) (v := .ref (ad 1)) (C := RX7) (T := TX7) (N := 6) hx hb hts (fun _ h => List.mem_cons_of_mem _ (List.mem_append_left _ (List.mem_append_left _ (List.mem_append_left _ (List.mem_append_left _ (List.mem_append_right _ (h))))))) hown hK.1 hP 0 rfl rfl 0 (by decide) (hts (.fieldLink RX7 12 "ForeignKeyStore" "rowStore" "LForeignKeyStore$Rows;") (List.mem_of_getElem? (i := 1) rfl)) (fun _ h9 => h9) rfl dX7_deleteRow_1 ?_
  refine lv_iload_n hx hb dX7_deleteRow_4 rfl (lv_at hl 1 rfl) ?_
  refine z_roV (As := [.int (iI (r))]) (rest := []) ⟨hx, hb, hml, hown, hts⟩ (c_X4_has l D cI cZ cC (ad) (be) (n) (V) (r) (by first | assumption | omega) (by first | assumption | omega)) (cwV 1 hts gX7_deleteRow_X4_has rfl rfl rfl (by decide +kernel) ⟨Nat.le_of_ble_eq_true rfl, Nat.le_of_ble_eq_true rfl⟩) hP hK [4, 5] rfl 4 4 rfl rfl rfl rfl hl.1 rfl (Nat.le_of_ble_eq_true rfl) dX7_deleteRow_5 ⟨(by show _ ≤ (1 : Nat); omega), (by show _ ≤ (2 * (xLn (hasR V r) Ln n - Ln) : Nat); omega)⟩ ?_
  refine z_b_ne (tgt := 14) hx hb dX7_deleteRow_8 (by decide) (fun c_1 => ?_) (fun c_1 => ?_)
  · have hx9 : xLn (hasR V r) Ln n = gLn Ln n := xLn_t c_1
    have g_h := c_1
    refine lv_aload_n hx hb dX7_deleteRow_14 rfl (lv_at hl 0 rfl) ?_
    refine va_get (D := D) (ci := 7) (v := .ref (ad 1)) (C := RX7) (T := TX7) (N := 6) hx hb hts (fun _ h => List.mem_cons_of_mem _ (List.mem_append_left _ (List.mem_append_left _ (List.mem_append_left _ (List.mem_append_left _ (List.mem_append_right _ (h))))))) hown hK.1 hP 0 rfl rfl 0 (by decide) (hts (.fieldLink RX7 12 "ForeignKeyStore" "rowStore" "LForeignKeyStore$Rows;") (List.mem_of_getElem? (i := 1) rfl)) (fun _ h9 => h9) rfl dX7_deleteRow_15 ?_
    refine z_muV (As := []) (rest := []) (wr := [(ad 0, .inr (7, [.ref (ad 1), .ref (ad 4), .ref (ad 8), .ref (ad 12), .ref (ad 16), .ref (ad 18)])), (ad 4, .inr (0, [.ref (ad 1), .ref (ad 5), .ref (ad 6), .ref (ad 7)])), (ad 5, .inl (cI, 8, .inl (iA (P)))), (ad 7, .inl (cZ, 8, .inl (iA (Mo)))), (ad 6, .inl (cI, 8, .inl (iA (Ac)))), (ad 12, .inr (1, [.ref (ad 1), .ref (ad 4), .ref (ad 13)])), (ad 13, .inr (3, [.ref (ad 14), .ref (ad 15), .int (iI (ql))])), (ad 14, .inl (cI, 80, .inl (iA (Qa)))), (ad 15, .inl (cZ, 80, .inl (iA (Qk))))]) (ws2 := (fun (u : Nat × (Int → Int)) => [(ad 0, .inr (7, [.ref (ad 1), .ref (ad 4), .ref (ad 8), .ref (ad 12), .ref (ad 16), .ref (ad 18)])), (ad 4, .inr (0, [.ref (ad 1), .ref (ad 5), .ref (ad 6), .ref (ad 7)])), (ad 5, .inl (cI, 8, .inl (iA (P)))), (ad 7, .inl (cZ, 8, .inl (iA (Mo)))), (ad 1, .inr (4, [.ref (ad 2), .ref (u.1), .int (iI (n))])), (ad 2, .inl (cI, 160, .inl (iA (V)))), (u.1, .inl (cI, gLn Ln n, .inl (iA (u.2)))), (ad 6, .inl (cI, 8, .inl (iA (Ac)))), (ad 12, .inr (1, [.ref (ad 1), .ref (ad 4), .ref (ad 13)])), (ad 13, .inr (3, [.ref (ad 14), .ref (ad 15), .int (iI (ql))])), (ad 14, .inl (cI, 80, .inl (iA (Qa)))), (ad 15, .inl (cZ, 80, .inl (iA (Qk))))])) ⟨hx, hb, hml, hown, hts⟩ (c_X4_beginStatement l D cI cZ cC H.size (ad) (be) (Ln) (n) (V) (B) (by first | assumption | omega) (by first | assumption | omega)) (cwV 0 hts gX7_deleteRow_X4_beginStatement rfl rfl rfl (by decide +kernel) ⟨Nat.le_of_ble_eq_true rfl, Nat.le_of_ble_eq_true rfl⟩) hP hD hS hA hK [4, 5, 6] [0, 1, 2, 3, 7, 8, 9, 10, 11] [0, 1, 2, 3, 9, 10, 11, 4, 5, 6, 7, 8] rfl (by decide) rfl (by decide) (by decide) (by decide) (fun _ => rfl) 4 4 rfl rfl rfl rfl hl.1 rfl (Nat.le_of_ble_eq_true rfl) dX7_deleteRow_18 ⟨(by show _ ≤ (1 : Nat); omega), (by show _ ≤ (2 * (xLn (hasR V r) Ln n - Ln) : Nat); omega)⟩ (fun r_3 u H locs hq_2 hP hD hS => ?_)
    obtain ⟨be_4, B_5⟩ := u
    have hP : va_P D vwCl [(ad 0, .inr (7, [.ref (ad 1), .ref (ad 4), .ref (ad 8), .ref (ad 12), .ref (ad 16), .ref (ad 18)])), (ad 4, .inr (0, [.ref (ad 1), .ref (ad 5), .ref (ad 6), .ref (ad 7)])), (ad 5, .inl (cI, 8, .inl (iA (P)))), (ad 7, .inl (cZ, 8, .inl (iA (Mo)))), (ad 1, .inr (4, [.ref (ad 2), .ref (be_4), .int (iI (n))])), (ad 2, .inl (cI, 160, .inl (iA (V)))), (be_4, .inl (cI, gLn Ln n, .inl (iA (B_5)))), (ad 6, .inl (cI, 8, .inl (iA (Ac)))), (ad 12, .inr (1, [.ref (ad 1), .ref (ad 4), .ref (ad 13)])), (ad 13, .inr (3, [.ref (ad 14), .ref (ad 15), .int (iI (ql))])), (ad 14, .inl (cI, 80, .inl (iA (Qa)))), (ad 15, .inl (cZ, 80, .inl (iA (Qk))))] H := hP
    have hD : va_D AA [(ad 0, .inr (7, [.ref (ad 1), .ref (ad 4), .ref (ad 8), .ref (ad 12), .ref (ad 16), .ref (ad 18)])), (ad 4, .inr (0, [.ref (ad 1), .ref (ad 5), .ref (ad 6), .ref (ad 7)])), (ad 5, .inl (cI, 8, .inl (iA (P)))), (ad 7, .inl (cZ, 8, .inl (iA (Mo)))), (ad 1, .inr (4, [.ref (ad 2), .ref (be_4), .int (iI (n))])), (ad 2, .inl (cI, 160, .inl (iA (V)))), (be_4, .inl (cI, gLn Ln n, .inl (iA (B_5)))), (ad 6, .inl (cI, 8, .inl (iA (Ac)))), (ad 12, .inr (1, [.ref (ad 1), .ref (ad 4), .ref (ad 13)])), (ad 13, .inr (3, [.ref (ad 14), .ref (ad 15), .int (iI (ql))])), (ad 14, .inl (cI, 80, .inl (iA (Qa)))), (ad 15, .inl (cZ, 80, .inl (iA (Qk))))] := hD
    try dsimp only at hq_2
    obtain ⟨hv9, hq_2⟩ := hq_2
    have hv9 := hv9.symm
    subst hv9
    refine lv_istore_n (lv' := [(2, .int (iI ((n)))), (0, .ref (ad 0)), (1, .int (iI (r)))]) hx hb dX7_deleteRow_21 rfl hl (by decide) rfl (fun ls hl => ?_)
    refine lv_aload_n hx hb dX7_deleteRow_22 rfl (lv_at hl 1 rfl) ?_
    refine va_get (D := D) (ci := 7) (v := .ref (ad 12)) (C := RX7) (T := TX7) (N := 6) hx hb hts (fun _ h => List.mem_cons_of_mem _ (List.mem_append_left _ (List.mem_append_left _ (List.mem_append_left _ (List.mem_append_left _ (List.mem_append_right _ (h))))))) hown hK.1 hP 0 rfl rfl 3 (by decide) (hts (.fieldLink RX7 37 "ForeignKeyStore" "deletion" "LForeignKeyStore$Deletion;") (List.mem_of_getElem? (i := 2) rfl)) (fun _ h9 => h9) rfl dX7_deleteRow_23 ?_
    refine lv_iload_n hx hb dX7_deleteRow_26 rfl (lv_at hl 2 rfl) ?_
    refine z_muV (As := [.int (iI (r))]) (rest := []) (wr := [(ad 0, .inr (7, [.ref (ad 1), .ref (ad 4), .ref (ad 8), .ref (ad 12), .ref (ad 16), .ref (ad 18)])), (ad 7, .inl (cZ, 8, .inl (iA (Mo))))]) (ws2 := (fun (u : (Int → Int) × (Int → Int) × Int × (Int → Int) × (Int → Int) × Int) => [(ad 0, .inr (7, [.ref (ad 1), .ref (ad 4), .ref (ad 8), .ref (ad 12), .ref (ad 16), .ref (ad 18)])), (ad 4, .inr (0, [.ref (ad 1), .ref (ad 5), .ref (ad 6), .ref (ad 7)])), (ad 5, .inl (cI, 8, .inl (iA (P)))), (ad 7, .inl (cZ, 8, .inl (iA (Mo)))), (ad 1, .inr (4, [.ref (ad 2), .ref (be_4), .int (iI (u.2.2.1))])), (ad 2, .inl (cI, 160, .inl (iA (u.1)))), (be_4, .inl (cI, (gLn Ln n), .inl (iA (u.2.1)))), (ad 6, .inl (cI, 8, .inl (iA (Ac)))), (ad 12, .inr (1, [.ref (ad 1), .ref (ad 4), .ref (ad 13)])), (ad 13, .inr (3, [.ref (ad 14), .ref (ad 15), .int (iI (u.2.2.2.2.2))])), (ad 14, .inl (cI, 80, .inl (iA (u.2.2.2.1)))), (ad 15, .inl (cZ, 80, .inl (iA (u.2.2.2.2.1))))])) ⟨hx, hb, hml, hown, hts⟩ (c_X1_run l D cI cZ cC H.size (ad) (be_4) (gLn Ln n) (P) (Ac) (V) (B_5) (n) (Qa) (Qk) (ql) (N) (lg) (r) (by first | assumption | omega) (by first | assumption | omega) (⟨g_V, (okH_top g_H).2.1, by omega, by omega, by omega⟩) (isL_ag g_L hq_2) (g_H) (by first | assumption | omega) (g_h.2.2)) (cwV 1 hts gX7_deleteRow_X1_run rfl rfl rfl (by decide +kernel) ⟨Nat.le_of_ble_eq_true rfl, Nat.le_of_ble_eq_true rfl⟩) hP hD hS hA hK [8, 1, 2, 7, 4, 5, 6, 9, 10, 11] [0, 3] [0, 3, 4, 1, 6, 7, 8, 5, 2, 9, 10, 11] rfl (by decide) rfl (by decide) (by decide) (by decide) (fun _ => rfl) 8 1 rfl rfl rfl rfl hl.1 rfl (Nat.le_of_ble_eq_true rfl) dX7_deleteRow_27 ⟨(by show _ ≤ (1 : Nat); omega), (by show _ ≤ (2 * (xLn (hasR V r) Ln n - Ln) : Nat); omega)⟩ (fun r_7 u H locs hq_6 hP hD hS => ?_)
    obtain ⟨V_8, B_9, n_10, Qa_11, Qk_12, ql_13⟩ := u
    have hP : va_P D vwCl [(ad 0, .inr (7, [.ref (ad 1), .ref (ad 4), .ref (ad 8), .ref (ad 12), .ref (ad 16), .ref (ad 18)])), (ad 4, .inr (0, [.ref (ad 1), .ref (ad 5), .ref (ad 6), .ref (ad 7)])), (ad 5, .inl (cI, 8, .inl (iA (P)))), (ad 7, .inl (cZ, 8, .inl (iA (Mo)))), (ad 1, .inr (4, [.ref (ad 2), .ref (be_4), .int (iI (n_10))])), (ad 2, .inl (cI, 160, .inl (iA (V_8)))), (be_4, .inl (cI, (gLn Ln n), .inl (iA (B_9)))), (ad 6, .inl (cI, 8, .inl (iA (Ac)))), (ad 12, .inr (1, [.ref (ad 1), .ref (ad 4), .ref (ad 13)])), (ad 13, .inr (3, [.ref (ad 14), .ref (ad 15), .int (iI (ql_13))])), (ad 14, .inl (cI, 80, .inl (iA (Qa_11)))), (ad 15, .inl (cZ, 80, .inl (iA (Qk_12))))] H := hP
    have hD : va_D AA [(ad 0, .inr (7, [.ref (ad 1), .ref (ad 4), .ref (ad 8), .ref (ad 12), .ref (ad 16), .ref (ad 18)])), (ad 4, .inr (0, [.ref (ad 1), .ref (ad 5), .ref (ad 6), .ref (ad 7)])), (ad 5, .inl (cI, 8, .inl (iA (P)))), (ad 7, .inl (cZ, 8, .inl (iA (Mo)))), (ad 1, .inr (4, [.ref (ad 2), .ref (be_4), .int (iI (n_10))])), (ad 2, .inl (cI, 160, .inl (iA (V_8)))), (be_4, .inl (cI, (gLn Ln n), .inl (iA (B_9)))), (ad 6, .inl (cI, 8, .inl (iA (Ac)))), (ad 12, .inr (1, [.ref (ad 1), .ref (ad 4), .ref (ad 13)])), (ad 13, .inr (3, [.ref (ad 14), .ref (ad 15), .int (iI (ql_13))])), (ad 14, .inl (cI, 80, .inl (iA (Qa_11)))), (ad 15, .inl (cZ, 80, .inl (iA (Qk_12))))] := hD
    try dsimp only at hq_6
    obtain ⟨h_v, lgd, Qsd, h_d, h_D, h_L1, h_H1, h_E1⟩ := hq_6
    have h_dn := isL_n h_L1
    have h_en := extL_len h_E1
    refine lv_istore_n (lv' := [(3, .int (iI (r_7))), (2, .int (iI ((n)))), (0, .ref (ad 0)), (1, .int (iI (r)))]) hx hb dX7_deleteRow_30 rfl hl (by decide) rfl (fun ls hl => ?_)
    refine lv_aload_n hx hb dX7_deleteRow_31 rfl (lv_at hl 2 rfl) ?_
    refine lv_iload_n hx hb dX7_deleteRow_32 rfl (lv_at hl 1 rfl) ?_
    refine lv_iload_n hx hb dX7_deleteRow_33 rfl (lv_at hl 0 rfl) ?_
    refine z_muV (As := [.int (iI ((n))), .int (iI (r_7))]) (rest := []) (wr := [(ad 6, .inl (cI, 8, .inl (iA (Ac)))), (ad 12, .inr (1, [.ref (ad 1), .ref (ad 4), .ref (ad 13)])), (ad 13, .inr (3, [.ref (ad 14), .ref (ad 15), .int (iI (ql_13))])), (ad 14, .inl (cI, 80, .inl (iA (Qa_11)))), (ad 15, .inl (cZ, 80, .inl (iA (Qk_12))))]) (ws2 := (fun (u : (Int → Int) × Int) => [(ad 0, .inr (7, [.ref (ad 1), .ref (ad 4), .ref (ad 8), .ref (ad 12), .ref (ad 16), .ref (ad 18)])), (ad 4, .inr (0, [.ref (ad 1), .ref (ad 5), .ref (ad 6), .ref (ad 7)])), (ad 5, .inl (cI, 8, .inl (iA (P)))), (ad 7, .inl (cZ, 8, .inl (iA (Mo)))), (ad 1, .inr (4, [.ref (ad 2), .ref (be_4), .int (iI (u.2))])), (ad 2, .inl (cI, 160, .inl (iA (u.1)))), (be_4, .inl (cI, ((gLn Ln n)), .inl (iA (B_9)))), (ad 6, .inl (cI, 8, .inl (iA (Ac)))), (ad 12, .inr (1, [.ref (ad 1), .ref (ad 4), .ref (ad 13)])), (ad 13, .inr (3, [.ref (ad 14), .ref (ad 15), .int (iI (ql_13))])), (ad 14, .inl (cI, 80, .inl (iA (Qa_11)))), (ad 15, .inl (cZ, 80, .inl (iA (Qk_12))))])) ⟨hx, hb, hml, hown, hts⟩ (c_X7_endStatement l D cI cZ cC H.size (ad) (be_4) ((gLn Ln n)) (P) (Mo) (V_8) (B_9) (n_10) (N) (lgd) ((n)) (r_7) (by first | assumption | omega) (by first | assumption | omega) (h_H1) (h_L1) (⟨by have := h_D.2.2; have := (pot_b V_8).1; omega, by omega⟩) (⟨by omega, by omega⟩) (⟨by omega, by omega⟩)) (cwV 2 hts gX7_deleteRow_X7_endStatement rfl rfl rfl (by decide +kernel) ⟨Nat.le_of_ble_eq_true rfl, Nat.le_of_ble_eq_true rfl⟩) hP hD hS hA hK [0, 1, 2, 3, 4, 5, 6] [7, 8, 9, 10, 11] [5, 6, 7, 8, 9, 10, 11, 0, 1, 2, 3, 4] rfl (by decide) rfl (by decide) (by decide) (by decide) (fun _ => rfl) 0 7 rfl rfl rfl rfl hl.1 rfl (Nat.le_of_ble_eq_true rfl) dX7_deleteRow_34 ⟨(by show _ ≤ (1 : Nat); omega), (by show _ ≤ (2 * (xLn (hasR V r) Ln n - Ln) : Nat); omega)⟩ (fun r_15 u H locs hq_14 hP hD hS => ?_)
    obtain ⟨V_16, n_17⟩ := u
    have hP : va_P D vwCl [(ad 0, .inr (7, [.ref (ad 1), .ref (ad 4), .ref (ad 8), .ref (ad 12), .ref (ad 16), .ref (ad 18)])), (ad 4, .inr (0, [.ref (ad 1), .ref (ad 5), .ref (ad 6), .ref (ad 7)])), (ad 5, .inl (cI, 8, .inl (iA (P)))), (ad 7, .inl (cZ, 8, .inl (iA (Mo)))), (ad 1, .inr (4, [.ref (ad 2), .ref (be_4), .int (iI (n_17))])), (ad 2, .inl (cI, 160, .inl (iA (V_16)))), (be_4, .inl (cI, ((gLn Ln n)), .inl (iA (B_9)))), (ad 6, .inl (cI, 8, .inl (iA (Ac)))), (ad 12, .inr (1, [.ref (ad 1), .ref (ad 4), .ref (ad 13)])), (ad 13, .inr (3, [.ref (ad 14), .ref (ad 15), .int (iI (ql_13))])), (ad 14, .inl (cI, 80, .inl (iA (Qa_11)))), (ad 15, .inl (cZ, 80, .inl (iA (Qk_12))))] H := hP
    have hD : va_D AA [(ad 0, .inr (7, [.ref (ad 1), .ref (ad 4), .ref (ad 8), .ref (ad 12), .ref (ad 16), .ref (ad 18)])), (ad 4, .inr (0, [.ref (ad 1), .ref (ad 5), .ref (ad 6), .ref (ad 7)])), (ad 5, .inl (cI, 8, .inl (iA (P)))), (ad 7, .inl (cZ, 8, .inl (iA (Mo)))), (ad 1, .inr (4, [.ref (ad 2), .ref (be_4), .int (iI (n_17))])), (ad 2, .inl (cI, 160, .inl (iA (V_16)))), (be_4, .inl (cI, ((gLn Ln n)), .inl (iA (B_9)))), (ad 6, .inl (cI, 8, .inl (iA (Ac)))), (ad 12, .inr (1, [.ref (ad 1), .ref (ad 4), .ref (ad 13)])), (ad 13, .inr (3, [.ref (ad 14), .ref (ad 15), .int (iI (ql_13))])), (ad 14, .inl (cI, 80, .inl (iA (Qa_11)))), (ad 15, .inl (cZ, 80, .inl (iA (Qk_12))))] := hD
    try dsimp only at hq_14
    rw [← hx9] at hP hD
    refine W.widen (k := 1) (n := 2 * (xLn (hasR V r) Ln n - Ln)) (by omega) (by omega) ?_
    refine z_mret ((be_4, V_16, B_9, n_17, Qa_11, Qk_12, ql_13)) hx hb hr hlocks dX7_deleteRow_37 hP hD hS ?_
    obtain ⟨lg2, k1, k2, k3⟩ := stm_post h_E1 h_L1 h_H1 g_nn hq_14
    exact ⟨enF_ib hq_14 (by omega), lg2, by rw [delF_t g_h, ← h_d]; exact k1, k2, k3, stm_ext h_E1 k1, by have := enF_n hq_14; have := h_D.2.2; have := (pot_b V_8).1; dsimp only; omega, fun e => by have := enF_v hq_14 (by omega); omega, fun e => absurd g_h e⟩
  · refine lv_bipush (v := iI (-3)) hx hb dX7_deleteRow_11 (by decide) ?_
    have hx9 : xLn (hasR V r) Ln n = Ln := xLn_f c_1
    rw [← hx9] at hP hD
    refine W.widen (k := 1) (n := 2 * (xLn (hasR V r) Ln n - Ln)) (by omega) (by omega) ?_
    refine z_mret ((be, V, B, n, Qa, Qk, ql)) hx hb hr hlocks dX7_deleteRow_13 hP hD hS ?_
    exact ⟨⟨by omega, by omega⟩, lg, (delF_f c_1).symm, g_L, g_H, extL_rf _ _, by rw [hx9]; exact g_Ln.2.1, fun _ => c_1, fun _ => rfl⟩

set_option maxHeartbeats 600000 in
set_option maxRecDepth 100000 in
theorem c_X7_commitAll (l : Launch) (D : va_G) (cI cZ cC : ClassId) (sz : Nat) (ad : Nat → Nat) (be Ln : Nat) (P Mo V B : Int → Int) (n : Int) (sn : Int) (g_P : ∀ j : Int, 0 ≤ j → j < 8 → P j = -2 ∨ (0 ≤ P j ∧ P j < 4)) (g_Mo : ∀ j : Int, 0 ≤ j → j < 8 → Mo j = 0 ∨ Mo j = 1) (g_V : ∀ j : Int, 0 ≤ j → j < 160 → -2 ≤ V j ∧ V j ≤ 19) (g_n : 0 ≤ n ∧ n < 2147483648) : zMi l yX7_commitAll wsX7_commitAll ({ frames := 3, cells := 0, slots := 0, locals := 71 }) D cI cZ cC [(ad 0, .inr (7, [.ref (ad 1), .ref (ad 4), .ref (ad 8), .ref (ad 12), .ref (ad 16), .ref (ad 18)])), (ad 4, .inr (0, [.ref (ad 1), .ref (ad 5), .ref (ad 6), .ref (ad 7)])), (ad 5, .inl (cI, 8, .inl (iA (P)))), (ad 7, .inl (cZ, 8, .inl (iA (Mo)))), (ad 1, .inr (4, [.ref (ad 2), .ref (be), .int (iI (n))])), (ad 2, .inl (cI, 160, .inl (iA (V)))), (be, .inl (cI, Ln, .inl (iA (B)))), (ad 16, .inr (5, [.ref (ad 17), .int (iI (sn))]))] sz [.ref (ad 0)] (0) (0) (fun (u : Int × Int) => [(ad 0, .inr (7, [.ref (ad 1), .ref (ad 4), .ref (ad 8), .ref (ad 12), .ref (ad 16), .ref (ad 18)])), (ad 4, .inr (0, [.ref (ad 1), .ref (ad 5), .ref (ad 6), .ref (ad 7)])), (ad 5, .inl (cI, 8, .inl (iA (P)))), (ad 7, .inl (cZ, 8, .inl (iA (Mo)))), (ad 1, .inr (4, [.ref (ad 2), .ref (be), .int (iI (u.1))])), (ad 2, .inl (cI, 160, .inl (iA (V)))), (be, .inl (cI, Ln, .inl (iA (B)))), (ad 16, .inr (5, [.ref (ad 17), .int (iI (u.2))]))]) (fun v (u : Int × Int) => ib v ∧ (v, u.1, u.2) = (if fR (badC 1 Mo P V) 8 0 = 0 then (n, 0, 0) else (fR (badC 1 Mo P V) 8 0, n, sn))) := by
  refine z_ofMi (cc := cX7_commitAll) (maxL := 3) (ret := (some .int)) RX7 (by decide +kernel) rfl rfl (Nat.le_of_ble_eq_true rfl) ?_
  intro p0 en0 s0 m0 args0 below0 meth0 c0 ls AA hx hb hr hlocks hml hown hts hP hD hS hA hK hl
  have hl : lv_has ls 3 [(0, .ref (ad 0))] := hl
  obtain ⟨H, hH⟩ : ∃ H, H = s0.heap := ⟨_, rfl⟩
  obtain ⟨locs, hlo⟩ : ∃ locs : List Loc, locs = [] := ⟨_, rfl⟩
  have hP : va_P D vwCl [(ad 0, .inr (7, [.ref (ad 1), .ref (ad 4), .ref (ad 8), .ref (ad 12), .ref (ad 16), .ref (ad 18)])), (ad 4, .inr (0, [.ref (ad 1), .ref (ad 5), .ref (ad 6), .ref (ad 7)])), (ad 5, .inl (cI, 8, .inl (iA (P)))), (ad 7, .inl (cZ, 8, .inl (iA (Mo)))), (ad 1, .inr (4, [.ref (ad 2), .ref (be), .int (iI (n))])), (ad 2, .inl (cI, 160, .inl (iA (V)))), (be, .inl (cI, Ln, .inl (iA (B)))), (ad 16, .inr (5, [.ref (ad 17), .int (iI (sn))]))] H := by rw [hH]; exact hP
  have hS : va_S AA s0.heap H locs := by rw [hH, hlo]; exact hS
  suffices hW : W p0 l en0 (headSpec wsX7_commitAll ({ frames := 3, cells := 0, slots := 0, locals := 71 })).room s0 m0 args0 below0 meth0 c0 H locs 0 0 (QMi below0 D ((fun (u : Int × Int) => [(ad 0, .inr (7, [.ref (ad 1), .ref (ad 4), .ref (ad 8), .ref (ad 12), .ref (ad 16), .ref (ad 18)])), (ad 4, .inr (0, [.ref (ad 1), .ref (ad 5), .ref (ad 6), .ref (ad 7)])), (ad 5, .inl (cI, 8, .inl (iA (P)))), (ad 7, .inl (cZ, 8, .inl (iA (Mo)))), (ad 1, .inr (4, [.ref (ad 2), .ref (be), .int (iI (u.1))])), (ad 2, .inl (cI, 160, .inl (iA (V)))), (be, .inl (cI, Ln, .inl (iA (B)))), (ad 16, .inr (5, [.ref (ad 17), .int (iI (u.2))]))])) (fun v (u : Int × Int) => ib v ∧ (v, u.1, u.2) = (if fR (badC 1 Mo P V) 8 0 = 0 then (n, 0, 0) else (fR (badC 1 Mo P V) 8 0, n, sn))) AA args0 s0 (0) (0)) (F0 m0 0 ls []) by rw [hH, hlo] at hW; exact hW
  refine lv_aload_n hx hb dX7_commitAll_0 rfl (lv_at hl 0 rfl) ?_
  refine va_get (D := D) (ci := 7) (v := .ref (ad 4)) (C := RX7) (T := TX7) (N := 6) hx hb hts (fun _ h => List.mem_cons_of_mem _ (List.mem_append_left _ (List.mem_append_left _ (List.mem_append_left _ (List.mem_append_right _ (h)))))) hown hK.1 hP 0 rfl rfl 1 (by decide) (hts (.fieldLink RX7 21 "ForeignKeyStore" "constraintSet" "LForeignKeyStore$Constraints;") (List.mem_of_getElem? (i := 1) rfl)) (fun _ h9 => h9) rfl dX7_commitAll_1 ?_
  refine lv_iconst (v := iI (1)) hx hb dX7_commitAll_4 rfl ?_
  refine z_roV (As := [.int (iI (1))]) (rest := []) ⟨hx, hb, hml, hown, hts⟩ (c_X0_firstRefusal l D cI cZ cC (ad) (be) (n) (P) (Mo) (V) (1) (by first | assumption | omega) (by first | assumption | omega) (by first | assumption | omega) (by first | assumption | omega)) (cwV 1 hts gX7_commitAll_X0_firstRefusal rfl rfl rfl (by decide +kernel) ⟨Nat.le_of_ble_eq_true rfl, Nat.le_of_ble_eq_true rfl⟩) hP hK [1, 2, 3, 4, 5] rfl 1 0 rfl rfl rfl rfl hl.1 rfl (Nat.le_of_ble_eq_true rfl) dX7_commitAll_5 ⟨by omega, by omega⟩ ?_
  have hf_1 := fR_b (badC 1 Mo P V) 8 0
  refine lv_istore_n (lv' := [(1, .int (iI ((fR (badC 1 Mo P V) 8 0)))), (0, .ref (ad 0))]) hx hb dX7_commitAll_8 rfl hl (by decide) rfl (fun ls hl => ?_)
  refine lv_iload_n hx hb dX7_commitAll_9 rfl (lv_at hl 0 rfl) ?_
  refine z_if_eq (tgt := 15) hx hb dX7_commitAll_10 (by decide) ⟨by omega, by omega⟩ (fun c_2 => ?_) (fun c_2 => ?_)
  · refine lv_aload_n hx hb dX7_commitAll_15 rfl (lv_at hl 1 rfl) ?_
    refine va_get (D := D) (ci := 7) (v := .ref (ad 1)) (C := RX7) (T := TX7) (N := 6) hx hb hts (fun _ h => List.mem_cons_of_mem _ (List.mem_append_left _ (List.mem_append_left _ (List.mem_append_left _ (List.mem_append_right _ (h)))))) hown hK.1 hP 0 rfl rfl 0 (by decide) (hts (.fieldLink RX7 12 "ForeignKeyStore" "rowStore" "LForeignKeyStore$Rows;") (List.mem_of_getElem? (i := 2) rfl)) (fun _ h9 => h9) rfl dX7_commitAll_16 ?_
    refine z_roV (As := []) (rest := []) ⟨hx, hb, hml, hown, hts⟩ (c_X4_changeCount l D cI cZ cC (ad) (be) (n) ) (cwV 0 hts gX7_commitAll_X4_changeCount rfl rfl rfl (by decide +kernel) ⟨Nat.le_of_ble_eq_true rfl, Nat.le_of_ble_eq_true rfl⟩) hP hK [4] rfl 4 4 rfl rfl rfl rfl hl.1 rfl (Nat.le_of_ble_eq_true rfl) dX7_commitAll_19 ⟨by omega, by omega⟩ ?_
    refine lv_istore_n (lv' := [(2, .int (iI ((n)))), (1, .int (iI ((fR (badC 1 Mo P V) 8 0)))), (0, .ref (ad 0))]) hx hb dX7_commitAll_22 rfl hl (by decide) rfl (fun ls hl => ?_)
    refine lv_aload_n hx hb dX7_commitAll_23 rfl (lv_at hl 2 rfl) ?_
    refine va_get (D := D) (ci := 7) (v := .ref (ad 1)) (C := RX7) (T := TX7) (N := 6) hx hb hts (fun _ h => List.mem_cons_of_mem _ (List.mem_append_left _ (List.mem_append_left _ (List.mem_append_left _ (List.mem_append_right _ (h)))))) hown hK.1 hP 0 rfl rfl 0 (by decide) (hts (.fieldLink RX7 12 "ForeignKeyStore" "rowStore" "LForeignKeyStore$Rows;") (List.mem_of_getElem? (i := 2) rfl)) (fun _ h9 => h9) rfl dX7_commitAll_24 ?_
    refine z_mvV (As := []) (rest := []) (wr := [(ad 0, .inr (7, [.ref (ad 1), .ref (ad 4), .ref (ad 8), .ref (ad 12), .ref (ad 16), .ref (ad 18)])), (ad 4, .inr (0, [.ref (ad 1), .ref (ad 5), .ref (ad 6), .ref (ad 7)])), (ad 5, .inl (cI, 8, .inl (iA (P)))), (ad 7, .inl (cZ, 8, .inl (iA (Mo)))), (ad 2, .inl (cI, 160, .inl (iA (V)))), (be, .inl (cI, Ln, .inl (iA (B)))), (ad 16, .inr (5, [.ref (ad 17), .int (iI (sn))]))]) (ws2 := (fun (u : Unit) => [(ad 0, .inr (7, [.ref (ad 1), .ref (ad 4), .ref (ad 8), .ref (ad 12), .ref (ad 16), .ref (ad 18)])), (ad 4, .inr (0, [.ref (ad 1), .ref (ad 5), .ref (ad 6), .ref (ad 7)])), (ad 5, .inl (cI, 8, .inl (iA (P)))), (ad 7, .inl (cZ, 8, .inl (iA (Mo)))), (ad 1, .inr (4, [.ref (ad 2), .ref (be), .int (iI (0))])), (ad 2, .inl (cI, 160, .inl (iA (V)))), (be, .inl (cI, Ln, .inl (iA (B)))), (ad 16, .inr (5, [.ref (ad 17), .int (iI (sn))]))])) ⟨hx, hb, hml, hown, hts⟩ (c_X4_forgetChanges l D cI cZ cC H.size (ad) (be) (n) ) (cwV 0 hts gX7_commitAll_X4_forgetChanges rfl rfl rfl (by decide +kernel) ⟨Nat.le_of_ble_eq_true rfl, Nat.le_of_ble_eq_true rfl⟩) hP hD hS hA hK [4] [0, 1, 2, 3, 5, 6, 7] [0, 1, 2, 3, 7, 4, 5, 6] rfl (by decide) rfl (by decide) (by decide) (by decide) (fun _ => rfl) 4 4 rfl rfl rfl rfl hl.1 rfl (Nat.le_of_ble_eq_true rfl) dX7_commitAll_27 ⟨by omega, by omega⟩ (fun u H locs hq_3 hP hD hS => ?_)
    have hP : va_P D vwCl [(ad 0, .inr (7, [.ref (ad 1), .ref (ad 4), .ref (ad 8), .ref (ad 12), .ref (ad 16), .ref (ad 18)])), (ad 4, .inr (0, [.ref (ad 1), .ref (ad 5), .ref (ad 6), .ref (ad 7)])), (ad 5, .inl (cI, 8, .inl (iA (P)))), (ad 7, .inl (cZ, 8, .inl (iA (Mo)))), (ad 1, .inr (4, [.ref (ad 2), .ref (be), .int (iI (0))])), (ad 2, .inl (cI, 160, .inl (iA (V)))), (be, .inl (cI, Ln, .inl (iA (B)))), (ad 16, .inr (5, [.ref (ad 17), .int (iI (sn))]))] H := hP
    have hD : va_D AA [(ad 0, .inr (7, [.ref (ad 1), .ref (ad 4), .ref (ad 8), .ref (ad 12), .ref (ad 16), .ref (ad 18)])), (ad 4, .inr (0, [.ref (ad 1), .ref (ad 5), .ref (ad 6), .ref (ad 7)])), (ad 5, .inl (cI, 8, .inl (iA (P)))), (ad 7, .inl (cZ, 8, .inl (iA (Mo)))), (ad 1, .inr (4, [.ref (ad 2), .ref (be), .int (iI (0))])), (ad 2, .inl (cI, 160, .inl (iA (V)))), (be, .inl (cI, Ln, .inl (iA (B)))), (ad 16, .inr (5, [.ref (ad 17), .int (iI (sn))]))] := hD
    try dsimp only at hq_3
    refine lv_aload_n hx hb dX7_commitAll_30 rfl (lv_at hl 2 rfl) ?_
    refine va_get (D := D) (ci := 7) (v := .ref (ad 16)) (C := RX7) (T := TX7) (N := 6) hx hb hts (fun _ h => List.mem_cons_of_mem _ (List.mem_append_left _ (List.mem_append_left _ (List.mem_append_left _ (List.mem_append_right _ (h)))))) hown hK.1 hP 0 rfl rfl 4 (by decide) (hts (.fieldLink RX7 44 "ForeignKeyStore" "points" "LForeignKeyStore$SavePointList;") (List.mem_of_getElem? (i := 3) rfl)) (fun _ h9 => h9) rfl dX7_commitAll_31 ?_
    refine lv_iconst (v := iI (0)) hx hb dX7_commitAll_34 rfl ?_
    refine z_mvV (As := [.int (iI (0))]) (rest := []) (wr := [(ad 0, .inr (7, [.ref (ad 1), .ref (ad 4), .ref (ad 8), .ref (ad 12), .ref (ad 16), .ref (ad 18)])), (ad 4, .inr (0, [.ref (ad 1), .ref (ad 5), .ref (ad 6), .ref (ad 7)])), (ad 5, .inl (cI, 8, .inl (iA (P)))), (ad 7, .inl (cZ, 8, .inl (iA (Mo)))), (ad 1, .inr (4, [.ref (ad 2), .ref (be), .int (iI (0))])), (ad 2, .inl (cI, 160, .inl (iA (V)))), (be, .inl (cI, Ln, .inl (iA (B))))]) (ws2 := (fun (u : Unit) => [(ad 0, .inr (7, [.ref (ad 1), .ref (ad 4), .ref (ad 8), .ref (ad 12), .ref (ad 16), .ref (ad 18)])), (ad 4, .inr (0, [.ref (ad 1), .ref (ad 5), .ref (ad 6), .ref (ad 7)])), (ad 5, .inl (cI, 8, .inl (iA (P)))), (ad 7, .inl (cZ, 8, .inl (iA (Mo)))), (ad 1, .inr (4, [.ref (ad 2), .ref (be), .int (iI (0))])), (ad 2, .inl (cI, 160, .inl (iA (V)))), (be, .inl (cI, Ln, .inl (iA (B)))), (ad 16, .inr (5, [.ref (ad 17), .int (iI (0))]))])) ⟨hx, hb, hml, hown, hts⟩ (c_X5_cutTo l D cI cZ cC H.size (ad) (sn) (0) ) (cwV 1 hts gX7_commitAll_X5_cutTo rfl rfl rfl (by decide +kernel) ⟨Nat.le_of_ble_eq_true rfl, Nat.le_of_ble_eq_true rfl⟩) hP hD hS hA hK [7] [0, 1, 2, 3, 4, 5, 6] [0, 1, 2, 3, 4, 5, 6, 7] rfl (by decide) rfl (by decide) (by decide) (by decide) (fun _ => rfl) 7 5 rfl rfl rfl rfl hl.1 rfl (Nat.le_of_ble_eq_true rfl) dX7_commitAll_35 ⟨by omega, by omega⟩ (fun u H locs hq_4 hP hD hS => ?_)
    have hP : va_P D vwCl [(ad 0, .inr (7, [.ref (ad 1), .ref (ad 4), .ref (ad 8), .ref (ad 12), .ref (ad 16), .ref (ad 18)])), (ad 4, .inr (0, [.ref (ad 1), .ref (ad 5), .ref (ad 6), .ref (ad 7)])), (ad 5, .inl (cI, 8, .inl (iA (P)))), (ad 7, .inl (cZ, 8, .inl (iA (Mo)))), (ad 1, .inr (4, [.ref (ad 2), .ref (be), .int (iI (0))])), (ad 2, .inl (cI, 160, .inl (iA (V)))), (be, .inl (cI, Ln, .inl (iA (B)))), (ad 16, .inr (5, [.ref (ad 17), .int (iI (0))]))] H := hP
    have hD : va_D AA [(ad 0, .inr (7, [.ref (ad 1), .ref (ad 4), .ref (ad 8), .ref (ad 12), .ref (ad 16), .ref (ad 18)])), (ad 4, .inr (0, [.ref (ad 1), .ref (ad 5), .ref (ad 6), .ref (ad 7)])), (ad 5, .inl (cI, 8, .inl (iA (P)))), (ad 7, .inl (cZ, 8, .inl (iA (Mo)))), (ad 1, .inr (4, [.ref (ad 2), .ref (be), .int (iI (0))])), (ad 2, .inl (cI, 160, .inl (iA (V)))), (be, .inl (cI, Ln, .inl (iA (B)))), (ad 16, .inr (5, [.ref (ad 17), .int (iI (0))]))] := hD
    try dsimp only at hq_4
    refine lv_iload_n hx hb dX7_commitAll_38 rfl (lv_at hl 0 rfl) ?_
    refine z_mret ((0, 0)) hx hb hr hlocks dX7_commitAll_39 hP hD hS ?_
    refine ⟨⟨by omega, by omega⟩, ?_⟩
    rw [if_pos (by omega)]
  · refine lv_iload_n hx hb dX7_commitAll_13 rfl (lv_at hl 0 rfl) ?_
    refine z_mret ((n, sn)) hx hb hr hlocks dX7_commitAll_14 hP hD hS ?_
    refine ⟨⟨by omega, by omega⟩, ?_⟩
    rw [if_neg (by omega)]

set_option maxHeartbeats 600000 in
set_option maxRecDepth 100000 in
theorem c_X7_undoAll (l : Launch) (D : va_G) (cI cZ cC : ClassId) (sz : Nat) (ad : Nat → Nat) (be Ln : Nat) (V B : Int → Int) (n N : Int) (lg : Lg) (sn : Int) (SP : Int → Int) (g_H : okH N lg V) (g_L : isL lg B n) (g_Ln : n ≤ (Ln : Int) ∧ Ln < 100000) : zMi l yX7_undoAll wsX7_undoAll ({ frames := 2, cells := 0, slots := 0, locals := 44 }) D cI cZ cC [(ad 0, .inr (7, [.ref (ad 1), .ref (ad 4), .ref (ad 8), .ref (ad 12), .ref (ad 16), .ref (ad 18)])), (ad 1, .inr (4, [.ref (ad 2), .ref (be), .int (iI (n))])), (ad 2, .inl (cI, 160, .inl (iA (V)))), (be, .inl (cI, Ln, .inl (iA (B)))), (ad 16, .inr (5, [.ref (ad 17), .int (iI (sn))])), (ad 17, .inl (cI, 4, .inl (iA (SP))))] sz [.ref (ad 0)] (0) (0) (fun (u : (Int → Int) × Int) => [(ad 0, .inr (7, [.ref (ad 1), .ref (ad 4), .ref (ad 8), .ref (ad 12), .ref (ad 16), .ref (ad 18)])), (ad 1, .inr (4, [.ref (ad 2), .ref (be), .int (iI (u.2))])), (ad 2, .inl (cI, 160, .inl (iA (u.1)))), (be, .inl (cI, Ln, .inl (iA (B)))), (ad 16, .inr (5, [.ref (ad 17), .int (iI (0))])), (ad 17, .inl (cI, 4, .inl (iA (SP))))]) (fun v (u : (Int → Int) × Int) => v = n ∧ u.1 = (unL lg.length V lg).1 ∧ u.2 = 0) := by
  refine z_ofMi (cc := cX7_undoAll) (maxL := 1) (ret := (some .int)) RX7 (by decide +kernel) rfl rfl (Nat.le_of_ble_eq_true rfl) ?_
  intro p0 en0 s0 m0 args0 below0 meth0 c0 ls AA hx hb hr hlocks hml hown hts hP hD hS hA hK hl
  have hl : lv_has ls 1 [(0, .ref (ad 0))] := hl
  obtain ⟨H, hH⟩ : ∃ H, H = s0.heap := ⟨_, rfl⟩
  obtain ⟨locs, hlo⟩ : ∃ locs : List Loc, locs = [] := ⟨_, rfl⟩
  have hP : va_P D vwCl [(ad 0, .inr (7, [.ref (ad 1), .ref (ad 4), .ref (ad 8), .ref (ad 12), .ref (ad 16), .ref (ad 18)])), (ad 1, .inr (4, [.ref (ad 2), .ref (be), .int (iI (n))])), (ad 2, .inl (cI, 160, .inl (iA (V)))), (be, .inl (cI, Ln, .inl (iA (B)))), (ad 16, .inr (5, [.ref (ad 17), .int (iI (sn))])), (ad 17, .inl (cI, 4, .inl (iA (SP))))] H := by rw [hH]; exact hP
  have hS : va_S AA s0.heap H locs := by rw [hH, hlo]; exact hS
  suffices hW : W p0 l en0 (headSpec wsX7_undoAll ({ frames := 2, cells := 0, slots := 0, locals := 44 })).room s0 m0 args0 below0 meth0 c0 H locs 0 0 (QMi below0 D ((fun (u : (Int → Int) × Int) => [(ad 0, .inr (7, [.ref (ad 1), .ref (ad 4), .ref (ad 8), .ref (ad 12), .ref (ad 16), .ref (ad 18)])), (ad 1, .inr (4, [.ref (ad 2), .ref (be), .int (iI (u.2))])), (ad 2, .inl (cI, 160, .inl (iA (u.1)))), (be, .inl (cI, Ln, .inl (iA (B)))), (ad 16, .inr (5, [.ref (ad 17), .int (iI (0))])), (ad 17, .inl (cI, 4, .inl (iA (SP))))])) (fun v (u : (Int → Int) × Int) => v = n ∧ u.1 = (unL lg.length V lg).1 ∧ u.2 = 0) AA args0 s0 (0) (0)) (F0 m0 0 ls []) by rw [hH, hlo] at hW; exact hW
  have g_nn := isL_n g_L
  have hz := unV_L (k := lg.length) (V := V) g_L (Nat.le_refl _)
  have hu : unS n 0 = lg.length := by unfold unS; omega
  refine lv_aload_n hx hb dX7_undoAll_0 rfl (lv_at hl 0 rfl) ?_
  refine va_get (D := D) (ci := 7) (v := .ref (ad 16)) (C := RX7) (T := TX7) (N := 6) hx hb hts (fun _ h => List.mem_cons_of_mem _ (List.mem_append_left _ (List.mem_append_left _ (List.mem_append_right _ (h))))) hown hK.1 hP 0 rfl rfl 4 (by decide) (hts (.fieldLink RX7 44 "ForeignKeyStore" "points" "LForeignKeyStore$SavePointList;") (List.mem_of_getElem? (i := 1) rfl)) (fun _ h9 => h9) rfl dX7_undoAll_1 ?_
  refine lv_iconst (v := iI (0)) hx hb dX7_undoAll_4 rfl ?_
  refine z_mvV (As := [.int (iI (0))]) (rest := []) (wr := [(ad 0, .inr (7, [.ref (ad 1), .ref (ad 4), .ref (ad 8), .ref (ad 12), .ref (ad 16), .ref (ad 18)])), (ad 1, .inr (4, [.ref (ad 2), .ref (be), .int (iI (n))])), (ad 2, .inl (cI, 160, .inl (iA (V)))), (be, .inl (cI, Ln, .inl (iA (B)))), (ad 17, .inl (cI, 4, .inl (iA (SP))))]) (ws2 := (fun (u : Unit) => [(ad 0, .inr (7, [.ref (ad 1), .ref (ad 4), .ref (ad 8), .ref (ad 12), .ref (ad 16), .ref (ad 18)])), (ad 1, .inr (4, [.ref (ad 2), .ref (be), .int (iI (n))])), (ad 2, .inl (cI, 160, .inl (iA (V)))), (be, .inl (cI, Ln, .inl (iA (B)))), (ad 16, .inr (5, [.ref (ad 17), .int (iI (0))])), (ad 17, .inl (cI, 4, .inl (iA (SP))))])) ⟨hx, hb, hml, hown, hts⟩ (c_X5_cutTo l D cI cZ cC H.size (ad) (sn) (0) ) (cwV 1 hts gX7_undoAll_X5_cutTo rfl rfl rfl (by decide +kernel) ⟨Nat.le_of_ble_eq_true rfl, Nat.le_of_ble_eq_true rfl⟩) hP hD hS hA hK [4] [0, 1, 2, 3, 5] [0, 1, 2, 3, 5, 4] rfl (by decide) rfl (by decide) (by decide) (by decide) (fun _ => rfl) 4 5 rfl rfl rfl rfl hl.1 rfl (Nat.le_of_ble_eq_true rfl) dX7_undoAll_5 ⟨by omega, by omega⟩ (fun u H locs hq_1 hP hD hS => ?_)
  have hP : va_P D vwCl [(ad 0, .inr (7, [.ref (ad 1), .ref (ad 4), .ref (ad 8), .ref (ad 12), .ref (ad 16), .ref (ad 18)])), (ad 1, .inr (4, [.ref (ad 2), .ref (be), .int (iI (n))])), (ad 2, .inl (cI, 160, .inl (iA (V)))), (be, .inl (cI, Ln, .inl (iA (B)))), (ad 16, .inr (5, [.ref (ad 17), .int (iI (0))])), (ad 17, .inl (cI, 4, .inl (iA (SP))))] H := hP
  have hD : va_D AA [(ad 0, .inr (7, [.ref (ad 1), .ref (ad 4), .ref (ad 8), .ref (ad 12), .ref (ad 16), .ref (ad 18)])), (ad 1, .inr (4, [.ref (ad 2), .ref (be), .int (iI (n))])), (ad 2, .inl (cI, 160, .inl (iA (V)))), (be, .inl (cI, Ln, .inl (iA (B)))), (ad 16, .inr (5, [.ref (ad 17), .int (iI (0))])), (ad 17, .inl (cI, 4, .inl (iA (SP))))] := hD
  try dsimp only at hq_1
  refine lv_aload_n hx hb dX7_undoAll_8 rfl (lv_at hl 0 rfl) ?_
  refine va_get (D := D) (ci := 7) (v := .ref (ad 1)) (C := RX7) (T := TX7) (N := 6) hx hb hts (fun _ h => List.mem_cons_of_mem _ (List.mem_append_left _ (List.mem_append_left _ (List.mem_append_right _ (h))))) hown hK.1 hP 0 rfl rfl 0 (by decide) (hts (.fieldLink RX7 12 "ForeignKeyStore" "rowStore" "LForeignKeyStore$Rows;") (List.mem_of_getElem? (i := 2) rfl)) (fun _ h9 => h9) rfl dX7_undoAll_9 ?_
  refine lv_iconst (v := iI (0)) hx hb dX7_undoAll_12 rfl ?_
  refine z_muV (As := [.int (iI (0))]) (rest := []) (wr := [(ad 0, .inr (7, [.ref (ad 1), .ref (ad 4), .ref (ad 8), .ref (ad 12), .ref (ad 16), .ref (ad 18)])), (ad 16, .inr (5, [.ref (ad 17), .int (iI (0))])), (ad 17, .inl (cI, 4, .inl (iA (SP))))]) (ws2 := (fun (u : Unit) => [(ad 0, .inr (7, [.ref (ad 1), .ref (ad 4), .ref (ad 8), .ref (ad 12), .ref (ad 16), .ref (ad 18)])), (ad 1, .inr (4, [.ref (ad 2), .ref (be), .int (iI (n - (unS n 0 : Int)))])), (ad 2, .inl (cI, 160, .inl (iA (unV B (unS n 0) V n)))), (be, .inl (cI, Ln, .inl (iA (B)))), (ad 16, .inr (5, [.ref (ad 17), .int (iI (0))])), (ad 17, .inl (cI, 4, .inl (iA (SP))))])) ⟨hx, hb, hml, hown, hts⟩ (c_X4_undoTo l D cI cZ cC H.size (ad) (be) (Ln) (n) (V) (B) (0) (⟨by omega, by omega, by omega⟩) (by first | assumption | omega) (isL_b g_L)) (cwV 1 hts gX7_undoAll_X4_undoTo rfl rfl rfl (by decide +kernel) ⟨Nat.le_of_ble_eq_true rfl, Nat.le_of_ble_eq_true rfl⟩) hP hD hS hA hK [1, 2, 3] [0, 4, 5] [0, 3, 4, 5, 1, 2] rfl (by decide) rfl (by decide) (by decide) (by decide) (fun _ => rfl) 1 4 rfl rfl rfl rfl hl.1 rfl (Nat.le_of_ble_eq_true rfl) dX7_undoAll_13 ⟨by omega, by omega⟩ (fun r_3 u H locs hq_2 hP hD hS => ?_)
  have hP : va_P D vwCl [(ad 0, .inr (7, [.ref (ad 1), .ref (ad 4), .ref (ad 8), .ref (ad 12), .ref (ad 16), .ref (ad 18)])), (ad 1, .inr (4, [.ref (ad 2), .ref (be), .int (iI (n - (unS n 0 : Int)))])), (ad 2, .inl (cI, 160, .inl (iA (unV B (unS n 0) V n)))), (be, .inl (cI, Ln, .inl (iA (B)))), (ad 16, .inr (5, [.ref (ad 17), .int (iI (0))])), (ad 17, .inl (cI, 4, .inl (iA (SP))))] H := hP
  have hD : va_D AA [(ad 0, .inr (7, [.ref (ad 1), .ref (ad 4), .ref (ad 8), .ref (ad 12), .ref (ad 16), .ref (ad 18)])), (ad 1, .inr (4, [.ref (ad 2), .ref (be), .int (iI (n - (unS n 0 : Int)))])), (ad 2, .inl (cI, 160, .inl (iA (unV B (unS n 0) V n)))), (be, .inl (cI, Ln, .inl (iA (B)))), (ad 16, .inr (5, [.ref (ad 17), .int (iI (0))])), (ad 17, .inl (cI, 4, .inl (iA (SP))))] := hD
  try dsimp only at hq_2
  obtain ⟨hv9, hq_2⟩ := hq_2
  have hv9 := hv9.symm
  subst hv9
  rw [hu, hz.1] at hP hD
  refine z_mret ((_, _)) hx hb hr hlocks dX7_undoAll_16 hP hD hS ?_
  refine ⟨by rw [hu]; omega, rfl, by omega⟩

set_option maxHeartbeats 600000 in
set_option maxRecDepth 100000 in
theorem c_X7_makePoint (l : Launch) (D : va_G) (cI cZ cC : ClassId) (sz : Nat) (ad : Nat → Nat) (be : Nat) (n sn : Int) (SP : Int → Int) (g_s : 0 ≤ sn ∧ sn ≤ 4) : zMi l yX7_makePoint wsX7_makePoint ({ frames := 1, cells := 0, slots := 0, locals := 21 }) D cI cZ cC [(ad 0, .inr (7, [.ref (ad 1), .ref (ad 4), .ref (ad 8), .ref (ad 12), .ref (ad 16), .ref (ad 18)])), (ad 1, .inr (4, [.ref (ad 2), .ref (be), .int (iI (n))])), (ad 16, .inr (5, [.ref (ad 17), .int (iI (sn))])), (ad 17, .inl (cI, 4, .inl (iA (SP))))] sz [.ref (ad 0)] (0) (0) (fun (u : Int × (Int → Int)) => [(ad 0, .inr (7, [.ref (ad 1), .ref (ad 4), .ref (ad 8), .ref (ad 12), .ref (ad 16), .ref (ad 18)])), (ad 1, .inr (4, [.ref (ad 2), .ref (be), .int (iI (n))])), (ad 16, .inr (5, [.ref (ad 17), .int (iI (u.1))])), (ad 17, .inl (cI, 4, .inl (iA (u.2))))]) (fun v (u : Int × (Int → Int)) => (v, u.1, u.2) = (if sn < 4 then (sn, sn + 1, uI SP sn n) else (-3, sn, SP))) := by
  refine z_ofMi (cc := cX7_makePoint) (maxL := 2) (ret := (some .int)) RX7 (by decide +kernel) rfl rfl (Nat.le_of_ble_eq_true rfl) ?_
  intro p0 en0 s0 m0 args0 below0 meth0 c0 ls AA hx hb hr hlocks hml hown hts hP hD hS hA hK hl
  have hl : lv_has ls 2 [(0, .ref (ad 0))] := hl
  obtain ⟨H, hH⟩ : ∃ H, H = s0.heap := ⟨_, rfl⟩
  obtain ⟨locs, hlo⟩ : ∃ locs : List Loc, locs = [] := ⟨_, rfl⟩
  have hP : va_P D vwCl [(ad 0, .inr (7, [.ref (ad 1), .ref (ad 4), .ref (ad 8), .ref (ad 12), .ref (ad 16), .ref (ad 18)])), (ad 1, .inr (4, [.ref (ad 2), .ref (be), .int (iI (n))])), (ad 16, .inr (5, [.ref (ad 17), .int (iI (sn))])), (ad 17, .inl (cI, 4, .inl (iA (SP))))] H := by rw [hH]; exact hP
  have hS : va_S AA s0.heap H locs := by rw [hH, hlo]; exact hS
  suffices hW : W p0 l en0 (headSpec wsX7_makePoint ({ frames := 1, cells := 0, slots := 0, locals := 21 })).room s0 m0 args0 below0 meth0 c0 H locs 0 0 (QMi below0 D ((fun (u : Int × (Int → Int)) => [(ad 0, .inr (7, [.ref (ad 1), .ref (ad 4), .ref (ad 8), .ref (ad 12), .ref (ad 16), .ref (ad 18)])), (ad 1, .inr (4, [.ref (ad 2), .ref (be), .int (iI (n))])), (ad 16, .inr (5, [.ref (ad 17), .int (iI (u.1))])), (ad 17, .inl (cI, 4, .inl (iA (u.2))))])) (fun v (u : Int × (Int → Int)) => (v, u.1, u.2) = (if sn < 4 then (sn, sn + 1, uI SP sn n) else (-3, sn, SP))) AA args0 s0 (0) (0)) (F0 m0 0 ls []) by rw [hH, hlo] at hW; exact hW
  refine lv_aload_n hx hb dX7_makePoint_0 rfl (lv_at hl 0 rfl) ?_
  refine va_get (D := D) (ci := 7) (v := .ref (ad 16)) (C := RX7) (T := TX7) (N := 6) hx hb hts (fun _ h => List.mem_cons_of_mem _ (List.mem_append_left _ (List.mem_append_left _ (List.mem_append_right _ (h))))) hown hK.1 hP 0 rfl rfl 4 (by decide) (hts (.fieldLink RX7 44 "ForeignKeyStore" "points" "LForeignKeyStore$SavePointList;") (List.mem_of_getElem? (i := 1) rfl)) (fun _ h9 => h9) rfl dX7_makePoint_1 ?_
  refine z_roV (As := []) (rest := []) ⟨hx, hb, hml, hown, hts⟩ (c_X5_count l D cI cZ cC (ad) (sn) ) (cwV 0 hts gX7_makePoint_X5_count rfl rfl rfl (by decide +kernel) ⟨Nat.le_of_ble_eq_true rfl, Nat.le_of_ble_eq_true rfl⟩) hP hK [2] rfl 2 5 rfl rfl rfl rfl hl.1 rfl (Nat.le_of_ble_eq_true rfl) dX7_makePoint_4 ⟨by omega, by omega⟩ ?_
  refine lv_istore_n (lv' := [(1, .int (iI ((sn)))), (0, .ref (ad 0))]) hx hb dX7_makePoint_7 rfl hl (by decide) rfl (fun ls hl => ?_)
  refine lv_iload_n hx hb dX7_makePoint_8 rfl (lv_at hl 0 rfl) ?_
  refine lv_iconst (v := iI (4)) hx hb dX7_makePoint_9 rfl ?_
  refine z_icmp_lt (tgt := 16) hx hb dX7_makePoint_10 (by decide) ⟨⟨by omega, by omega⟩, ⟨by omega, by omega⟩⟩ (fun c_1 => ?_) (fun c_1 => ?_)
  · refine lv_aload_n hx hb dX7_makePoint_16 rfl (lv_at hl 1 rfl) ?_
    refine va_get (D := D) (ci := 7) (v := .ref (ad 16)) (C := RX7) (T := TX7) (N := 6) hx hb hts (fun _ h => List.mem_cons_of_mem _ (List.mem_append_left _ (List.mem_append_left _ (List.mem_append_right _ (h))))) hown hK.1 hP 0 rfl rfl 4 (by decide) (hts (.fieldLink RX7 44 "ForeignKeyStore" "points" "LForeignKeyStore$SavePointList;") (List.mem_of_getElem? (i := 1) rfl)) (fun _ h9 => h9) rfl dX7_makePoint_17 ?_
    refine lv_aload_n hx hb dX7_makePoint_20 rfl (lv_at hl 1 rfl) ?_
    refine va_get (D := D) (ci := 7) (v := .ref (ad 1)) (C := RX7) (T := TX7) (N := 6) hx hb hts (fun _ h => List.mem_cons_of_mem _ (List.mem_append_left _ (List.mem_append_left _ (List.mem_append_right _ (h))))) hown hK.1 hP 0 rfl rfl 0 (by decide) (hts (.fieldLink RX7 12 "ForeignKeyStore" "rowStore" "LForeignKeyStore$Rows;") (List.mem_of_getElem? (i := 2) rfl)) (fun _ h9 => h9) rfl dX7_makePoint_21 ?_
    refine z_roV (As := []) (rest := [.ref (ad 16)]) ⟨hx, hb, hml, hown, hts⟩ (c_X4_changeCount l D cI cZ cC (ad) (be) (n) ) (cwV 0 hts gX7_makePoint_X4_changeCount rfl rfl rfl (by decide +kernel) ⟨Nat.le_of_ble_eq_true rfl, Nat.le_of_ble_eq_true rfl⟩) hP hK [1] rfl 1 4 rfl rfl rfl rfl hl.1 rfl (Nat.le_of_ble_eq_true rfl) dX7_makePoint_24 ⟨by omega, by omega⟩ ?_
    refine z_mvV (As := [.int (iI ((n)))]) (rest := []) (wr := [(ad 0, .inr (7, [.ref (ad 1), .ref (ad 4), .ref (ad 8), .ref (ad 12), .ref (ad 16), .ref (ad 18)])), (ad 1, .inr (4, [.ref (ad 2), .ref (be), .int (iI (n))]))]) (ws2 := (fun (u : Unit) => [(ad 0, .inr (7, [.ref (ad 1), .ref (ad 4), .ref (ad 8), .ref (ad 12), .ref (ad 16), .ref (ad 18)])), (ad 1, .inr (4, [.ref (ad 2), .ref (be), .int (iI (n))])), (ad 16, .inr (5, [.ref (ad 17), .int (iI (sn + 1))])), (ad 17, .inl (cI, 4, .inl (iA (uI SP sn ((n))))))])) ⟨hx, hb, hml, hown, hts⟩ (c_X5_add l D cI cZ cC H.size (ad) (sn) (SP) ((n)) (by first | assumption | omega)) (cwV 1 hts gX7_makePoint_X5_add rfl rfl rfl (by decide +kernel) ⟨Nat.le_of_ble_eq_true rfl, Nat.le_of_ble_eq_true rfl⟩) hP hD hS hA hK [2, 3] [0, 1] [0, 1, 2, 3] rfl (by decide) rfl (by decide) (by decide) (by decide) (fun _ => rfl) 2 5 rfl rfl rfl rfl hl.1 rfl (Nat.le_of_ble_eq_true rfl) dX7_makePoint_27 ⟨by omega, by omega⟩ (fun u H locs hq_2 hP hD hS => ?_)
    have hP : va_P D vwCl [(ad 0, .inr (7, [.ref (ad 1), .ref (ad 4), .ref (ad 8), .ref (ad 12), .ref (ad 16), .ref (ad 18)])), (ad 1, .inr (4, [.ref (ad 2), .ref (be), .int (iI (n))])), (ad 16, .inr (5, [.ref (ad 17), .int (iI (sn + 1))])), (ad 17, .inl (cI, 4, .inl (iA (uI SP sn ((n))))))] H := hP
    have hD : va_D AA [(ad 0, .inr (7, [.ref (ad 1), .ref (ad 4), .ref (ad 8), .ref (ad 12), .ref (ad 16), .ref (ad 18)])), (ad 1, .inr (4, [.ref (ad 2), .ref (be), .int (iI (n))])), (ad 16, .inr (5, [.ref (ad 17), .int (iI (sn + 1))])), (ad 17, .inl (cI, 4, .inl (iA (uI SP sn ((n))))))] := hD
    try dsimp only at hq_2
    refine lv_iload_n hx hb dX7_makePoint_30 rfl (lv_at hl 0 rfl) ?_
    refine z_mret ((sn + 1, uI SP sn ((n)))) hx hb hr hlocks dX7_makePoint_31 hP hD hS ?_
    rw [if_pos (by omega)]
  · refine lv_bipush (v := iI (-3)) hx hb dX7_makePoint_13 (by decide) ?_
    refine z_mret ((sn, SP)) hx hb hr hlocks dX7_makePoint_15 hP hD hS ?_
    rw [if_neg (by omega)]

set_option maxHeartbeats 600000 in
set_option maxRecDepth 100000 in
theorem c_X7_undoToPoint (l : Launch) (D : va_G) (cI cZ cC : ClassId) (sz : Nat) (ad : Nat → Nat) (be Ln : Nat) (V B : Int → Int) (n N : Int) (lg : Lg) (sn : Int) (SP : Int → Int) (p : Int) (g_H : okH N lg V) (g_L : isL lg B n) (g_Ln : n ≤ (Ln : Int) ∧ Ln < 100000) (g_s : 0 ≤ sn ∧ sn ≤ 4) (g_p : ib p) (g_sp : ∀ j : Int, 0 ≤ j → j < sn → 0 ≤ SP j ∧ SP j < 2147483648) : zMi l yX7_undoToPoint wsX7_undoToPoint ({ frames := 2, cells := 0, slots := 0, locals := 44 }) D cI cZ cC [(ad 0, .inr (7, [.ref (ad 1), .ref (ad 4), .ref (ad 8), .ref (ad 12), .ref (ad 16), .ref (ad 18)])), (ad 1, .inr (4, [.ref (ad 2), .ref (be), .int (iI (n))])), (ad 2, .inl (cI, 160, .inl (iA (V)))), (be, .inl (cI, Ln, .inl (iA (B)))), (ad 16, .inr (5, [.ref (ad 17), .int (iI (sn))])), (ad 17, .inl (cI, 4, .inl (iA (SP))))] sz [.ref (ad 0), .int (iI (p))] (0) (0) (fun (u : (Int → Int) × Int × Int) => [(ad 0, .inr (7, [.ref (ad 1), .ref (ad 4), .ref (ad 8), .ref (ad 12), .ref (ad 16), .ref (ad 18)])), (ad 1, .inr (4, [.ref (ad 2), .ref (be), .int (iI (u.2.1))])), (ad 2, .inl (cI, 160, .inl (iA (u.1)))), (be, .inl (cI, Ln, .inl (iA (B)))), (ad 16, .inr (5, [.ref (ad 17), .int (iI (u.2.2))])), (ad 17, .inl (cI, 4, .inl (iA (SP))))]) (fun v (u : (Int → Int) × Int × Int) => ib v ∧ (v, u.1, u.2.1, u.2.2) = (if 0 ≤ p ∧ p < sn then ((unS n (SP p) : Int), (unL (unS n (SP p)) V lg).1, n - (unS n (SP p) : Int), p + 1) else (-3, V, n, sn))) := by
  refine z_ofMi (cc := cX7_undoToPoint) (maxL := 2) (ret := (some .int)) RX7 (by decide +kernel) rfl rfl (Nat.le_of_ble_eq_true rfl) ?_
  intro p0 en0 s0 m0 args0 below0 meth0 c0 ls AA hx hb hr hlocks hml hown hts hP hD hS hA hK hl
  have hl : lv_has ls 2 [(0, .ref (ad 0)), (1, .int (iI (p)))] := hl
  obtain ⟨H, hH⟩ : ∃ H, H = s0.heap := ⟨_, rfl⟩
  obtain ⟨locs, hlo⟩ : ∃ locs : List Loc, locs = [] := ⟨_, rfl⟩
  have hP : va_P D vwCl [(ad 0, .inr (7, [.ref (ad 1), .ref (ad 4), .ref (ad 8), .ref (ad 12), .ref (ad 16), .ref (ad 18)])), (ad 1, .inr (4, [.ref (ad 2), .ref (be), .int (iI (n))])), (ad 2, .inl (cI, 160, .inl (iA (V)))), (be, .inl (cI, Ln, .inl (iA (B)))), (ad 16, .inr (5, [.ref (ad 17), .int (iI (sn))])), (ad 17, .inl (cI, 4, .inl (iA (SP))))] H := by rw [hH]; exact hP
  have hS : va_S AA s0.heap H locs := by rw [hH, hlo]; exact hS
  suffices hW : W p0 l en0 (headSpec wsX7_undoToPoint ({ frames := 2, cells := 0, slots := 0, locals := 44 })).room s0 m0 args0 below0 meth0 c0 H locs 0 0 (QMi below0 D ((fun (u : (Int → Int) × Int × Int) => [(ad 0, .inr (7, [.ref (ad 1), .ref (ad 4), .ref (ad 8), .ref (ad 12), .ref (ad 16), .ref (ad 18)])), (ad 1, .inr (4, [.ref (ad 2), .ref (be), .int (iI (u.2.1))])), (ad 2, .inl (cI, 160, .inl (iA (u.1)))), (be, .inl (cI, Ln, .inl (iA (B)))), (ad 16, .inr (5, [.ref (ad 17), .int (iI (u.2.2))])), (ad 17, .inl (cI, 4, .inl (iA (SP))))])) (fun v (u : (Int → Int) × Int × Int) => ib v ∧ (v, u.1, u.2.1, u.2.2) = (if 0 ≤ p ∧ p < sn then ((unS n (SP p) : Int), (unL (unS n (SP p)) V lg).1, n - (unS n (SP p) : Int), p + 1) else (-3, V, n, sn))) AA args0 s0 (0) (0)) (F0 m0 0 ls []) by rw [hH, hlo] at hW; exact hW
  have g_nn := isL_n g_L
  refine lv_iload_n hx hb dX7_undoToPoint_0 rfl (lv_at hl 1 rfl) ?_
  refine z_if_lt (tgt := 15) hx hb dX7_undoToPoint_1 (by decide) ⟨by omega, by omega⟩ (fun c_1 => ?_) (fun c_1 => ?_)
  · refine lv_bipush (v := iI (-3)) hx hb dX7_undoToPoint_15 (by decide) ?_
    
    refine z_mret ((V, n, sn)) hx hb hr hlocks dX7_undoToPoint_17 hP hD hS ?_
    refine ⟨⟨by omega, by omega⟩, ?_⟩
    rw [if_neg (by omega)]
  · refine lv_iload_n hx hb dX7_undoToPoint_4 rfl (lv_at hl 1 rfl) ?_
    refine lv_aload_n hx hb dX7_undoToPoint_5 rfl (lv_at hl 0 rfl) ?_
    refine va_get (D := D) (ci := 7) (v := .ref (ad 16)) (C := RX7) (T := TX7) (N := 6) hx hb hts (fun _ h => List.mem_cons_of_mem _ (List.mem_append_left _ (List.mem_append_left _ (List.mem_append_right _ (h))))) hown hK.1 hP 0 rfl rfl 4 (by decide) (hts (.fieldLink RX7 44 "ForeignKeyStore" "points" "LForeignKeyStore$SavePointList;") (List.mem_of_getElem? (i := 1) rfl)) (fun _ h9 => h9) rfl dX7_undoToPoint_6 ?_
    refine z_roV (As := []) (rest := [.int (iI (p))]) ⟨hx, hb, hml, hown, hts⟩ (c_X5_count l D cI cZ cC (ad) (sn) ) (cwV 0 hts gX7_undoToPoint_X5_count rfl rfl rfl (by decide +kernel) ⟨Nat.le_of_ble_eq_true rfl, Nat.le_of_ble_eq_true rfl⟩) hP hK [4] rfl 4 5 rfl rfl rfl rfl hl.1 rfl (Nat.le_of_ble_eq_true rfl) dX7_undoToPoint_9 ⟨by omega, by omega⟩ ?_
    refine z_icmp_lt (tgt := 18) hx hb dX7_undoToPoint_12 (by decide) ⟨⟨by omega, by omega⟩, ⟨by omega, by omega⟩⟩ (fun c_2 => ?_) (fun c_2 => ?_)
    · have hsp := g_sp p (by omega) (by omega)
      have hu : unS n (SP p) ≤ lg.length := by unfold unS; omega
      have hz := unV_L (k := unS n (SP p)) (V := V) g_L hu
      refine lv_aload_n hx hb dX7_undoToPoint_18 rfl (lv_at hl 0 rfl) ?_
      refine va_get (D := D) (ci := 7) (v := .ref (ad 16)) (C := RX7) (T := TX7) (N := 6) hx hb hts (fun _ h => List.mem_cons_of_mem _ (List.mem_append_left _ (List.mem_append_left _ (List.mem_append_right _ (h))))) hown hK.1 hP 0 rfl rfl 4 (by decide) (hts (.fieldLink RX7 44 "ForeignKeyStore" "points" "LForeignKeyStore$SavePointList;") (List.mem_of_getElem? (i := 1) rfl)) (fun _ h9 => h9) rfl dX7_undoToPoint_19 ?_
      refine lv_iload_n hx hb dX7_undoToPoint_22 rfl (lv_at hl 1 rfl) ?_
      refine lv_iconst (v := iI (1)) hx hb dX7_undoToPoint_23 rfl ?_
      refine z_iadd hx hb dX7_undoToPoint_24 ?_
      refine z_mvV (As := [.int (iI ((p + 1)))]) (rest := []) (wr := [(ad 0, .inr (7, [.ref (ad 1), .ref (ad 4), .ref (ad 8), .ref (ad 12), .ref (ad 16), .ref (ad 18)])), (ad 1, .inr (4, [.ref (ad 2), .ref (be), .int (iI (n))])), (ad 2, .inl (cI, 160, .inl (iA (V)))), (be, .inl (cI, Ln, .inl (iA (B)))), (ad 17, .inl (cI, 4, .inl (iA (SP))))]) (ws2 := (fun (u : Unit) => [(ad 0, .inr (7, [.ref (ad 1), .ref (ad 4), .ref (ad 8), .ref (ad 12), .ref (ad 16), .ref (ad 18)])), (ad 1, .inr (4, [.ref (ad 2), .ref (be), .int (iI (n))])), (ad 2, .inl (cI, 160, .inl (iA (V)))), (be, .inl (cI, Ln, .inl (iA (B)))), (ad 16, .inr (5, [.ref (ad 17), .int (iI (((p + 1))))])), (ad 17, .inl (cI, 4, .inl (iA (SP))))])) ⟨hx, hb, hml, hown, hts⟩ (c_X5_cutTo l D cI cZ cC H.size (ad) (sn) ((p + 1)) ) (cwV 1 hts gX7_undoToPoint_X5_cutTo rfl rfl rfl (by decide +kernel) ⟨Nat.le_of_ble_eq_true rfl, Nat.le_of_ble_eq_true rfl⟩) hP hD hS hA hK [4] [0, 1, 2, 3, 5] [0, 1, 2, 3, 5, 4] rfl (by decide) rfl (by decide) (by decide) (by decide) (fun _ => rfl) 4 5 rfl rfl rfl rfl hl.1 rfl (Nat.le_of_ble_eq_true rfl) dX7_undoToPoint_25 ⟨by omega, by omega⟩ (fun u H locs hq_3 hP hD hS => ?_)
      have hP : va_P D vwCl [(ad 0, .inr (7, [.ref (ad 1), .ref (ad 4), .ref (ad 8), .ref (ad 12), .ref (ad 16), .ref (ad 18)])), (ad 1, .inr (4, [.ref (ad 2), .ref (be), .int (iI (n))])), (ad 2, .inl (cI, 160, .inl (iA (V)))), (be, .inl (cI, Ln, .inl (iA (B)))), (ad 16, .inr (5, [.ref (ad 17), .int (iI (((p + 1))))])), (ad 17, .inl (cI, 4, .inl (iA (SP))))] H := hP
      have hD : va_D AA [(ad 0, .inr (7, [.ref (ad 1), .ref (ad 4), .ref (ad 8), .ref (ad 12), .ref (ad 16), .ref (ad 18)])), (ad 1, .inr (4, [.ref (ad 2), .ref (be), .int (iI (n))])), (ad 2, .inl (cI, 160, .inl (iA (V)))), (be, .inl (cI, Ln, .inl (iA (B)))), (ad 16, .inr (5, [.ref (ad 17), .int (iI (((p + 1))))])), (ad 17, .inl (cI, 4, .inl (iA (SP))))] := hD
      try dsimp only at hq_3
      refine lv_aload_n hx hb dX7_undoToPoint_28 rfl (lv_at hl 0 rfl) ?_
      refine va_get (D := D) (ci := 7) (v := .ref (ad 1)) (C := RX7) (T := TX7) (N := 6) hx hb hts (fun _ h => List.mem_cons_of_mem _ (List.mem_append_left _ (List.mem_append_left _ (List.mem_append_right _ (h))))) hown hK.1 hP 0 rfl rfl 0 (by decide) (hts (.fieldLink RX7 12 "ForeignKeyStore" "rowStore" "LForeignKeyStore$Rows;") (List.mem_of_getElem? (i := 2) rfl)) (fun _ h9 => h9) rfl dX7_undoToPoint_29 ?_
      refine lv_aload_n hx hb dX7_undoToPoint_32 rfl (lv_at hl 0 rfl) ?_
      refine va_get (D := D) (ci := 7) (v := .ref (ad 16)) (C := RX7) (T := TX7) (N := 6) hx hb hts (fun _ h => List.mem_cons_of_mem _ (List.mem_append_left _ (List.mem_append_left _ (List.mem_append_right _ (h))))) hown hK.1 hP 0 rfl rfl 4 (by decide) (hts (.fieldLink RX7 44 "ForeignKeyStore" "points" "LForeignKeyStore$SavePointList;") (List.mem_of_getElem? (i := 1) rfl)) (fun _ h9 => h9) rfl dX7_undoToPoint_33 ?_
      refine lv_iload_n hx hb dX7_undoToPoint_36 rfl (lv_at hl 1 rfl) ?_
      refine z_roV (As := [.int (iI (p))]) (rest := [.ref (ad 1)]) ⟨hx, hb, hml, hown, hts⟩ (c_X5_changesAt l D cI cZ cC (ad) (((p + 1))) (SP) (p) (by first | assumption | omega)) (cwV 1 hts gX7_undoToPoint_X5_changesAt rfl rfl rfl (by decide +kernel) ⟨Nat.le_of_ble_eq_true rfl, Nat.le_of_ble_eq_true rfl⟩) hP hK [4, 5] rfl 4 5 rfl rfl rfl rfl hl.1 rfl (Nat.le_of_ble_eq_true rfl) dX7_undoToPoint_37 ⟨by omega, by omega⟩ ?_
      refine z_muV (As := [.int (iI ((SP p)))]) (rest := []) (wr := [(ad 0, .inr (7, [.ref (ad 1), .ref (ad 4), .ref (ad 8), .ref (ad 12), .ref (ad 16), .ref (ad 18)])), (ad 16, .inr (5, [.ref (ad 17), .int (iI (((p + 1))))])), (ad 17, .inl (cI, 4, .inl (iA (SP))))]) (ws2 := (fun (u : Unit) => [(ad 0, .inr (7, [.ref (ad 1), .ref (ad 4), .ref (ad 8), .ref (ad 12), .ref (ad 16), .ref (ad 18)])), (ad 1, .inr (4, [.ref (ad 2), .ref (be), .int (iI (n - (unS n ((SP p)) : Int)))])), (ad 2, .inl (cI, 160, .inl (iA (unV B (unS n ((SP p))) V n)))), (be, .inl (cI, Ln, .inl (iA (B)))), (ad 16, .inr (5, [.ref (ad 17), .int (iI (((p + 1))))])), (ad 17, .inl (cI, 4, .inl (iA (SP))))])) ⟨hx, hb, hml, hown, hts⟩ (c_X4_undoTo l D cI cZ cC H.size (ad) (be) (Ln) (n) (V) (B) ((SP p)) (⟨by omega, by omega, by omega⟩) (by first | assumption | omega) (isL_b g_L)) (cwV 1 hts gX7_undoToPoint_X4_undoTo rfl rfl rfl (by decide +kernel) ⟨Nat.le_of_ble_eq_true rfl, Nat.le_of_ble_eq_true rfl⟩) hP hD hS hA hK [1, 2, 3] [0, 4, 5] [0, 3, 4, 5, 1, 2] rfl (by decide) rfl (by decide) (by decide) (by decide) (fun _ => rfl) 1 4 rfl rfl rfl rfl hl.1 rfl (Nat.le_of_ble_eq_true rfl) dX7_undoToPoint_40 ⟨by omega, by omega⟩ (fun r_5 u H locs hq_4 hP hD hS => ?_)
      have hP : va_P D vwCl [(ad 0, .inr (7, [.ref (ad 1), .ref (ad 4), .ref (ad 8), .ref (ad 12), .ref (ad 16), .ref (ad 18)])), (ad 1, .inr (4, [.ref (ad 2), .ref (be), .int (iI (n - (unS n ((SP p)) : Int)))])), (ad 2, .inl (cI, 160, .inl (iA (unV B (unS n ((SP p))) V n)))), (be, .inl (cI, Ln, .inl (iA (B)))), (ad 16, .inr (5, [.ref (ad 17), .int (iI (((p + 1))))])), (ad 17, .inl (cI, 4, .inl (iA (SP))))] H := hP
      have hD : va_D AA [(ad 0, .inr (7, [.ref (ad 1), .ref (ad 4), .ref (ad 8), .ref (ad 12), .ref (ad 16), .ref (ad 18)])), (ad 1, .inr (4, [.ref (ad 2), .ref (be), .int (iI (n - (unS n ((SP p)) : Int)))])), (ad 2, .inl (cI, 160, .inl (iA (unV B (unS n ((SP p))) V n)))), (be, .inl (cI, Ln, .inl (iA (B)))), (ad 16, .inr (5, [.ref (ad 17), .int (iI (((p + 1))))])), (ad 17, .inl (cI, 4, .inl (iA (SP))))] := hD
      try dsimp only at hq_4
      obtain ⟨hv9, hq_4⟩ := hq_4
      have hv9 := hv9.symm
      subst hv9
      rw [hz.1] at hP hD
      refine z_mret ((_, n - (unS n ((SP p)) : Int), ((p + 1)))) hx hb hr hlocks dX7_undoToPoint_43 hP hD hS ?_
      refine ⟨⟨by omega, by omega⟩, ?_⟩
      rw [if_pos (by omega)]
    · refine lv_bipush (v := iI (-3)) hx hb dX7_undoToPoint_15 (by decide) ?_
      
      refine z_mret ((V, n, sn)) hx hb hr hlocks dX7_undoToPoint_17 hP hD hS ?_
      refine ⟨⟨by omega, by omega⟩, ?_⟩
      rw [if_neg (by omega)]

set_option maxHeartbeats 600000 in
set_option maxRecDepth 100000 in
theorem c_X7_partOf (l : Launch) (D : va_G) (cI cZ cC : ClassId) (ad : Nat → Nat) (be : Nat) (n : Int) (P Ac Mo V : Int → Int) (k p : Int) (g_V : ∀ j : Int, 0 ≤ j → j < 160 → -2 ≤ V j ∧ V j ≤ 19) (g_P : ∀ j : Int, 0 ≤ j → j < 8 → P j = -2 ∨ (0 ≤ P j ∧ P j < 4)) (g_Mo : ∀ j : Int, 0 ≤ j → j < 8 → Mo j = 0 ∨ Mo j = 1) (g_Ac : ∀ j : Int, 0 ≤ j → j < 8 → 0 ≤ Ac j ∧ Ac j ≤ 3) (g_k : 0 ≤ k ∧ k < 8) (g_p : 0 ≤ p ∧ p ≤ 3) : zRo l yX7_partOf wsX7_partOf ({ frames := 2, cells := 0, slots := 0, locals := 48 }) D cI cZ cC [(ad 0, .inr (7, [.ref (ad 1), .ref (ad 4), .ref (ad 8), .ref (ad 12), .ref (ad 16), .ref (ad 18)])), (ad 4, .inr (0, [.ref (ad 1), .ref (ad 5), .ref (ad 6), .ref (ad 7)])), (ad 5, .inl (cI, 8, .inl (iA (P)))), (ad 6, .inl (cI, 8, .inl (iA (Ac)))), (ad 7, .inl (cZ, 8, .inl (iA (Mo)))), (ad 1, .inr (4, [.ref (ad 2), .ref (be), .int (iI (n))])), (ad 2, .inl (cI, 160, .inl (iA (V))))] [.ref (ad 0), .int (iI (k)), .int (iI (p))] ((if p = 0 then inP P k else if p = 1 then inA Ac k else if p = 2 then bI (0 ≤ k ∧ k < 8 ∧ ¬ Mo k = 0) else vio V k (inP P k))) := by
  refine z_ofRo (cc := cX7_partOf) (maxL := 3) (ret := (some .int)) RX7 (by decide +kernel) rfl rfl (Nat.le_of_ble_eq_true rfl) ?_
  intro p0 en0 s0 m0 args0 below0 meth0 c0 ls hx hb hr hlocks hml hown hts hP hK hl
  have hl : lv_has ls 3 [(0, .ref (ad 0)), (1, .int (iI (k))), (2, .int (iI (p)))] := hl
  refine lv_iload_n hx hb dX7_partOf_0 rfl (lv_at hl 2 rfl) ?_
  by_cases k_1 : p = 0
  · refine lv_tableIn (off := 27) (tgt := 28) hx hb dX7_partOf_1 (by rw [iI_toInt ⟨by omega, by omega⟩]; omega) (by rw [iI_toInt ⟨by omega, by omega⟩]; omega) (by rw [iI_toInt ⟨by omega, by omega⟩, k_1]; rfl) (by decide) ?_
    refine lv_aload_n hx hb dX7_partOf_28 rfl (lv_at hl 0 rfl) ?_
    refine va_get (D := D) (ci := 7) (v := .ref (ad 4)) (C := RX7) (T := TX7) (N := 6) hx hb hts (fun _ h => List.mem_cons_of_mem _ (List.mem_append_left _ (List.mem_append_left _ (List.mem_append_right _ (h))))) hown hK.1 hP 0 rfl rfl 1 (by decide) (hts (.fieldLink RX7 21 "ForeignKeyStore" "constraintSet" "LForeignKeyStore$Constraints;") (List.mem_of_getElem? (i := 1) rfl)) (fun _ h9 => h9) rfl dX7_partOf_29 ?_
    refine lv_iload_n hx hb dX7_partOf_32 rfl (lv_at hl 1 rfl) ?_
    refine z_roV (As := [.int (iI (k))]) (rest := []) ⟨hx, hb, hml, hown, hts⟩ (c_X0_parentOf l D cI cZ cC (ad) (P) (k) (by first | assumption | omega)) (cwV 1 hts gX7_partOf_X0_parentOf rfl rfl rfl (by decide +kernel) ⟨Nat.le_of_ble_eq_true rfl, Nat.le_of_ble_eq_true rfl⟩) hP hK [1, 2] rfl 1 0 rfl rfl rfl rfl hl.1 rfl (Nat.le_of_ble_eq_true rfl) dX7_partOf_33 ⟨by omega, by omega⟩ ?_
    have hf_2 := inP_b g_P (k)
    refine z_rret hx hb hr hlocks dX7_partOf_36 ?_
    rw [if_pos (by omega)]
  by_cases k_3 : p = 1
  · refine lv_tableIn (off := 36) (tgt := 37) hx hb dX7_partOf_1 (by rw [iI_toInt ⟨by omega, by omega⟩]; omega) (by rw [iI_toInt ⟨by omega, by omega⟩]; omega) (by rw [iI_toInt ⟨by omega, by omega⟩, k_3]; rfl) (by decide) ?_
    refine lv_aload_n hx hb dX7_partOf_37 rfl (lv_at hl 0 rfl) ?_
    refine va_get (D := D) (ci := 7) (v := .ref (ad 4)) (C := RX7) (T := TX7) (N := 6) hx hb hts (fun _ h => List.mem_cons_of_mem _ (List.mem_append_left _ (List.mem_append_left _ (List.mem_append_right _ (h))))) hown hK.1 hP 0 rfl rfl 1 (by decide) (hts (.fieldLink RX7 21 "ForeignKeyStore" "constraintSet" "LForeignKeyStore$Constraints;") (List.mem_of_getElem? (i := 1) rfl)) (fun _ h9 => h9) rfl dX7_partOf_38 ?_
    refine lv_iload_n hx hb dX7_partOf_41 rfl (lv_at hl 1 rfl) ?_
    refine z_roV (As := [.int (iI (k))]) (rest := []) ⟨hx, hb, hml, hown, hts⟩ (c_X0_actionOf l D cI cZ cC (ad) (Ac) (k) (by first | assumption | omega)) (cwV 1 hts gX7_partOf_X0_actionOf rfl rfl rfl (by decide +kernel) ⟨Nat.le_of_ble_eq_true rfl, Nat.le_of_ble_eq_true rfl⟩) hP hK [1, 3] rfl 1 0 rfl rfl rfl rfl hl.1 rfl (Nat.le_of_ble_eq_true rfl) dX7_partOf_42 ⟨by omega, by omega⟩ ?_
    have hf_4 := inA_b g_Ac (k)
    refine z_rret hx hb hr hlocks dX7_partOf_45 ?_
    rw [if_neg (by omega), if_pos (by omega)]
  by_cases k_5 : p = 2
  · refine lv_tableIn (off := 45) (tgt := 46) hx hb dX7_partOf_1 (by rw [iI_toInt ⟨by omega, by omega⟩]; omega) (by rw [iI_toInt ⟨by omega, by omega⟩]; omega) (by rw [iI_toInt ⟨by omega, by omega⟩, k_5]; rfl) (by decide) ?_
    refine lv_aload_n hx hb dX7_partOf_46 rfl (lv_at hl 0 rfl) ?_
    refine va_get (D := D) (ci := 7) (v := .ref (ad 4)) (C := RX7) (T := TX7) (N := 6) hx hb hts (fun _ h => List.mem_cons_of_mem _ (List.mem_append_left _ (List.mem_append_left _ (List.mem_append_right _ (h))))) hown hK.1 hP 0 rfl rfl 1 (by decide) (hts (.fieldLink RX7 21 "ForeignKeyStore" "constraintSet" "LForeignKeyStore$Constraints;") (List.mem_of_getElem? (i := 1) rfl)) (fun _ h9 => h9) rfl dX7_partOf_47 ?_
    refine lv_iload_n hx hb dX7_partOf_50 rfl (lv_at hl 1 rfl) ?_
    refine z_roV (As := [.int (iI (k))]) (rest := []) ⟨hx, hb, hml, hown, hts⟩ (c_X0_isDeferred l D cI cZ cC (ad) (Mo) (k) (by first | assumption | omega) (by first | assumption | omega)) (cwV 1 hts gX7_partOf_X0_isDeferred rfl rfl rfl (by decide +kernel) ⟨Nat.le_of_ble_eq_true rfl, Nat.le_of_ble_eq_true rfl⟩) hP hK [1, 4] rfl 1 0 rfl rfl rfl rfl hl.1 rfl (Nat.le_of_ble_eq_true rfl) dX7_partOf_51 ⟨by omega, by omega⟩ ?_
    refine z_b_eq (tgt := 61) hx hb dX7_partOf_54 (by decide) (fun c_6 => ?_) (fun c_6 => ?_)
    · refine lv_iconst (v := iI (0)) hx hb dX7_partOf_61 rfl ?_
      refine z_rret hx hb hr hlocks dX7_partOf_62 ?_
      rw [if_neg (by omega), if_neg (by omega), if_pos (by omega)]
      first | rw [bI_t (by assumption)] | rw [bI_f (by assumption)]
    · refine lv_iconst (v := iI (1)) hx hb dX7_partOf_57 rfl ?_
      refine lv_goto (tgt := 62) hx hb dX7_partOf_58 (by decide) ?_
      refine z_rret hx hb hr hlocks dX7_partOf_62 ?_
      rw [if_neg (by omega), if_neg (by omega), if_pos (by omega)]
      first | rw [bI_t (by assumption)] | rw [bI_f (by assumption)]
  refine lv_tableOut (tgt := 63) hx hb dX7_partOf_1 (by rw [iI_toInt ⟨by omega, by omega⟩]; omega) (by decide) ?_
  refine lv_aload_n hx hb dX7_partOf_63 rfl (lv_at hl 0 rfl) ?_
  refine va_get (D := D) (ci := 7) (v := .ref (ad 4)) (C := RX7) (T := TX7) (N := 6) hx hb hts (fun _ h => List.mem_cons_of_mem _ (List.mem_append_left _ (List.mem_append_left _ (List.mem_append_right _ (h))))) hown hK.1 hP 0 rfl rfl 1 (by decide) (hts (.fieldLink RX7 21 "ForeignKeyStore" "constraintSet" "LForeignKeyStore$Constraints;") (List.mem_of_getElem? (i := 1) rfl)) (fun _ h9 => h9) rfl dX7_partOf_64 ?_
  refine lv_iload_n hx hb dX7_partOf_67 rfl (lv_at hl 1 rfl) ?_
  refine lv_aload_n hx hb dX7_partOf_68 rfl (lv_at hl 0 rfl) ?_
  refine va_get (D := D) (ci := 7) (v := .ref (ad 4)) (C := RX7) (T := TX7) (N := 6) hx hb hts (fun _ h => List.mem_cons_of_mem _ (List.mem_append_left _ (List.mem_append_left _ (List.mem_append_right _ (h))))) hown hK.1 hP 0 rfl rfl 1 (by decide) (hts (.fieldLink RX7 21 "ForeignKeyStore" "constraintSet" "LForeignKeyStore$Constraints;") (List.mem_of_getElem? (i := 1) rfl)) (fun _ h9 => h9) rfl dX7_partOf_69 ?_
  refine lv_iload_n hx hb dX7_partOf_72 rfl (lv_at hl 1 rfl) ?_
  refine z_roV (As := [.int (iI (k))]) (rest := [.int (iI (k)), .ref (ad 4)]) ⟨hx, hb, hml, hown, hts⟩ (c_X0_parentOf l D cI cZ cC (ad) (P) (k) (by first | assumption | omega)) (cwV 1 hts gX7_partOf_X0_parentOf rfl rfl rfl (by decide +kernel) ⟨Nat.le_of_ble_eq_true rfl, Nat.le_of_ble_eq_true rfl⟩) hP hK [1, 2] rfl 1 0 rfl rfl rfl rfl hl.1 rfl (Nat.le_of_ble_eq_true rfl) dX7_partOf_73 ⟨by omega, by omega⟩ ?_
  have hf_7 := inP_b g_P (k)
  refine z_roV (As := [.int (iI (k)), .int (iI ((inP P k)))]) (rest := []) ⟨hx, hb, hml, hown, hts⟩ (c_X0_countViolations l D cI cZ cC (ad) (be) (n) (V) (k) ((inP P k)) (by first | assumption | omega) (by first | assumption | omega) (by first | assumption | omega)) (cwV 2 hts gX7_partOf_X0_countViolations rfl rfl rfl (by decide +kernel) ⟨Nat.le_of_ble_eq_true rfl, Nat.le_of_ble_eq_true rfl⟩) hP hK [1, 5, 6] rfl 1 0 rfl rfl rfl rfl hl.1 rfl (Nat.le_of_ble_eq_true rfl) dX7_partOf_76 ⟨by omega, by omega⟩ ?_
  have hf_8 := vio_b V (k) (((inP P k)))
  refine z_rret hx hb hr hlocks dX7_partOf_79 ?_
  rw [if_neg (by omega), if_neg (by omega), if_neg (by omega)]

