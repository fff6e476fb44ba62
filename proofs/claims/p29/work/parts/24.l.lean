abbrev AS : Type := (Int → Int) × Lg × (Int → Int) × Int
noncomputable def comF (P Mo V : Int → Int) (lg : Lg) (SP : Int → Int) (sn : Int) : Int × AS := if fR (badC 1 Mo P V) 8 0 = 0 then ((lg.length : Int), (V, [], SP, 0)) else (fR (badC 1 Mo P V) 8 0, (V, lg, SP, sn))
def allF (V : Int → Int) (lg : Lg) (SP : Int → Int) : Int × AS := ((lg.length : Int), ((unL lg.length V lg).1, [], SP, 0))
def mkF (V : Int → Int) (lg : Lg) (SP : Int → Int) (sn : Int) : Int × AS := if sn < 4 then (sn, (V, lg, uI SP sn (lg.length : Int), sn + 1)) else (-3, (V, lg, SP, sn))
def bkF (V : Int → Int) (lg : Lg) (SP : Int → Int) (sn p : Int) : Int × AS := if 0 ≤ p ∧ p < sn then ((unS (lg.length : Int) (SP p) : Int), ((unL (unS (lg.length : Int) (SP p)) V lg).1, (unL (unS (lg.length : Int) (SP p)) V lg).2, SP, p + 1)) else (-3, (V, lg, SP, sn))
theorem okH_nil {N : Int} {lg : Lg} {V : Int → Int} (h : okH N lg V) : okH N [] V := by
  have h1 := okH_top h
  exact ⟨h1.1, h1.2.1, by omega⟩

set_option maxHeartbeats 600000 in
set_option maxRecDepth 100000 in
theorem c_X7_constraints (l : Launch) (D : va_G) (cI cZ cC : ClassId) (ad : Nat → Nat) (P : Int → Int) (g_P : ∀ j : Int, 0 ≤ j → j < 8 → P j = -2 ∨ (0 ≤ P j ∧ P j < 4)) : zRo l yX7_constraints wsX7_constraints ({ frames := 3, cells := 0, slots := 0, locals := 64 }) D cI cZ cC [(ad 0, .inr (7, [.ref (ad 1), .ref (ad 4), .ref (ad 8), .ref (ad 12), .ref (ad 16), .ref (ad 18)])), (ad 4, .inr (0, [.ref (ad 1), .ref (ad 5), .ref (ad 6), .ref (ad 7)])), (ad 5, .inl (cI, 8, .inl (iA (P))))] [.ref (ad 0)] (sumN (fun i => bI (¬ inP P i = -2)) 8) := by
  refine z_ofRo (cc := cX7_constraints) (maxL := 1) (ret := (some .int)) RX7 (by decide +kernel) rfl rfl (Nat.le_of_ble_eq_true rfl) ?_
  intro p0 en0 s0 m0 args0 below0 meth0 c0 ls hx hb hr hlocks hml hown hts hP hK hl
  have hl : lv_has ls 1 [(0, .ref (ad 0))] := hl
  refine lv_aload_n hx hb dX7_constraints_0 rfl (lv_at hl 0 rfl) ?_
  refine va_get (D := D) (ci := 7) (v := .ref (ad 4)) (C := RX7) (T := TX7) (N := 6) hx hb hts (fun _ h => List.mem_cons_of_mem _ (List.mem_append_left _ (List.mem_append_right _ (h)))) hown hK.1 hP 0 rfl rfl 1 (by decide) (hts (.fieldLink RX7 21 "ForeignKeyStore" "constraintSet" "LForeignKeyStore$Constraints;") (List.mem_of_getElem? (i := 1) rfl)) (fun _ h9 => h9) rfl dX7_constraints_1 ?_
  refine z_roV (As := []) (rest := []) ⟨hx, hb, hml, hown, hts⟩ (c_X0_count l D cI cZ cC (ad) (P) (by first | assumption | omega)) (cwV 0 hts gX7_constraints_X0_count rfl rfl rfl (by decide +kernel) ⟨Nat.le_of_ble_eq_true rfl, Nat.le_of_ble_eq_true rfl⟩) hP hK [1, 2] rfl 1 0 rfl rfl rfl rfl hl.1 rfl (Nat.le_of_ble_eq_true rfl) dX7_constraints_4 ⟨by omega, by omega⟩ ?_
  have hf_1 := sumN_b (fun i => bI_01 (¬ inP P i = -2)) 8
  refine z_rret hx hb hr hlocks dX7_constraints_7 ?_
  rfl

set_option maxHeartbeats 600000 in
set_option maxRecDepth 100000 in
theorem c_X7_firstViolation (l : Launch) (D : va_G) (cI cZ cC : ClassId) (ad : Nat → Nat) (be : Nat) (n : Int) (P Mo V : Int → Int) (g_V : ∀ j : Int, 0 ≤ j → j < 160 → -2 ≤ V j ∧ V j ≤ 19) (g_P : ∀ j : Int, 0 ≤ j → j < 8 → P j = -2 ∨ (0 ≤ P j ∧ P j < 4)) (g_Mo : ∀ j : Int, 0 ≤ j → j < 8 → Mo j = 0 ∨ Mo j = 1) : zRo l yX7_firstViolation wsX7_firstViolation ({ frames := 3, cells := 0, slots := 0, locals := 71 }) D cI cZ cC [(ad 0, .inr (7, [.ref (ad 1), .ref (ad 4), .ref (ad 8), .ref (ad 12), .ref (ad 16), .ref (ad 18)])), (ad 4, .inr (0, [.ref (ad 1), .ref (ad 5), .ref (ad 6), .ref (ad 7)])), (ad 5, .inl (cI, 8, .inl (iA (P)))), (ad 7, .inl (cZ, 8, .inl (iA (Mo)))), (ad 1, .inr (4, [.ref (ad 2), .ref (be), .int (iI (n))])), (ad 2, .inl (cI, 160, .inl (iA (V))))] [.ref (ad 0)] (fR (badC 1 Mo P V) 8 0) := by
  refine z_ofRo (cc := cX7_firstViolation) (maxL := 1) (ret := (some .int)) RX7 (by decide +kernel) rfl rfl (Nat.le_of_ble_eq_true rfl) ?_
  intro p0 en0 s0 m0 args0 below0 meth0 c0 ls hx hb hr hlocks hml hown hts hP hK hl
  have hl : lv_has ls 1 [(0, .ref (ad 0))] := hl
  refine lv_aload_n hx hb dX7_firstViolation_0 rfl (lv_at hl 0 rfl) ?_
  refine va_get (D := D) (ci := 7) (v := .ref (ad 4)) (C := RX7) (T := TX7) (N := 6) hx hb hts (fun _ h => List.mem_cons_of_mem _ (List.mem_append_left _ (List.mem_append_left _ (List.mem_append_right _ (h))))) hown hK.1 hP 0 rfl rfl 1 (by decide) (hts (.fieldLink RX7 21 "ForeignKeyStore" "constraintSet" "LForeignKeyStore$Constraints;") (List.mem_of_getElem? (i := 1) rfl)) (fun _ h9 => h9) rfl dX7_firstViolation_1 ?_
  refine lv_iconst (v := iI (1)) hx hb dX7_firstViolation_4 rfl ?_
  refine z_roV (As := [.int (iI (1))]) (rest := []) ⟨hx, hb, hml, hown, hts⟩ (c_X0_firstRefusal l D cI cZ cC (ad) (be) (n) (P) (Mo) (V) (1) (by first | assumption | omega) (by first | assumption | omega) (by first | assumption | omega) (by first | assumption | omega)) (cwV 1 hts gX7_firstViolation_X0_firstRefusal rfl rfl rfl (by decide +kernel) ⟨Nat.le_of_ble_eq_true rfl, Nat.le_of_ble_eq_true rfl⟩) hP hK [1, 2, 3, 4, 5] rfl 1 0 rfl rfl rfl rfl hl.1 rfl (Nat.le_of_ble_eq_true rfl) dX7_firstViolation_5 ⟨by omega, by omega⟩ ?_
  have hf_1 := fR_b (badC 1 Mo P V) 8 0
  refine z_rret hx hb hr hlocks dX7_firstViolation_8 ?_
  rfl

set_option maxHeartbeats 600000 in
set_option maxRecDepth 100000 in
theorem c_X7_changes (l : Launch) (D : va_G) (cI cZ cC : ClassId) (ad : Nat → Nat) (be : Nat) (n : Int) : zRo l yX7_changes wsX7_changes ({ frames := 1, cells := 0, slots := 0, locals := 20 }) D cI cZ cC [(ad 0, .inr (7, [.ref (ad 1), .ref (ad 4), .ref (ad 8), .ref (ad 12), .ref (ad 16), .ref (ad 18)])), (ad 1, .inr (4, [.ref (ad 2), .ref (be), .int (iI (n))]))] [.ref (ad 0)] (n) := by
  refine z_ofRo (cc := cX7_changes) (maxL := 1) (ret := (some .int)) RX7 (by decide +kernel) rfl rfl (Nat.le_of_ble_eq_true rfl) ?_
  intro p0 en0 s0 m0 args0 below0 meth0 c0 ls hx hb hr hlocks hml hown hts hP hK hl
  have hl : lv_has ls 1 [(0, .ref (ad 0))] := hl
  refine lv_aload_n hx hb dX7_changes_0 rfl (lv_at hl 0 rfl) ?_
  refine va_get (D := D) (ci := 7) (v := .ref (ad 1)) (C := RX7) (T := TX7) (N := 6) hx hb hts (fun _ h => List.mem_cons_of_mem _ (List.mem_append_left _ (List.mem_append_right _ (h)))) hown hK.1 hP 0 rfl rfl 0 (by decide) (hts (.fieldLink RX7 12 "ForeignKeyStore" "rowStore" "LForeignKeyStore$Rows;") (List.mem_of_getElem? (i := 1) rfl)) (fun _ h9 => h9) rfl dX7_changes_1 ?_
  refine z_roV (As := []) (rest := []) ⟨hx, hb, hml, hown, hts⟩ (c_X4_changeCount l D cI cZ cC (ad) (be) (n) ) (cwV 0 hts gX7_changes_X4_changeCount rfl rfl rfl (by decide +kernel) ⟨Nat.le_of_ble_eq_true rfl, Nat.le_of_ble_eq_true rfl⟩) hP hK [1] rfl 1 4 rfl rfl rfl rfl hl.1 rfl (Nat.le_of_ble_eq_true rfl) dX7_changes_4 ⟨by omega, by omega⟩ ?_
  refine z_rret hx hb hr hlocks dX7_changes_7 ?_
  rfl

set_option maxHeartbeats 600000 in
set_option maxRecDepth 100000 in
theorem c_X7_savePoints (l : Launch) (D : va_G) (cI cZ cC : ClassId) (ad : Nat → Nat) (sn : Int) : zRo l yX7_savePoints wsX7_savePoints ({ frames := 1, cells := 0, slots := 0, locals := 20 }) D cI cZ cC [(ad 0, .inr (7, [.ref (ad 1), .ref (ad 4), .ref (ad 8), .ref (ad 12), .ref (ad 16), .ref (ad 18)])), (ad 16, .inr (5, [.ref (ad 17), .int (iI (sn))]))] [.ref (ad 0)] (sn) := by
  refine z_ofRo (cc := cX7_savePoints) (maxL := 1) (ret := (some .int)) RX7 (by decide +kernel) rfl rfl (Nat.le_of_ble_eq_true rfl) ?_
  intro p0 en0 s0 m0 args0 below0 meth0 c0 ls hx hb hr hlocks hml hown hts hP hK hl
  have hl : lv_has ls 1 [(0, .ref (ad 0))] := hl
  refine lv_aload_n hx hb dX7_savePoints_0 rfl (lv_at hl 0 rfl) ?_
  refine va_get (D := D) (ci := 7) (v := .ref (ad 16)) (C := RX7) (T := TX7) (N := 6) hx hb hts (fun _ h => List.mem_cons_of_mem _ (List.mem_append_left _ (List.mem_append_right _ (h)))) hown hK.1 hP 0 rfl rfl 4 (by decide) (hts (.fieldLink RX7 44 "ForeignKeyStore" "points" "LForeignKeyStore$SavePointList;") (List.mem_of_getElem? (i := 1) rfl)) (fun _ h9 => h9) rfl dX7_savePoints_1 ?_
  refine z_roV (As := []) (rest := []) ⟨hx, hb, hml, hown, hts⟩ (c_X5_count l D cI cZ cC (ad) (sn) ) (cwV 0 hts gX7_savePoints_X5_count rfl rfl rfl (by decide +kernel) ⟨Nat.le_of_ble_eq_true rfl, Nat.le_of_ble_eq_true rfl⟩) hP hK [1] rfl 1 5 rfl rfl rfl rfl hl.1 rfl (Nat.le_of_ble_eq_true rfl) dX7_savePoints_4 ⟨by omega, by omega⟩ ?_
  refine z_rret hx hb hr hlocks dX7_savePoints_7 ?_
  rfl

set_option maxHeartbeats 600000 in
set_option maxRecDepth 100000 in
theorem c_X7_commit (l : Launch) (D : va_G) (cI cZ cC : ClassId) (sz : Nat) (ad : Nat → Nat) (be Ln : Nat) (P Mo V B : Int → Int) (n : Int) (sn : Int) (g_P : ∀ j : Int, 0 ≤ j → j < 8 → P j = -2 ∨ (0 ≤ P j ∧ P j < 4)) (g_Mo : ∀ j : Int, 0 ≤ j → j < 8 → Mo j = 0 ∨ Mo j = 1) (g_V : ∀ j : Int, 0 ≤ j → j < 160 → -2 ≤ V j ∧ V j ≤ 19) (g_n : 0 ≤ n ∧ n < 2147483648) : zMi l yX7_commit wsX7_commit ({ frames := 4, cells := 0, slots := 0, locals := 93 }) D cI cZ cC [(ad 0, .inr (7, [.ref (ad 1), .ref (ad 4), .ref (ad 8), .ref (ad 12), .ref (ad 16), .ref (ad 18)])), (ad 4, .inr (0, [.ref (ad 1), .ref (ad 5), .ref (ad 6), .ref (ad 7)])), (ad 5, .inl (cI, 8, .inl (iA (P)))), (ad 7, .inl (cZ, 8, .inl (iA (Mo)))), (ad 1, .inr (4, [.ref (ad 2), .ref (be), .int (iI (n))])), (ad 2, .inl (cI, 160, .inl (iA (V)))), (be, .inl (cI, Ln, .inl (iA (B)))), (ad 16, .inr (5, [.ref (ad 17), .int (iI (sn))]))] sz [.ref (ad 0)] (0) (0) (fun (u : Int × Int) => [(ad 0, .inr (7, [.ref (ad 1), .ref (ad 4), .ref (ad 8), .ref (ad 12), .ref (ad 16), .ref (ad 18)])), (ad 4, .inr (0, [.ref (ad 1), .ref (ad 5), .ref (ad 6), .ref (ad 7)])), (ad 5, .inl (cI, 8, .inl (iA (P)))), (ad 7, .inl (cZ, 8, .inl (iA (Mo)))), (ad 1, .inr (4, [.ref (ad 2), .ref (be), .int (iI (u.1))])), (ad 2, .inl (cI, 160, .inl (iA (V)))), (be, .inl (cI, Ln, .inl (iA (B)))), (ad 16, .inr (5, [.ref (ad 17), .int (iI (u.2))]))]) (fun v (u : Int × Int) => ib v ∧ (v, u.1, u.2) = (if fR (badC 1 Mo P V) 8 0 = 0 then (n, 0, 0) else (fR (badC 1 Mo P V) 8 0, n, sn))) := by
  refine z_ofMi (cc := cX7_commit) (maxL := 1) (ret := (some .int)) RX7 (by decide +kernel) rfl rfl (Nat.le_of_ble_eq_true rfl) ?_
  intro p0 en0 s0 m0 args0 below0 meth0 c0 ls AA hx hb hr hlocks hml hown hts hP hD hS hA hK hl
  have hl : lv_has ls 1 [(0, .ref (ad 0))] := hl
  obtain ⟨H, hH⟩ : ∃ H, H = s0.heap := ⟨_, rfl⟩
  obtain ⟨locs, hlo⟩ : ∃ locs : List Loc, locs = [] := ⟨_, rfl⟩
  have hP : va_P D vwCl [(ad 0, .inr (7, [.ref (ad 1), .ref (ad 4), .ref (ad 8), .ref (ad 12), .ref (ad 16), .ref (ad 18)])), (ad 4, .inr (0, [.ref (ad 1), .ref (ad 5), .ref (ad 6), .ref (ad 7)])), (ad 5, .inl (cI, 8, .inl (iA (P)))), (ad 7, .inl (cZ, 8, .inl (iA (Mo)))), (ad 1, .inr (4, [.ref (ad 2), .ref (be), .int (iI (n))])), (ad 2, .inl (cI, 160, .inl (iA (V)))), (be, .inl (cI, Ln, .inl (iA (B)))), (ad 16, .inr (5, [.ref (ad 17), .int (iI (sn))]))] H := by rw [hH]; exact hP
  have hS : va_S AA s0.heap H locs := by rw [hH, hlo]; exact hS
  suffices hW : W p0 l en0 (headSpec wsX7_commit ({ frames := 4, cells := 0, slots := 0, locals := 93 })).room s0 m0 args0 below0 meth0 c0 H locs 0 0 (QMi below0 D ((fun (u : Int × Int) => [(ad 0, .inr (7, [.ref (ad 1), .ref (ad 4), .ref (ad 8), .ref (ad 12), .ref (ad 16), .ref (ad 18)])), (ad 4, .inr (0, [.ref (ad 1), .ref (ad 5), .ref (ad 6), .ref (ad 7)])), (ad 5, .inl (cI, 8, .inl (iA (P)))), (ad 7, .inl (cZ, 8, .inl (iA (Mo)))), (ad 1, .inr (4, [.ref (ad 2), .ref (be), .int (iI (u.1))])), (ad 2, .inl (cI, 160, .inl (iA (V)))), (be, .inl (cI, Ln, .inl (iA (B)))), (ad 16, .inr (5, [.ref (ad 17), .int (iI (u.2))]))])) (fun v (u : Int × Int) => ib v ∧ (v, u.1, u.2) = (if fR (badC 1 Mo P V) 8 0 = 0 then (n, 0, 0) else (fR (badC 1 Mo P V) 8 0, n, sn))) AA args0 s0 (0) (0)) (F0 m0 0 ls []) by rw [hH, hlo] at hW; exact hW
  refine lv_aload_n hx hb dX7_commit_0 rfl (lv_at hl 0 rfl) ?_
  refine z_muV (As := []) (rest := []) (wr := []) (ws2 := (fun (u : Int × Int) => [(ad 0, .inr (7, [.ref (ad 1), .ref (ad 4), .ref (ad 8), .ref (ad 12), .ref (ad 16), .ref (ad 18)])), (ad 4, .inr (0, [.ref (ad 1), .ref (ad 5), .ref (ad 6), .ref (ad 7)])), (ad 5, .inl (cI, 8, .inl (iA (P)))), (ad 7, .inl (cZ, 8, .inl (iA (Mo)))), (ad 1, .inr (4, [.ref (ad 2), .ref (be), .int (iI (u.1))])), (ad 2, .inl (cI, 160, .inl (iA (V)))), (be, .inl (cI, Ln, .inl (iA (B)))), (ad 16, .inr (5, [.ref (ad 17), .int (iI (u.2))]))])) ⟨hx, hb, hml, hown, hts⟩ (c_X7_commitAll l D cI cZ cC H.size (ad) (be) (Ln) (P) (Mo) (V) (B) (n) (sn) (by first | assumption | omega) (by first | assumption | omega) (by first | assumption | omega) (by first | assumption | omega)) (cwV 0 hts gX7_commit_X7_commitAll rfl rfl rfl (by decide +kernel) ⟨Nat.le_of_ble_eq_true rfl, Nat.le_of_ble_eq_true rfl⟩) hP hD hS hA hK [0, 1, 2, 3, 4, 5, 6, 7] [] [0, 1, 2, 3, 4, 5, 6, 7] rfl (by decide) rfl (by decide) (by decide) (by decide) (fun _ => rfl) 0 7 rfl rfl rfl rfl hl.1 rfl (Nat.le_of_ble_eq_true rfl) dX7_commit_1 ⟨by omega, by omega⟩ (fun r_2 u H locs hq_1 hP hD hS => ?_)
  obtain ⟨n_3, sn_4⟩ := u
  have hP : va_P D vwCl [(ad 0, .inr (7, [.ref (ad 1), .ref (ad 4), .ref (ad 8), .ref (ad 12), .ref (ad 16), .ref (ad 18)])), (ad 4, .inr (0, [.ref (ad 1), .ref (ad 5), .ref (ad 6), .ref (ad 7)])), (ad 5, .inl (cI, 8, .inl (iA (P)))), (ad 7, .inl (cZ, 8, .inl (iA (Mo)))), (ad 1, .inr (4, [.ref (ad 2), .ref (be), .int (iI (n_3))])), (ad 2, .inl (cI, 160, .inl (iA (V)))), (be, .inl (cI, Ln, .inl (iA (B)))), (ad 16, .inr (5, [.ref (ad 17), .int (iI (sn_4))]))] H := hP
  have hD : va_D AA [(ad 0, .inr (7, [.ref (ad 1), .ref (ad 4), .ref (ad 8), .ref (ad 12), .ref (ad 16), .ref (ad 18)])), (ad 4, .inr (0, [.ref (ad 1), .ref (ad 5), .ref (ad 6), .ref (ad 7)])), (ad 5, .inl (cI, 8, .inl (iA (P)))), (ad 7, .inl (cZ, 8, .inl (iA (Mo)))), (ad 1, .inr (4, [.ref (ad 2), .ref (be), .int (iI (n_3))])), (ad 2, .inl (cI, 160, .inl (iA (V)))), (be, .inl (cI, Ln, .inl (iA (B)))), (ad 16, .inr (5, [.ref (ad 17), .int (iI (sn_4))]))] := hD
  try dsimp only at hq_1
  refine z_mret ((n_3, sn_4)) hx hb hr hlocks dX7_commit_4 hP hD hS ?_
  exact hq_1

set_option maxHeartbeats 600000 in
set_option maxRecDepth 100000 in
theorem c_X7_rollBack (l : Launch) (D : va_G) (cI cZ cC : ClassId) (sz : Nat) (ad : Nat → Nat) (be Ln : Nat) (V B : Int → Int) (n N : Int) (lg : Lg) (sn : Int) (SP : Int → Int) (g_H : okH N lg V) (g_L : isL lg B n) (g_Ln : n ≤ (Ln : Int) ∧ Ln < 100000) : zMi l yX7_rollBack wsX7_rollBack ({ frames := 3, cells := 0, slots := 0, locals := 64 }) D cI cZ cC [(ad 0, .inr (7, [.ref (ad 1), .ref (ad 4), .ref (ad 8), .ref (ad 12), .ref (ad 16), .ref (ad 18)])), (ad 1, .inr (4, [.ref (ad 2), .ref (be), .int (iI (n))])), (ad 2, .inl (cI, 160, .inl (iA (V)))), (be, .inl (cI, Ln, .inl (iA (B)))), (ad 16, .inr (5, [.ref (ad 17), .int (iI (sn))])), (ad 17, .inl (cI, 4, .inl (iA (SP))))] sz [.ref (ad 0)] (0) (0) (fun (u : (Int → Int) × Int) => [(ad 0, .inr (7, [.ref (ad 1), .ref (ad 4), .ref (ad 8), .ref (ad 12), .ref (ad 16), .ref (ad 18)])), (ad 1, .inr (4, [.ref (ad 2), .ref (be), .int (iI (u.2))])), (ad 2, .inl (cI, 160, .inl (iA (u.1)))), (be, .inl (cI, Ln, .inl (iA (B)))), (ad 16, .inr (5, [.ref (ad 17), .int (iI (0))])), (ad 17, .inl (cI, 4, .inl (iA (SP))))]) (fun v (u : (Int → Int) × Int) => v = n ∧ u.1 = (unL lg.length V lg).1 ∧ u.2 = 0) := by
  refine z_ofMi (cc := cX7_rollBack) (maxL := 1) (ret := (some .int)) RX7 (by decide +kernel) rfl rfl (Nat.le_of_ble_eq_true rfl) ?_
  intro p0 en0 s0 m0 args0 below0 meth0 c0 ls AA hx hb hr hlocks hml hown hts hP hD hS hA hK hl
  have hl : lv_has ls 1 [(0, .ref (ad 0))] := hl
  obtain ⟨H, hH⟩ : ∃ H, H = s0.heap := ⟨_, rfl⟩
  obtain ⟨locs, hlo⟩ : ∃ locs : List Loc, locs = [] := ⟨_, rfl⟩
  have hP : va_P D vwCl [(ad 0, .inr (7, [.ref (ad 1), .ref (ad 4), .ref (ad 8), .ref (ad 12), .ref (ad 16), .ref (ad 18)])), (ad 1, .inr (4, [.ref (ad 2), .ref (be), .int (iI (n))])), (ad 2, .inl (cI, 160, .inl (iA (V)))), (be, .inl (cI, Ln, .inl (iA (B)))), (ad 16, .inr (5, [.ref (ad 17), .int (iI (sn))])), (ad 17, .inl (cI, 4, .inl (iA (SP))))] H := by rw [hH]; exact hP
  have hS : va_S AA s0.heap H locs := by rw [hH, hlo]; exact hS
  suffices hW : W p0 l en0 (headSpec wsX7_rollBack ({ frames := 3, cells := 0, slots := 0, locals := 64 })).room s0 m0 args0 below0 meth0 c0 H locs 0 0 (QMi below0 D ((fun (u : (Int → Int) × Int) => [(ad 0, .inr (7, [.ref (ad 1), .ref (ad 4), .ref (ad 8), .ref (ad 12), .ref (ad 16), .ref (ad 18)])), (ad 1, .inr (4, [.ref (ad 2), .ref (be), .int (iI (u.2))])), (ad 2, .inl (cI, 160, .inl (iA (u.1)))), (be, .inl (cI, Ln, .inl (iA (B)))), (ad 16, .inr (5, [.ref (ad 17), .int (iI (0))])), (ad 17, .inl (cI, 4, .inl (iA (SP))))])) (fun v (u : (Int → Int) × Int) => v = n ∧ u.1 = (unL lg.length V lg).1 ∧ u.2 = 0) AA args0 s0 (0) (0)) (F0 m0 0 ls []) by rw [hH, hlo] at hW; exact hW
  refine lv_aload_n hx hb dX7_rollBack_0 rfl (lv_at hl 0 rfl) ?_
  refine z_muV (As := []) (rest := []) (wr := []) (ws2 := (fun (u : (Int → Int) × Int) => [(ad 0, .inr (7, [.ref (ad 1), .ref (ad 4), .ref (ad 8), .ref (ad 12), .ref (ad 16), .ref (ad 18)])), (ad 1, .inr (4, [.ref (ad 2), .ref (be), .int (iI (u.2))])), (ad 2, .inl (cI, 160, .inl (iA (u.1)))), (be, .inl (cI, Ln, .inl (iA (B)))), (ad 16, .inr (5, [.ref (ad 17), .int (iI (0))])), (ad 17, .inl (cI, 4, .inl (iA (SP))))])) ⟨hx, hb, hml, hown, hts⟩ (c_X7_undoAll l D cI cZ cC H.size (ad) (be) (Ln) (V) (B) (n) (N) (lg) (sn) (SP) (by first | assumption | omega) (by first | assumption | omega) (by first | assumption | omega)) (cwV 0 hts gX7_rollBack_X7_undoAll rfl rfl rfl (by decide +kernel) ⟨Nat.le_of_ble_eq_true rfl, Nat.le_of_ble_eq_true rfl⟩) hP hD hS hA hK [0, 1, 2, 3, 4, 5] [] [0, 1, 2, 3, 4, 5] rfl (by decide) rfl (by decide) (by decide) (by decide) (fun _ => rfl) 0 7 rfl rfl rfl rfl hl.1 rfl (Nat.le_of_ble_eq_true rfl) dX7_rollBack_1 ⟨by omega, by omega⟩ (fun r_2 u H locs hq_1 hP hD hS => ?_)
  obtain ⟨V_3, n_4⟩ := u
  have hP : va_P D vwCl [(ad 0, .inr (7, [.ref (ad 1), .ref (ad 4), .ref (ad 8), .ref (ad 12), .ref (ad 16), .ref (ad 18)])), (ad 1, .inr (4, [.ref (ad 2), .ref (be), .int (iI (n_4))])), (ad 2, .inl (cI, 160, .inl (iA (V_3)))), (be, .inl (cI, Ln, .inl (iA (B)))), (ad 16, .inr (5, [.ref (ad 17), .int (iI (0))])), (ad 17, .inl (cI, 4, .inl (iA (SP))))] H := hP
  have hD : va_D AA [(ad 0, .inr (7, [.ref (ad 1), .ref (ad 4), .ref (ad 8), .ref (ad 12), .ref (ad 16), .ref (ad 18)])), (ad 1, .inr (4, [.ref (ad 2), .ref (be), .int (iI (n_4))])), (ad 2, .inl (cI, 160, .inl (iA (V_3)))), (be, .inl (cI, Ln, .inl (iA (B)))), (ad 16, .inr (5, [.ref (ad 17), .int (iI (0))])), (ad 17, .inl (cI, 4, .inl (iA (SP))))] := hD
  try dsimp only at hq_1
  obtain ⟨hv9, hq_1⟩ := hq_1
  have hv9 := hv9.symm
  subst hv9
  refine z_mret ((V_3, n_4)) hx hb hr hlocks dX7_rollBack_4 hP hD hS ?_
  exact ⟨rfl, hq_1⟩

