set_option maxHeartbeats 4000000 in
set_option maxRecDepth 100000 in
theorem c_L_ends (l : Launch) (D : va_G) (cI cZ cC : ClassId) (b0 : Nat) (adK adV : Nat → Nat) (sz : Nat) (ad : Nat → Nat) (be Ln : Nat) (P Ac Mo V B : Int → Int) (n N : Int) (lg : Lg) (SP : Int → Int) (sn : Int) (g_lt : l.stackTraces = false) (g_I : LV N Ln P Ac Mo V lg B n SP sn) (g_N : N ≤ 680) : zWr l yL_ends wsL_ends ({ frames := 9, cells := 600, slots := 12000, locals := 217 }) D cI cZ cC b0 adK adV [(ad 0, .inr (7, [.ref (ad 1), .ref (ad 4), .ref (ad 8), .ref (ad 12), .ref (ad 16), .ref (ad 18)])), (ad 4, .inr (0, [.ref (ad 1), .ref (ad 5), .ref (ad 6), .ref (ad 7)])), (ad 5, .inl (cI, 8, .inl (iA (P)))), (ad 7, .inl (cZ, 8, .inl (iA (Mo)))), (ad 1, .inr (4, [.ref (ad 2), .ref (be), .int (iI (n))])), (ad 2, .inl (cI, 160, .inl (iA (V)))), (be, .inl (cI, Ln, .inl (iA (B)))), (ad 6, .inl (cI, 8, .inl (iA (Ac)))), (ad 16, .inr (5, [.ref (ad 17), .int (iI (sn))])), (ad 17, .inl (cI, 4, .inl (iA (SP))))] sz [.ref (ad 0)] (600) (12000) (fun (u : Nat × Nat × (Int → Int) × Int × Int) => [(ad 0, .inr (7, [.ref (ad 1), .ref (ad 4), .ref (ad 8), .ref (ad 12), .ref (ad 16), .ref (ad 18)])), (ad 4, .inr (0, [.ref (ad 1), .ref (ad 5), .ref (ad 6), .ref (ad 7)])), (ad 5, .inl (cI, 8, .inl (iA (P)))), (ad 7, .inl (cZ, 8, .inl (iA (Mo)))), (ad 1, .inr (4, [.ref (ad 2), .ref (u.2.1), .int (iI (u.2.2.2.1))])), (ad 2, .inl (cI, 160, .inl (iA (V)))), (u.2.1, .inl (cI, u.1, .inl (iA (u.2.2.1)))), (ad 6, .inl (cI, 8, .inl (iA (Ac)))), (ad 16, .inr (5, [.ref (ad 17), .int (iI (u.2.2.2.2))])), (ad 17, .inl (cI, 4, .inl (iA (SP))))]) (fun v (u : Nat × Nat × (Int → Int) × Int × Int) => v = 1 ∧ ∃ lg1 : Lg, LV N u.1 P Ac Mo V lg1 u.2.2.1 u.2.2.2.1 SP u.2.2.2.2 ∧ Ln ≤ u.1) := by
  refine z_ofLw (cc := cL_ends) (maxL := 11) (ret := (some .boolean)) RL (by decide +kernel) rfl rfl (Nat.le_of_ble_eq_true rfl) ?_
  intro p0 en0 s0 m0 args0 below0 meth0 c0 ls AA hx hb hr hlocks hml hown hts hCa hX hE hAb hbs hP hD hS hA hK hl
  have hl : lv_has ls 11 [(0, .ref (ad 0))] := hl
  obtain ⟨H, hH⟩ : ∃ H, H = s0.heap := ⟨_, rfl⟩
  obtain ⟨locs, hlo⟩ : ∃ locs : List Loc, locs = [] := ⟨_, rfl⟩
  have hP : va_P D vwCl [(ad 0, .inr (7, [.ref (ad 1), .ref (ad 4), .ref (ad 8), .ref (ad 12), .ref (ad 16), .ref (ad 18)])), (ad 4, .inr (0, [.ref (ad 1), .ref (ad 5), .ref (ad 6), .ref (ad 7)])), (ad 5, .inl (cI, 8, .inl (iA (P)))), (ad 7, .inl (cZ, 8, .inl (iA (Mo)))), (ad 1, .inr (4, [.ref (ad 2), .ref (be), .int (iI (n))])), (ad 2, .inl (cI, 160, .inl (iA (V)))), (be, .inl (cI, Ln, .inl (iA (B)))), (ad 6, .inl (cI, 8, .inl (iA (Ac)))), (ad 16, .inr (5, [.ref (ad 17), .int (iI (sn))])), (ad 17, .inl (cI, 4, .inl (iA (SP))))] H := by rw [hH]; exact hP
  have hS : va_S AA s0.heap H locs := by rw [hH, hlo]; exact hS
  suffices hW : W p0 l en0 (headSpec wsL_ends ({ frames := 9, cells := 600, slots := 12000, locals := 217 })).room s0 m0 args0 below0 meth0 c0 H locs (0) (0) (QMi below0 D ((fun (u : Nat × Nat × (Int → Int) × Int × Int) => [(ad 0, .inr (7, [.ref (ad 1), .ref (ad 4), .ref (ad 8), .ref (ad 12), .ref (ad 16), .ref (ad 18)])), (ad 4, .inr (0, [.ref (ad 1), .ref (ad 5), .ref (ad 6), .ref (ad 7)])), (ad 5, .inl (cI, 8, .inl (iA (P)))), (ad 7, .inl (cZ, 8, .inl (iA (Mo)))), (ad 1, .inr (4, [.ref (ad 2), .ref (u.2.1), .int (iI (u.2.2.2.1))])), (ad 2, .inl (cI, 160, .inl (iA (V)))), (u.2.1, .inl (cI, u.1, .inl (iA (u.2.2.1)))), (ad 6, .inl (cI, 8, .inl (iA (Ac)))), (ad 16, .inr (5, [.ref (ad 17), .int (iI (u.2.2.2.2))])), (ad 17, .inl (cI, 4, .inl (iA (SP))))])) (fun v (u : Nat × Nat × (Int → Int) × Int × Int) => v = 1 ∧ ∃ lg1 : Lg, LV N u.1 P Ac Mo V lg1 u.2.2.1 u.2.2.2.1 SP u.2.2.2.2 ∧ Ln ≤ u.1) AA args0 s0 (600) (12000)) (F0 m0 0 ls []) by rw [hH, hlo] at hW; exact hW
  obtain ⟨⟨g_P, g_Mo, g_Ac⟩, ⟨g_H, g_L, g_Ln⟩, g_s, g_sp⟩ := g_I
  have g_nn := isL_n g_L
  have g_top := (okH_top g_H).2.2
  have g_pot := pot_b V
  have g_V := (okH_top g_H).1
  refine lv_aload_n hx hb dL_ends_0 rfl (lv_at hl 0 rfl) ?_
  refine z_roV (As := []) (rest := []) ⟨hx, hb, hml, hown, hts⟩ (c_X7_firstViolation l D cI cZ cC (ad) (be) (n) (P) (Mo) (V) (by first | assumption | omega) (by first | assumption | omega) (by first | assumption | omega)) (cwV 0 hts gL_ends_X7_firstViolation rfl rfl rfl (by decide +kernel) ⟨Nat.le_of_ble_eq_true rfl, Nat.le_of_ble_eq_true rfl⟩) hP hK [0, 1, 2, 3, 4, 5] rfl 0 7 rfl rfl rfl rfl hl.1 rfl (Nat.le_of_ble_eq_true rfl) dL_ends_1 ⟨(by show _ ≤ (600 : Nat); omega), (by show _ ≤ (12000 : Nat); omega)⟩ ?_
  have h_fb := fR_b (badC 1 Mo P V) 8 0
  refine lv_istore_n (lv' := [(1, .int (iI ((fR (badC 1 Mo P V) 8 0)))), (0, .ref (ad 0))]) hx hb dL_ends_4 rfl hl (by decide) rfl (fun ls hl => ?_)
  refine lv_aload_n hx hb dL_ends_5 rfl (lv_at hl 1 rfl) ?_
  refine z_roV (As := []) (rest := []) ⟨hx, hb, hml, hown, hts⟩ (c_X7_changes l D cI cZ cC (ad) (be) (n) ) (cwV 0 hts gL_ends_X7_changes rfl rfl rfl (by decide +kernel) ⟨Nat.le_of_ble_eq_true rfl, Nat.le_of_ble_eq_true rfl⟩) hP hK [0, 4] rfl 0 7 rfl rfl rfl rfl hl.1 rfl (Nat.le_of_ble_eq_true rfl) dL_ends_6 ⟨(by show _ ≤ (600 : Nat); omega), (by show _ ≤ (12000 : Nat); omega)⟩ ?_
  refine lv_istore_n (lv' := [(2, .int (iI ((n)))), (1, .int (iI ((fR (badC 1 Mo P V) 8 0)))), (0, .ref (ad 0))]) hx hb dL_ends_9 rfl hl (by decide) rfl (fun ls hl => ?_)
  refine lv_aload_n hx hb dL_ends_10 rfl (lv_at hl 2 rfl) ?_
  refine z_roV (As := []) (rest := []) ⟨hx, hb, hml, hown, hts⟩ (c_X7_savePoints l D cI cZ cC (ad) (sn) ) (cwV 0 hts gL_ends_X7_savePoints rfl rfl rfl (by decide +kernel) ⟨Nat.le_of_ble_eq_true rfl, Nat.le_of_ble_eq_true rfl⟩) hP hK [0, 8] rfl 0 7 rfl rfl rfl rfl hl.1 rfl (Nat.le_of_ble_eq_true rfl) dL_ends_11 ⟨(by show _ ≤ (600 : Nat); omega), (by show _ ≤ (12000 : Nat); omega)⟩ ?_
  refine lv_istore_n (lv' := [(3, .int (iI ((sn)))), (2, .int (iI ((n)))), (1, .int (iI ((fR (badC 1 Mo P V) 8 0)))), (0, .ref (ad 0))]) hx hb dL_ends_14 rfl hl (by decide) rfl (fun ls hl => ?_)
  refine lv_aload_n hx hb dL_ends_15 rfl (lv_at hl 3 rfl) ?_
  refine z_llS (As := [.ref (ad 0)]) (rest := []) (wr := [(be, .inl (cI, Ln, .inl (iA (B)))), (ad 16, .inr (5, [.ref (ad 17), .int (iI (sn))])), (ad 17, .inl (cI, 4, .inl (iA (SP))))]) (ws2 := (fun (u : Unit) => [(ad 0, .inr (7, [.ref (ad 1), .ref (ad 4), .ref (ad 8), .ref (ad 12), .ref (ad 16), .ref (ad 18)])), (ad 4, .inr (0, [.ref (ad 1), .ref (ad 5), .ref (ad 6), .ref (ad 7)])), (ad 5, .inl (cI, 8, .inl (iA (P)))), (ad 7, .inl (cZ, 8, .inl (iA (Mo)))), (ad 1, .inr (4, [.ref (ad 2), .ref (be), .int (iI (n))])), (ad 2, .inl (cI, 160, .inl (iA (V)))), (be, .inl (cI, Ln, .inl (iA (B)))), (ad 6, .inl (cI, 8, .inl (iA (Ac)))), (ad 16, .inr (5, [.ref (ad 17), .int (iI (sn))])), (ad 17, .inl (cI, 4, .inl (iA (SP))))])) hCa hX hE hAb hbs ⟨hx, hb, hml, hown, hts⟩ (c_L_print l D cI cZ cC b0 adK adV H.size (ad) (be) (n) (P) (Ac) (Mo) (V) (by first | assumption | omega) (by first | assumption | omega) (by first | assumption | omega) (by first | assumption | omega) (by first | assumption | omega) (by first | assumption | omega)) (va_cwS 1 hts gL_ends_L_print rfl rfl rfl (by decide +kernel) ⟨Nat.le_of_ble_eq_true rfl, Nat.le_of_ble_eq_true rfl⟩) hP hD hS hA hK [0, 1, 2, 7, 3, 4, 5] [6, 8, 9] [3, 4, 5, 7, 8, 9, 0, 6, 1, 2] rfl (by decide) rfl (by decide) (by decide) (by decide) (fun _ => rfl) rfl hl.1 rfl (Nat.le_of_ble_eq_true rfl) dL_ends_16 ⟨(by show _ ≤ (600 : Nat); omega), (by show _ ≤ (12000 : Nat); omega)⟩ (fun r_1 u H locs hq_2 hP hD hS => ?_)
  have hP : va_P D vwCl [(ad 0, .inr (7, [.ref (ad 1), .ref (ad 4), .ref (ad 8), .ref (ad 12), .ref (ad 16), .ref (ad 18)])), (ad 4, .inr (0, [.ref (ad 1), .ref (ad 5), .ref (ad 6), .ref (ad 7)])), (ad 5, .inl (cI, 8, .inl (iA (P)))), (ad 7, .inl (cZ, 8, .inl (iA (Mo)))), (ad 1, .inr (4, [.ref (ad 2), .ref (be), .int (iI (n))])), (ad 2, .inl (cI, 160, .inl (iA (V)))), (be, .inl (cI, Ln, .inl (iA (B)))), (ad 6, .inl (cI, 8, .inl (iA (Ac)))), (ad 16, .inr (5, [.ref (ad 17), .int (iI (sn))])), (ad 17, .inl (cI, 4, .inl (iA (SP))))] H := hP
  have hD : va_D AA [(ad 0, .inr (7, [.ref (ad 1), .ref (ad 4), .ref (ad 8), .ref (ad 12), .ref (ad 16), .ref (ad 18)])), (ad 4, .inr (0, [.ref (ad 1), .ref (ad 5), .ref (ad 6), .ref (ad 7)])), (ad 5, .inl (cI, 8, .inl (iA (P)))), (ad 7, .inl (cZ, 8, .inl (iA (Mo)))), (ad 1, .inr (4, [.ref (ad 2), .ref (be), .int (iI (n))])), (ad 2, .inl (cI, 160, .inl (iA (V)))), (be, .inl (cI, Ln, .inl (iA (B)))), (ad 6, .inl (cI, 8, .inl (iA (Ac)))), (ad 16, .inr (5, [.ref (ad 17), .int (iI (sn))])), (ad 17, .inl (cI, 4, .inl (iA (SP))))] := hD
  try dsimp only at hq_2
  obtain ⟨hv9, hq_2⟩ := hq_2
  have hv9 := hv9.symm
  subst hv9
  refine lv_lstore (lv' := [(4, .long ((prF P Ac Mo V n))), (3, .int (iI ((sn)))), (2, .int (iI ((n)))), (1, .int (iI ((fR (badC 1 Mo P V) 8 0)))), (0, .ref (ad 0))]) hx hb dL_ends_19 hl (by decide) rfl (fun ls hl => ?_)
  refine lv_aload_n hx hb dL_ends_21 rfl (lv_at hl 4 rfl) ?_
  refine z_muV (As := []) (rest := []) (wr := [(ad 6, .inl (cI, 8, .inl (iA (Ac)))), (ad 17, .inl (cI, 4, .inl (iA (SP))))]) (ws2 := (fun (u : Int × Int) => [(ad 0, .inr (7, [.ref (ad 1), .ref (ad 4), .ref (ad 8), .ref (ad 12), .ref (ad 16), .ref (ad 18)])), (ad 4, .inr (0, [.ref (ad 1), .ref (ad 5), .ref (ad 6), .ref (ad 7)])), (ad 5, .inl (cI, 8, .inl (iA (P)))), (ad 7, .inl (cZ, 8, .inl (iA (Mo)))), (ad 1, .inr (4, [.ref (ad 2), .ref (be), .int (iI (u.1))])), (ad 2, .inl (cI, 160, .inl (iA (V)))), (be, .inl (cI, Ln, .inl (iA (B)))), (ad 6, .inl (cI, 8, .inl (iA (Ac)))), (ad 16, .inr (5, [.ref (ad 17), .int (iI (u.2))])), (ad 17, .inl (cI, 4, .inl (iA (SP))))])) ⟨hx, hb, hml, hown, hts⟩ (c_X7_commit l D cI cZ cC H.size (ad) (be) (Ln) (P) (Mo) (V) (B) (n) (sn) (by first | assumption | omega) (by first | assumption | omega) (by first | assumption | omega) (by first | assumption | omega)) (cwV 0 hts gL_ends_X7_commit rfl rfl rfl (by decide +kernel) ⟨Nat.le_of_ble_eq_true rfl, Nat.le_of_ble_eq_true rfl⟩) hP hD hS hA hK [0, 1, 2, 3, 4, 5, 6, 8] [7, 9] [2, 3, 4, 5, 6, 7, 8, 0, 9, 1] rfl (by decide) rfl (by decide) (by decide) (by decide) (fun _ => rfl) 0 7 rfl rfl rfl rfl hl.1 rfl (Nat.le_of_ble_eq_true rfl) dL_ends_22 ⟨(by show _ ≤ (600 : Nat); omega), (by show _ ≤ (12000 : Nat); omega)⟩ (fun r_4 u H locs hq_3 hP hD hS => ?_)
  obtain ⟨n_5, sn_6⟩ := u
  have hP : va_P D vwCl [(ad 0, .inr (7, [.ref (ad 1), .ref (ad 4), .ref (ad 8), .ref (ad 12), .ref (ad 16), .ref (ad 18)])), (ad 4, .inr (0, [.ref (ad 1), .ref (ad 5), .ref (ad 6), .ref (ad 7)])), (ad 5, .inl (cI, 8, .inl (iA (P)))), (ad 7, .inl (cZ, 8, .inl (iA (Mo)))), (ad 1, .inr (4, [.ref (ad 2), .ref (be), .int (iI (n_5))])), (ad 2, .inl (cI, 160, .inl (iA (V)))), (be, .inl (cI, Ln, .inl (iA (B)))), (ad 6, .inl (cI, 8, .inl (iA (Ac)))), (ad 16, .inr (5, [.ref (ad 17), .int (iI (sn_6))])), (ad 17, .inl (cI, 4, .inl (iA (SP))))] H := hP
  have hD : va_D AA [(ad 0, .inr (7, [.ref (ad 1), .ref (ad 4), .ref (ad 8), .ref (ad 12), .ref (ad 16), .ref (ad 18)])), (ad 4, .inr (0, [.ref (ad 1), .ref (ad 5), .ref (ad 6), .ref (ad 7)])), (ad 5, .inl (cI, 8, .inl (iA (P)))), (ad 7, .inl (cZ, 8, .inl (iA (Mo)))), (ad 1, .inr (4, [.ref (ad 2), .ref (be), .int (iI (n_5))])), (ad 2, .inl (cI, 160, .inl (iA (V)))), (be, .inl (cI, Ln, .inl (iA (B)))), (ad 6, .inl (cI, 8, .inl (iA (Ac)))), (ad 16, .inr (5, [.ref (ad 17), .int (iI (sn_6))])), (ad 17, .inl (cI, 4, .inl (iA (SP))))] := hD
  try dsimp only at hq_3
  obtain ⟨d0, d1⟩ := hq_3
  refine lv_istore (lv' := [(6, .int (iI (r_4))), (4, .long ((prF P Ac Mo V n))), (3, .int (iI ((sn)))), (2, .int (iI ((n)))), (1, .int (iI ((fR (badC 1 Mo P V) 8 0)))), (0, .ref (ad 0))]) hx hb dL_ends_25 hl (by decide) rfl (fun ls hl => ?_)
  refine lv_iload_n hx hb dL_ends_27 rfl (lv_at hl 4 rfl) ?_
  refine z_if_eq (tgt := 69) hx hb dL_ends_28 (by decide) ⟨by omega, by omega⟩ (fun c_7 => ?_) (fun c_7 => ?_)
  · rw [if_pos (show fR (badC 1 Mo P V) 8 0 = 0 by omega)] at d1
    have e_r : r_4 = n := congrArg Prod.fst d1
    have e_n : n_5 = 0 := congrArg (fun x => x.2.1) d1
    have e_s : sn_6 = 0 := congrArg (fun x => x.2.2) d1
    rw [e_n, e_s] at hP hD
    have h_ok0 := okI_1 (show fR (badC 1 Mo P V) 8 0 = 0 by omega)
    refine lv_aload_n hx hb dL_ends_69 rfl (lv_at hl 5 rfl) ?_
    refine z_llS (As := [.ref (ad 0)]) (rest := []) (wr := [(be, .inl (cI, Ln, .inl (iA (B)))), (ad 16, .inr (5, [.ref (ad 17), .int (iI (0))])), (ad 17, .inl (cI, 4, .inl (iA (SP))))]) (ws2 := (fun (u : Unit) => [(ad 0, .inr (7, [.ref (ad 1), .ref (ad 4), .ref (ad 8), .ref (ad 12), .ref (ad 16), .ref (ad 18)])), (ad 4, .inr (0, [.ref (ad 1), .ref (ad 5), .ref (ad 6), .ref (ad 7)])), (ad 5, .inl (cI, 8, .inl (iA (P)))), (ad 7, .inl (cZ, 8, .inl (iA (Mo)))), (ad 1, .inr (4, [.ref (ad 2), .ref (be), .int (iI (0))])), (ad 2, .inl (cI, 160, .inl (iA (V)))), (be, .inl (cI, Ln, .inl (iA (B)))), (ad 6, .inl (cI, 8, .inl (iA (Ac)))), (ad 16, .inr (5, [.ref (ad 17), .int (iI (0))])), (ad 17, .inl (cI, 4, .inl (iA (SP))))])) hCa hX hE hAb hbs ⟨hx, hb, hml, hown, hts⟩ (c_L_print l D cI cZ cC b0 adK adV H.size (ad) (be) (0) (P) (Ac) (Mo) (V) (by first | assumption | omega) (by first | assumption | omega) (by first | assumption | omega) (by first | assumption | omega) (by first | assumption | omega) (by first | assumption | omega)) (va_cwS 1 hts gL_ends_L_print rfl rfl rfl (by decide +kernel) ⟨Nat.le_of_ble_eq_true rfl, Nat.le_of_ble_eq_true rfl⟩) hP hD hS hA hK [0, 1, 2, 7, 3, 4, 5] [6, 8, 9] [3, 4, 5, 7, 8, 9, 0, 6, 1, 2] rfl (by decide) rfl (by decide) (by decide) (by decide) (fun _ => rfl) rfl hl.1 rfl (Nat.le_of_ble_eq_true rfl) dL_ends_70 ⟨(by show _ ≤ (600 : Nat); omega), (by show _ ≤ (12000 : Nat); omega)⟩ (fun r_8 u H locs hq_9 hP hD hS => ?_)
    have hP : va_P D vwCl [(ad 0, .inr (7, [.ref (ad 1), .ref (ad 4), .ref (ad 8), .ref (ad 12), .ref (ad 16), .ref (ad 18)])), (ad 4, .inr (0, [.ref (ad 1), .ref (ad 5), .ref (ad 6), .ref (ad 7)])), (ad 5, .inl (cI, 8, .inl (iA (P)))), (ad 7, .inl (cZ, 8, .inl (iA (Mo)))), (ad 1, .inr (4, [.ref (ad 2), .ref (be), .int (iI (0))])), (ad 2, .inl (cI, 160, .inl (iA (V)))), (be, .inl (cI, Ln, .inl (iA (B)))), (ad 6, .inl (cI, 8, .inl (iA (Ac)))), (ad 16, .inr (5, [.ref (ad 17), .int (iI (0))])), (ad 17, .inl (cI, 4, .inl (iA (SP))))] H := hP
    have hD : va_D AA [(ad 0, .inr (7, [.ref (ad 1), .ref (ad 4), .ref (ad 8), .ref (ad 12), .ref (ad 16), .ref (ad 18)])), (ad 4, .inr (0, [.ref (ad 1), .ref (ad 5), .ref (ad 6), .ref (ad 7)])), (ad 5, .inl (cI, 8, .inl (iA (P)))), (ad 7, .inl (cZ, 8, .inl (iA (Mo)))), (ad 1, .inr (4, [.ref (ad 2), .ref (be), .int (iI (0))])), (ad 2, .inl (cI, 160, .inl (iA (V)))), (be, .inl (cI, Ln, .inl (iA (B)))), (ad 6, .inl (cI, 8, .inl (iA (Ac)))), (ad 16, .inr (5, [.ref (ad 17), .int (iI (0))])), (ad 17, .inl (cI, 4, .inl (iA (SP))))] := hD
    try dsimp only at hq_9
    obtain ⟨hv9, hq_9⟩ := hq_9
    have hv9 := hv9.symm
    subst hv9
    refine lv_lstore (lv' := [(7, .long ((prF P Ac Mo V 0))), (6, .int (iI (r_4))), (4, .long ((prF P Ac Mo V n))), (3, .int (iI ((sn)))), (2, .int (iI ((n)))), (1, .int (iI ((fR (badC 1 Mo P V) 8 0)))), (0, .ref (ad 0))]) hx hb dL_ends_73 hl (by decide) rfl (fun ls hl => ?_)
    refine lv_iload hx hb dL_ends_75 (lv_at hl 1 rfl) ?_
    refine lv_iload_n hx hb dL_ends_77 rfl (lv_at hl 4 rfl) ?_
    refine z_icmp_ne (tgt := 99) hx hb dL_ends_78 (by decide) ⟨⟨by omega, by omega⟩, ⟨by omega, by omega⟩⟩ (fun c_10 => ?_) (fun c_10 => ?_)
    · exfalso
      omega
    · refine lv_aload_n hx hb dL_ends_81 rfl (lv_at hl 6 rfl) ?_
      refine z_roV (As := []) (rest := []) ⟨hx, hb, hml, hown, hts⟩ (c_X7_changes l D cI cZ cC (ad) (be) (0) ) (cwV 0 hts gL_ends_X7_changes rfl rfl rfl (by decide +kernel) ⟨Nat.le_of_ble_eq_true rfl, Nat.le_of_ble_eq_true rfl⟩) hP hK [0, 4] rfl 0 7 rfl rfl rfl rfl hl.1 rfl (Nat.le_of_ble_eq_true rfl) dL_ends_82 ⟨(by show _ ≤ (600 : Nat); omega), (by show _ ≤ (12000 : Nat); omega)⟩ ?_
      refine z_if_ne (tgt := 99) hx hb dL_ends_85 (by decide) ⟨by omega, by omega⟩ (fun c_11 => ?_) (fun c_11 => ?_)
      · exfalso
        omega
      · refine lv_aload_n hx hb dL_ends_88 rfl (lv_at hl 6 rfl) ?_
        refine z_roV (As := []) (rest := []) ⟨hx, hb, hml, hown, hts⟩ (c_X7_savePoints l D cI cZ cC (ad) (0) ) (cwV 0 hts gL_ends_X7_savePoints rfl rfl rfl (by decide +kernel) ⟨Nat.le_of_ble_eq_true rfl, Nat.le_of_ble_eq_true rfl⟩) hP hK [0, 8] rfl 0 7 rfl rfl rfl rfl hl.1 rfl (Nat.le_of_ble_eq_true rfl) dL_ends_89 ⟨(by show _ ≤ (600 : Nat); omega), (by show _ ≤ (12000 : Nat); omega)⟩ ?_
        refine z_if_ne (tgt := 99) hx hb dL_ends_92 (by decide) ⟨by omega, by omega⟩ (fun c_12 => ?_) (fun c_12 => ?_)
        · exfalso
          omega
        · refine lv_iconst (v := iI (1)) hx hb dL_ends_95 rfl ?_
          refine lv_goto (tgt := 100) hx hb dL_ends_96 (by decide) ?_
          refine lv_istore (lv' := [(9, .int (iI (1))), (7, .long ((prF P Ac Mo V 0))), (6, .int (iI (r_4))), (4, .long ((prF P Ac Mo V n))), (3, .int (iI ((sn)))), (2, .int (iI ((n)))), (1, .int (iI ((fR (badC 1 Mo P V) 8 0)))), (0, .ref (ad 0))]) hx hb dL_ends_100 hl (by decide) rfl (fun ls hl => ?_)
          refine lv_iconst (v := iI (0)) hx hb dL_ends_102 rfl ?_
          refine lv_istore (lv' := [(10, .int (iI (0))), (9, .int (iI (1))), (7, .long ((prF P Ac Mo V 0))), (6, .int (iI (r_4))), (4, .long ((prF P Ac Mo V n))), (3, .int (iI ((sn)))), (2, .int (iI ((n)))), (1, .int (iI ((fR (badC 1 Mo P V) 8 0)))), (0, .ref (ad 0))]) hx hb dL_ends_103 hl (by decide) rfl (fun ls hl => ?_)
          have loop105 : ∀ (fu : Nat) (i : Nat) (Lc bc : Nat) (Vc Bc : Int → Int) (nc : Int) (lc : Lg), (g_i : i ≤ 3) → (g_fu : 3 < i + fu) → (g_ok : okI P Mo Vc) → (g_E : extL V [] Vc lc) → (g_L2 : isL lc Bc nc) → (g_H2 : okH (N + 4 * (i : Int)) lc Vc) → (g_Lc : Ln ≤ Lc ∧ nc ≤ (Lc : Int) ∧ Lc ≤ 2000) → ∀ (H : Heap) (locs : List Loc), va_P D vwCl [(ad 0, .inr (7, [.ref (ad 1), .ref (ad 4), .ref (ad 8), .ref (ad 12), .ref (ad 16), .ref (ad 18)])), (ad 4, .inr (0, [.ref (ad 1), .ref (ad 5), .ref (ad 6), .ref (ad 7)])), (ad 5, .inl (cI, 8, .inl (iA (P)))), (ad 7, .inl (cZ, 8, .inl (iA (Mo)))), (ad 1, .inr (4, [.ref (ad 2), .ref (bc), .int (iI (nc))])), (ad 2, .inl (cI, 160, .inl (iA (Vc)))), (bc, .inl (cI, Lc, .inl (iA (Bc)))), (ad 6, .inl (cI, 8, .inl (iA (Ac)))), (ad 16, .inr (5, [.ref (ad 17), .int (iI (0))])), (ad 17, .inl (cI, 4, .inl (iA (SP))))] H → va_D AA [(ad 0, .inr (7, [.ref (ad 1), .ref (ad 4), .ref (ad 8), .ref (ad 12), .ref (ad 16), .ref (ad 18)])), (ad 4, .inr (0, [.ref (ad 1), .ref (ad 5), .ref (ad 6), .ref (ad 7)])), (ad 5, .inl (cI, 8, .inl (iA (P)))), (ad 7, .inl (cZ, 8, .inl (iA (Mo)))), (ad 1, .inr (4, [.ref (ad 2), .ref (bc), .int (iI (nc))])), (ad 2, .inl (cI, 160, .inl (iA (Vc)))), (bc, .inl (cI, Lc, .inl (iA (Bc)))), (ad 6, .inl (cI, 8, .inl (iA (Ac)))), (ad 16, .inr (5, [.ref (ad 17), .int (iI (0))])), (ad 17, .inl (cI, 4, .inl (iA (SP))))] → va_S AA s0.heap H locs → ∀ ls : Array Slot, lv_has ls 11 [(10, .int (iI ((i : Int)))), (9, .int (iI (1))), (7, .long ((prF P Ac Mo V 0))), (6, .int (iI (r_4))), (4, .long ((prF P Ac Mo V n))), (3, .int (iI ((sn)))), (2, .int (iI ((n)))), (1, .int (iI ((fR (badC 1 Mo P V) 8 0)))), (0, .ref (ad 0))] → W p0 l en0 (headSpec wsL_ends ({ frames := 9, cells := 600, slots := 12000, locals := 217 })).room s0 m0 args0 below0 meth0 c0 H locs (384 + 3 * i) (2304 + 1906 * i) (QMi below0 D ((fun (u : Nat × Nat × (Int → Int) × Int × Int) => [(ad 0, .inr (7, [.ref (ad 1), .ref (ad 4), .ref (ad 8), .ref (ad 12), .ref (ad 16), .ref (ad 18)])), (ad 4, .inr (0, [.ref (ad 1), .ref (ad 5), .ref (ad 6), .ref (ad 7)])), (ad 5, .inl (cI, 8, .inl (iA (P)))), (ad 7, .inl (cZ, 8, .inl (iA (Mo)))), (ad 1, .inr (4, [.ref (ad 2), .ref (u.2.1), .int (iI (u.2.2.2.1))])), (ad 2, .inl (cI, 160, .inl (iA (V)))), (u.2.1, .inl (cI, u.1, .inl (iA (u.2.2.1)))), (ad 6, .inl (cI, 8, .inl (iA (Ac)))), (ad 16, .inr (5, [.ref (ad 17), .int (iI (u.2.2.2.2))])), (ad 17, .inl (cI, 4, .inl (iA (SP))))])) (fun v (u : Nat × Nat × (Int → Int) × Int × Int) => v = 1 ∧ ∃ lg1 : Lg, LV N u.1 P Ac Mo V lg1 u.2.2.1 u.2.2.2.1 SP u.2.2.2.2 ∧ Ln ≤ u.1) AA args0 s0 (600) (12000)) (F0 m0 105 ls []) := by
            intro fu
            induction fu with
            | zero => intro i Lc bc Vc Bc nc lc g_i g_fu g_ok g_E g_L2 g_H2 g_Lc H locs hP hD hS ls hl; exfalso; omega
            | succ fu ih105 =>
              intro i Lc bc Vc Bc nc lc g_i g_fu g_ok g_E g_L2 g_H2 g_Lc H locs hP hD hS ls hl
              have g_V2 := (okH_top g_H2).1
              have g_n2 := isL_n g_L2
              have g_t2 := (okH_top g_H2).2.2
              have g_p2 := pot_b Vc
              have g_rr : 0 ≤ (i : Int) * 20 + (i : Int) ∧ (i : Int) * 20 + (i : Int) < 80 ∨ 3 ≤ i := by omega
              refine lv_iload hx hb dL_ends_105 (lv_at hl 0 rfl) ?_
              refine lv_iconst (v := iI (3)) hx hb dL_ends_107 rfl ?_
              refine z_icmp_ge (tgt := 154) hx hb dL_ends_108 (by decide) ⟨⟨by omega, by omega⟩, ⟨by omega, by omega⟩⟩ (fun c_13 => ?_) (fun c_13 => ?_)
              · refine lv_iload hx hb dL_ends_154 (lv_at hl 1 rfl) ?_
                refine z_if_eq (tgt := 187) hx hb dL_ends_156 (by decide) ⟨by omega, by omega⟩ (fun c_14 => ?_) (fun c_14 => ?_)
                · exfalso
                  omega
                · refine lv_aload_n hx hb dL_ends_159 rfl (lv_at hl 8 rfl) ?_
                  refine z_muV (As := []) (rest := []) (wr := [(ad 4, .inr (0, [.ref (ad 1), .ref (ad 5), .ref (ad 6), .ref (ad 7)])), (ad 5, .inl (cI, 8, .inl (iA (P)))), (ad 7, .inl (cZ, 8, .inl (iA (Mo)))), (ad 6, .inl (cI, 8, .inl (iA (Ac))))]) (ws2 := (fun (u : (Int → Int) × Int) => [(ad 0, .inr (7, [.ref (ad 1), .ref (ad 4), .ref (ad 8), .ref (ad 12), .ref (ad 16), .ref (ad 18)])), (ad 4, .inr (0, [.ref (ad 1), .ref (ad 5), .ref (ad 6), .ref (ad 7)])), (ad 5, .inl (cI, 8, .inl (iA (P)))), (ad 7, .inl (cZ, 8, .inl (iA (Mo)))), (ad 1, .inr (4, [.ref (ad 2), .ref (bc), .int (iI (u.2))])), (ad 2, .inl (cI, 160, .inl (iA (u.1)))), (bc, .inl (cI, Lc, .inl (iA (Bc)))), (ad 6, .inl (cI, 8, .inl (iA (Ac)))), (ad 16, .inr (5, [.ref (ad 17), .int (iI (0))])), (ad 17, .inl (cI, 4, .inl (iA (SP))))])) ⟨hx, hb, hml, hown, hts⟩ (c_X7_rollBack l D cI cZ cC H.size (ad) (bc) (Lc) (Vc) (Bc) (nc) ((N + 4 * (i : Int))) (lc) (0) (SP) (g_H2) (g_L2) (by first | assumption | omega)) (cwV 0 hts gL_ends_X7_rollBack rfl rfl rfl (by decide +kernel) ⟨Nat.le_of_ble_eq_true rfl, Nat.le_of_ble_eq_true rfl⟩) hP hD hS hA hK [0, 4, 5, 6, 8, 9] [1, 2, 3, 7] [4, 0, 1, 2, 5, 6, 7, 3, 8, 9] rfl (by decide) rfl (by decide) (by decide) (by decide) (fun _ => rfl) 0 7 rfl rfl rfl rfl hl.1 rfl (Nat.le_of_ble_eq_true rfl) dL_ends_160 ⟨(by show _ ≤ (600 : Nat); omega), (by show _ ≤ (12000 : Nat); omega)⟩ (fun r_16 u H locs hq_15 hP hD hS => ?_)
                  obtain ⟨V_17, n_18⟩ := u
                  have hP : va_P D vwCl [(ad 0, .inr (7, [.ref (ad 1), .ref (ad 4), .ref (ad 8), .ref (ad 12), .ref (ad 16), .ref (ad 18)])), (ad 4, .inr (0, [.ref (ad 1), .ref (ad 5), .ref (ad 6), .ref (ad 7)])), (ad 5, .inl (cI, 8, .inl (iA (P)))), (ad 7, .inl (cZ, 8, .inl (iA (Mo)))), (ad 1, .inr (4, [.ref (ad 2), .ref (bc), .int (iI (n_18))])), (ad 2, .inl (cI, 160, .inl (iA (V_17)))), (bc, .inl (cI, Lc, .inl (iA (Bc)))), (ad 6, .inl (cI, 8, .inl (iA (Ac)))), (ad 16, .inr (5, [.ref (ad 17), .int (iI (0))])), (ad 17, .inl (cI, 4, .inl (iA (SP))))] H := hP
                  have hD : va_D AA [(ad 0, .inr (7, [.ref (ad 1), .ref (ad 4), .ref (ad 8), .ref (ad 12), .ref (ad 16), .ref (ad 18)])), (ad 4, .inr (0, [.ref (ad 1), .ref (ad 5), .ref (ad 6), .ref (ad 7)])), (ad 5, .inl (cI, 8, .inl (iA (P)))), (ad 7, .inl (cZ, 8, .inl (iA (Mo)))), (ad 1, .inr (4, [.ref (ad 2), .ref (bc), .int (iI (n_18))])), (ad 2, .inl (cI, 160, .inl (iA (V_17)))), (bc, .inl (cI, Lc, .inl (iA (Bc)))), (ad 6, .inl (cI, 8, .inl (iA (Ac)))), (ad 16, .inr (5, [.ref (ad 17), .int (iI (0))])), (ad 17, .inl (cI, 4, .inl (iA (SP))))] := hD
                  try dsimp only at hq_15
                  obtain ⟨hv9, hq_15⟩ := hq_15
                  have hv9 := hv9.symm
                  subst hv9
                  have e_V : V_17 = V := hq_15.1.trans (unL_E g_E)
                  have e_m : n_18 = 0 := hq_15.2
                  rw [e_V, e_m] at hP hD
                  refine z_if_lt (tgt := 187) hx hb dL_ends_163 (by decide) ⟨by omega, by omega⟩ (fun c_19 => ?_) (fun c_19 => ?_)
                  · exfalso
                    omega
                  · refine lv_aload_n hx hb dL_ends_166 rfl (lv_at hl 8 rfl) ?_
                    refine z_roV (As := []) (rest := []) ⟨hx, hb, hml, hown, hts⟩ (c_X7_changes l D cI cZ cC (ad) (bc) (0) ) (cwV 0 hts gL_ends_X7_changes rfl rfl rfl (by decide +kernel) ⟨Nat.le_of_ble_eq_true rfl, Nat.le_of_ble_eq_true rfl⟩) hP hK [0, 4] rfl 0 7 rfl rfl rfl rfl hl.1 rfl (Nat.le_of_ble_eq_true rfl) dL_ends_167 ⟨(by show _ ≤ (600 : Nat); omega), (by show _ ≤ (12000 : Nat); omega)⟩ ?_
                    refine z_if_ne (tgt := 187) hx hb dL_ends_170 (by decide) ⟨by omega, by omega⟩ (fun c_20 => ?_) (fun c_20 => ?_)
                    · exfalso
                      omega
                    · refine lv_aload_n hx hb dL_ends_173 rfl (lv_at hl 8 rfl) ?_
                      refine z_llS (As := [.ref (ad 0)]) (rest := []) (wr := [(bc, .inl (cI, Lc, .inl (iA (Bc)))), (ad 16, .inr (5, [.ref (ad 17), .int (iI (0))])), (ad 17, .inl (cI, 4, .inl (iA (SP))))]) (ws2 := (fun (u : Unit) => [(ad 0, .inr (7, [.ref (ad 1), .ref (ad 4), .ref (ad 8), .ref (ad 12), .ref (ad 16), .ref (ad 18)])), (ad 4, .inr (0, [.ref (ad 1), .ref (ad 5), .ref (ad 6), .ref (ad 7)])), (ad 5, .inl (cI, 8, .inl (iA (P)))), (ad 7, .inl (cZ, 8, .inl (iA (Mo)))), (ad 1, .inr (4, [.ref (ad 2), .ref (bc), .int (iI (0))])), (ad 2, .inl (cI, 160, .inl (iA (V)))), (bc, .inl (cI, Lc, .inl (iA (Bc)))), (ad 6, .inl (cI, 8, .inl (iA (Ac)))), (ad 16, .inr (5, [.ref (ad 17), .int (iI (0))])), (ad 17, .inl (cI, 4, .inl (iA (SP))))])) hCa hX hE hAb hbs ⟨hx, hb, hml, hown, hts⟩ (c_L_print l D cI cZ cC b0 adK adV H.size (ad) (bc) (0) (P) (Ac) (Mo) (V) (by first | assumption | omega) (by first | assumption | omega) (by first | assumption | omega) (by first | assumption | omega) (by first | assumption | omega) (by first | assumption | omega)) (va_cwS 1 hts gL_ends_L_print rfl rfl rfl (by decide +kernel) ⟨Nat.le_of_ble_eq_true rfl, Nat.le_of_ble_eq_true rfl⟩) hP hD hS hA hK [0, 1, 2, 7, 3, 4, 5] [6, 8, 9] [3, 4, 5, 7, 8, 9, 0, 6, 1, 2] rfl (by decide) rfl (by decide) (by decide) (by decide) (fun _ => rfl) rfl hl.1 rfl (Nat.le_of_ble_eq_true rfl) dL_ends_174 ⟨(by show _ ≤ (600 : Nat); omega), (by show _ ≤ (12000 : Nat); omega)⟩ (fun r_21 u H locs hq_22 hP hD hS => ?_)
                      have hP : va_P D vwCl [(ad 0, .inr (7, [.ref (ad 1), .ref (ad 4), .ref (ad 8), .ref (ad 12), .ref (ad 16), .ref (ad 18)])), (ad 4, .inr (0, [.ref (ad 1), .ref (ad 5), .ref (ad 6), .ref (ad 7)])), (ad 5, .inl (cI, 8, .inl (iA (P)))), (ad 7, .inl (cZ, 8, .inl (iA (Mo)))), (ad 1, .inr (4, [.ref (ad 2), .ref (bc), .int (iI (0))])), (ad 2, .inl (cI, 160, .inl (iA (V)))), (bc, .inl (cI, Lc, .inl (iA (Bc)))), (ad 6, .inl (cI, 8, .inl (iA (Ac)))), (ad 16, .inr (5, [.ref (ad 17), .int (iI (0))])), (ad 17, .inl (cI, 4, .inl (iA (SP))))] H := hP
                      have hD : va_D AA [(ad 0, .inr (7, [.ref (ad 1), .ref (ad 4), .ref (ad 8), .ref (ad 12), .ref (ad 16), .ref (ad 18)])), (ad 4, .inr (0, [.ref (ad 1), .ref (ad 5), .ref (ad 6), .ref (ad 7)])), (ad 5, .inl (cI, 8, .inl (iA (P)))), (ad 7, .inl (cZ, 8, .inl (iA (Mo)))), (ad 1, .inr (4, [.ref (ad 2), .ref (bc), .int (iI (0))])), (ad 2, .inl (cI, 160, .inl (iA (V)))), (bc, .inl (cI, Lc, .inl (iA (Bc)))), (ad 6, .inl (cI, 8, .inl (iA (Ac)))), (ad 16, .inr (5, [.ref (ad 17), .int (iI (0))])), (ad 17, .inl (cI, 4, .inl (iA (SP))))] := hD
                      try dsimp only at hq_22
                      obtain ⟨hv9, hq_22⟩ := hq_22
                      have hv9 := hv9.symm
                      subst hv9
                      refine lv_lload hx hb dL_ends_177 (lv_at hl 2 rfl) ?_
                      refine z_lcmpE hx hb (rfl) dL_ends_179 ?_
                      refine z_if_ne (tgt := 187) hx hb dL_ends_180 (by decide) ⟨by omega, by omega⟩ (fun c_23 => ?_) (fun c_23 => ?_)
                      · exfalso
                        omega
                      · refine lv_iconst (v := iI (1)) hx hb dL_ends_183 rfl ?_
                        refine lv_goto (tgt := 188) hx hb dL_ends_184 (by decide) ?_
                        refine W.widen (k := 600) (n := 12000) (by omega) (by omega) ?_
                        refine z_mretZ ((Lc, bc, Bc, 0, 0)) hx hb hr hlocks dL_ends_188 (by omega) hP hD hS ?_
                        exact ⟨rfl, [], ⟨⟨g_P, g_Mo, g_Ac⟩, ⟨okH_nil g_H, rfl, by dsimp only; omega⟩, (by dsimp only; omega), fun j a b => by dsimp only at b; omega⟩, by dsimp only; omega⟩
              · refine lv_iload hx hb dL_ends_111 (lv_at hl 1 rfl) ?_
                refine z_if_eq (tgt := 145) hx hb dL_ends_113 (by decide) ⟨by omega, by omega⟩ (fun c_24 => ?_) (fun c_24 => ?_)
                · exfalso
                  omega
                · refine lv_aload_n hx hb dL_ends_116 rfl (lv_at hl 8 rfl) ?_
                  refine lv_iload hx hb dL_ends_117 (lv_at hl 0 rfl) ?_
                  refine lv_iload hx hb dL_ends_119 (lv_at hl 0 rfl) ?_
                  refine z_thV (As := [.int (iI ((i : Int))), .int (iI ((i : Int)))]) (rest := []) (wr := [(ad 4, .inr (0, [.ref (ad 1), .ref (ad 5), .ref (ad 6), .ref (ad 7)])), (ad 5, .inl (cI, 8, .inl (iA (P)))), (ad 7, .inl (cZ, 8, .inl (iA (Mo)))), (bc, .inl (cI, Lc, .inl (iA (Bc)))), (ad 6, .inl (cI, 8, .inl (iA (Ac)))), (ad 16, .inr (5, [.ref (ad 17), .int (iI (0))])), (ad 17, .inl (cI, 4, .inl (iA (SP))))]) (ws2 := (fun (u : Unit) => [(ad 0, .inr (7, [.ref (ad 1), .ref (ad 4), .ref (ad 8), .ref (ad 12), .ref (ad 16), .ref (ad 18)])), (ad 4, .inr (0, [.ref (ad 1), .ref (ad 5), .ref (ad 6), .ref (ad 7)])), (ad 5, .inl (cI, 8, .inl (iA (P)))), (ad 7, .inl (cZ, 8, .inl (iA (Mo)))), (ad 1, .inr (4, [.ref (ad 2), .ref (bc), .int (iI (nc))])), (ad 2, .inl (cI, 160, .inl (iA (Vc)))), (bc, .inl (cI, Lc, .inl (iA (Bc)))), (ad 6, .inl (cI, 8, .inl (iA (Ac)))), (ad 16, .inr (5, [.ref (ad 17), .int (iI (0))])), (ad 17, .inl (cI, 4, .inl (iA (SP))))])) hX hE hAb hbs ⟨hx, hb, hml, hown, hts⟩ (c_X7_exists l D cI cZ cC b0 adK adV H.size (ad) (bc) (nc) (Vc) ((i : Int)) ((i : Int)) (by first | assumption | omega) (by first | assumption | omega) (by first | assumption | omega) (by first | assumption | omega)) (cwV 2 hts gL_ends_X7_exists rfl rfl rfl (by decide +kernel) ⟨Nat.le_of_ble_eq_true rfl, Nat.le_of_ble_eq_true rfl⟩) hP hD hS hA hK [0, 4, 5] [1, 2, 3, 6, 7, 8, 9] [7, 0, 1, 2, 8, 9, 3, 4, 5, 6] rfl (by decide) rfl (by decide) (by decide) (by decide) (fun _ => rfl) 0 7 rfl rfl rfl rfl hl.1 rfl (Nat.le_of_ble_eq_true rfl) dL_ends_121 ⟨(by show _ ≤ (600 : Nat); omega), (by show _ ≤ (12000 : Nat); omega)⟩ (fun E9 ce9 q8 u H locs hq9 hP hD hS hc1 hc2 hc3 => ?_) (fun r_25 u H locs hq_26 hP hD hS => ?_)
                  · exfalso
                    have h9 := goK_0 (a := 0 ≤ (i : Int) ∧ (i : Int) < 4 ∧ 0 ≤ (i : Int) ∧ (i : Int) < 20) (b := True) (c := True) (by omega) trivial trivial
                    unfold thr3 at hq9
                    omega
                  have hP : va_P D vwCl [(ad 0, .inr (7, [.ref (ad 1), .ref (ad 4), .ref (ad 8), .ref (ad 12), .ref (ad 16), .ref (ad 18)])), (ad 4, .inr (0, [.ref (ad 1), .ref (ad 5), .ref (ad 6), .ref (ad 7)])), (ad 5, .inl (cI, 8, .inl (iA (P)))), (ad 7, .inl (cZ, 8, .inl (iA (Mo)))), (ad 1, .inr (4, [.ref (ad 2), .ref (bc), .int (iI (nc))])), (ad 2, .inl (cI, 160, .inl (iA (Vc)))), (bc, .inl (cI, Lc, .inl (iA (Bc)))), (ad 6, .inl (cI, 8, .inl (iA (Ac)))), (ad 16, .inr (5, [.ref (ad 17), .int (iI (0))])), (ad 17, .inl (cI, 4, .inl (iA (SP))))] H := hP
                  have hD : va_D AA [(ad 0, .inr (7, [.ref (ad 1), .ref (ad 4), .ref (ad 8), .ref (ad 12), .ref (ad 16), .ref (ad 18)])), (ad 4, .inr (0, [.ref (ad 1), .ref (ad 5), .ref (ad 6), .ref (ad 7)])), (ad 5, .inl (cI, 8, .inl (iA (P)))), (ad 7, .inl (cZ, 8, .inl (iA (Mo)))), (ad 1, .inr (4, [.ref (ad 2), .ref (bc), .int (iI (nc))])), (ad 2, .inl (cI, 160, .inl (iA (Vc)))), (bc, .inl (cI, Lc, .inl (iA (Bc)))), (ad 6, .inl (cI, 8, .inl (iA (Ac)))), (ad 16, .inr (5, [.ref (ad 17), .int (iI (0))])), (ad 17, .inl (cI, 4, .inl (iA (SP))))] := hD
                  try dsimp only at hq_26
                  obtain ⟨-, hv9⟩ := hq_26
                  subst hv9
                  have hb9 := bI_01 (hasR Vc ((i : Int) * 20 + (i : Int)))
                  refine z_if_ne (tgt := 141) hx hb dL_ends_124 (by decide) ⟨by omega, by omega⟩ (fun c_27 => ?_) (fun c_27 => ?_)
                  · refine lv_iconst (v := iI (1)) hx hb dL_ends_141 rfl ?_
                    refine lv_goto (tgt := 146) hx hb dL_ends_142 (by decide) ?_
                    refine lv_istore (lv' := [(9, .int (iI (1))), (10, .int (iI ((i : Int)))), (7, .long ((prF P Ac Mo V 0))), (6, .int (iI (r_4))), (4, .long ((prF P Ac Mo V n))), (3, .int (iI ((sn)))), (2, .int (iI ((n)))), (1, .int (iI ((fR (badC 1 Mo P V) 8 0)))), (0, .ref (ad 0))]) hx hb dL_ends_146 hl (by decide) rfl (fun ls hl => ?_)
                    refine lv_iinc (v := iI ((i : Int) + 1)) (lv' := [(10, .int (iI ((i : Int) + 1))), (9, .int (iI (1))), (7, .long ((prF P Ac Mo V 0))), (6, .int (iI (r_4))), (4, .long ((prF P Ac Mo V n))), (3, .int (iI ((sn)))), (2, .int (iI ((n)))), (1, .int (iI ((fR (badC 1 Mo P V) 8 0)))), (0, .ref (ad 0))]) hx hb dL_ends_148 hl (k := 1) rfl (iI_add ((i : Int)) (1)) (by decide) rfl (fun ls hl => ?_)
                    refine lv_goto (tgt := 105) hx hb dL_ends_151 (by decide) ?_
                    refine W.widen (k := 384 + 3 * (i + 1)) (n := 2304 + 1906 * (i + 1)) (by omega) (by omega) ?_
                    exact ih105 (i + 1) _ _ _ _ _ _ (by omega) (by omega) g_ok g_E g_L2 (okH_mono (by omega) g_H2) g_Lc _ _ hP hD hS _ (lv_sub hl [0, 1, 2, 3, 4, 5, 6, 7, 8] rfl)
                  · refine lv_aload_n hx hb dL_ends_127 rfl (lv_at hl 8 rfl) ?_
                    refine lv_iload hx hb dL_ends_128 (lv_at hl 0 rfl) ?_
                    refine lv_iload hx hb dL_ends_130 (lv_at hl 0 rfl) ?_
                    refine lv_iconst (v := iI (-1)) hx hb dL_ends_132 rfl ?_
                    refine lv_iconst (v := iI (-1)) hx hb dL_ends_133 rfl ?_
                    refine z_wrS (As := [.ref (ad 0), .int (iI ((i : Int))), .int (iI ((i : Int))), .int (iI ((-1))), .int (iI ((-1)))]) (rest := []) (wr := [(ad 6, .inl (cI, 8, .inl (iA (Ac)))), (ad 16, .inr (5, [.ref (ad 17), .int (iI (0))])), (ad 17, .inl (cI, 4, .inl (iA (SP))))]) (ws2 := (fun (u : Nat × Nat × (Int → Int) × (Int → Int) × Int) => [(ad 0, .inr (7, [.ref (ad 1), .ref (ad 4), .ref (ad 8), .ref (ad 12), .ref (ad 16), .ref (ad 18)])), (ad 4, .inr (0, [.ref (ad 1), .ref (ad 5), .ref (ad 6), .ref (ad 7)])), (ad 5, .inl (cI, 8, .inl (iA (P)))), (ad 7, .inl (cZ, 8, .inl (iA (Mo)))), (ad 1, .inr (4, [.ref (ad 2), .ref (u.2.1), .int (iI (u.2.2.2.2))])), (ad 2, .inl (cI, 160, .inl (iA (u.2.2.1)))), (u.2.1, .inl (cI, u.1, .inl (iA (u.2.2.2.1)))), (ad 6, .inl (cI, 8, .inl (iA (Ac)))), (ad 16, .inr (5, [.ref (ad 17), .int (iI (0))])), (ad 17, .inl (cI, 4, .inl (iA (SP))))])) hCa hX hE hAb hbs ⟨hx, hb, hml, hown, hts⟩ (c_L_insert l D cI cZ cC b0 adK adV H.size (ad) (bc) (Lc) (P) (Mo) (Vc) (Bc) (nc) ((N + 4 * (i : Int))) (lc) ((i : Int)) ((i : Int)) ((-1)) ((-1)) (by first | assumption | omega) (by first | assumption | omega) (by first | assumption | omega) (g_H2) (g_L2) (by first | assumption | omega) (by first | assumption | omega) (by first | assumption | omega)) (vx_cwSW 5 hts gL_ends_L_insert rfl rfl rfl (by decide +kernel) ⟨Nat.le_of_ble_eq_true rfl, Nat.le_of_ble_eq_true rfl⟩) hP hD hS hA hK [0, 1, 2, 3, 4, 5, 6] [7, 8, 9] [3, 4, 5, 6, 7, 8, 9, 0, 1, 2] rfl (by decide) rfl (by decide) (by decide) (by decide) (fun _ => rfl) rfl hl.1 rfl (Nat.le_of_ble_eq_true rfl) dL_ends_134 ⟨(by show _ ≤ (600 : Nat); omega), (by show _ ≤ (12000 : Nat); omega)⟩ (fun r_28 u H locs hq_29 hP hD hS => ?_)
                    obtain ⟨Ln_30, be_31, V_32, B_33, n_34⟩ := u
                    have hP : va_P D vwCl [(ad 0, .inr (7, [.ref (ad 1), .ref (ad 4), .ref (ad 8), .ref (ad 12), .ref (ad 16), .ref (ad 18)])), (ad 4, .inr (0, [.ref (ad 1), .ref (ad 5), .ref (ad 6), .ref (ad 7)])), (ad 5, .inl (cI, 8, .inl (iA (P)))), (ad 7, .inl (cZ, 8, .inl (iA (Mo)))), (ad 1, .inr (4, [.ref (ad 2), .ref (be_31), .int (iI (n_34))])), (ad 2, .inl (cI, 160, .inl (iA (V_32)))), (be_31, .inl (cI, Ln_30, .inl (iA (B_33)))), (ad 6, .inl (cI, 8, .inl (iA (Ac)))), (ad 16, .inr (5, [.ref (ad 17), .int (iI (0))])), (ad 17, .inl (cI, 4, .inl (iA (SP))))] H := hP
                    have hD : va_D AA [(ad 0, .inr (7, [.ref (ad 1), .ref (ad 4), .ref (ad 8), .ref (ad 12), .ref (ad 16), .ref (ad 18)])), (ad 4, .inr (0, [.ref (ad 1), .ref (ad 5), .ref (ad 6), .ref (ad 7)])), (ad 5, .inl (cI, 8, .inl (iA (P)))), (ad 7, .inl (cZ, 8, .inl (iA (Mo)))), (ad 1, .inr (4, [.ref (ad 2), .ref (be_31), .int (iI (n_34))])), (ad 2, .inl (cI, 160, .inl (iA (V_32)))), (be_31, .inl (cI, Ln_30, .inl (iA (B_33)))), (ad 6, .inl (cI, 8, .inl (iA (Ac)))), (ad 16, .inr (5, [.ref (ad 17), .int (iI (0))])), (ad 17, .inl (cI, 4, .inl (iA (SP))))] := hD
                    try dsimp only at hq_29
                    have h_no : ¬ hasR Vc ((i : Int) * 20 + (i : Int)) := bI_0.mp (by omega)
                    have h_o1 := (ins_1 (lg := lc) g_ok (by omega) h_no).2
                    obtain ⟨y0, yl, y1, y2, y3, y4, y5, y6⟩ := hq_29
                    rw [insW_f h_no, (ins_1 (lg := lc) g_ok (by omega) h_no).1] at y1
                    have yr : r_28 = 1 := congrArg Prod.fst y1
                    have yV : V_32 = (wrV Vc ((i : Int) * 20 + (i : Int)) (-1) (-1)) := congrArg (fun x => x.2.1) y1
                    have yg : yl = pe Vc ((i : Int) * 20 + (i : Int)) :: lc := congrArg (fun x => x.2.2) y1
                    rw [yg] at y2 y3
                    have yn : n_34 = nc + 1 := by
                      have h7 := isL_n y2
                      simp only [List.length_cons] at h7
                      omega
                    rw [yV] at y3
                    rw [yn] at y2 y4
                    rw [yV, yn] at hP hD
                    rw [yr]
                    refine lv_iconst (v := iI (1)) hx hb dL_ends_137 rfl ?_
                    refine z_icmp_ne (tgt := 145) hx hb dL_ends_138 (by decide) ⟨⟨by omega, by omega⟩, ⟨by omega, by omega⟩⟩ (fun c_35 => ?_) (fun c_35 => ?_)
                    · exfalso
                      omega
                    · refine lv_iconst (v := iI (1)) hx hb dL_ends_141 rfl ?_
                      refine lv_goto (tgt := 146) hx hb dL_ends_142 (by decide) ?_
                      refine lv_istore (lv' := [(9, .int (iI (1))), (10, .int (iI ((i : Int)))), (7, .long ((prF P Ac Mo V 0))), (6, .int (iI (r_4))), (4, .long ((prF P Ac Mo V n))), (3, .int (iI ((sn)))), (2, .int (iI ((n)))), (1, .int (iI ((fR (badC 1 Mo P V) 8 0)))), (0, .ref (ad 0))]) hx hb dL_ends_146 hl (by decide) rfl (fun ls hl => ?_)
                      refine lv_iinc (v := iI ((i : Int) + 1)) (lv' := [(10, .int (iI ((i : Int) + 1))), (9, .int (iI (1))), (7, .long ((prF P Ac Mo V 0))), (6, .int (iI (r_4))), (4, .long ((prF P Ac Mo V n))), (3, .int (iI ((sn)))), (2, .int (iI ((n)))), (1, .int (iI ((fR (badC 1 Mo P V) 8 0)))), (0, .ref (ad 0))]) hx hb dL_ends_148 hl (k := 1) rfl (iI_add ((i : Int)) (1)) (by decide) rfl (fun ls hl => ?_)
                      refine lv_goto (tgt := 105) hx hb dL_ends_151 (by decide) ?_
                      refine W.widen (k := 384 + 3 * (i + 1)) (n := 2304 + 1906 * (i + 1)) (by omega) (by omega) ?_
                      exact ih105 (i + 1) _ _ _ _ _ _ (by omega) (by omega) h_o1 (extL_push g_E) y2 (by rw [show N + 4 * ((i + 1 : Nat) : Int) = N + 4 * (i : Int) + 4 by omega]; exact y3) (by omega) _ _ hP hD hS _ (lv_sub hl [0, 1, 2, 3, 4, 5, 6, 7, 8] rfl)
          refine W.widen (k := 384 + 3 * 0) (n := 2304 + 1906 * 0) (by omega) (by omega) ?_
          exact loop105 4 0 _ _ _ _ _ [] (by omega) (by omega) h_ok0 (extL_rf _ _) rfl (okH_mono (by omega) (okH_nil g_H)) ⟨Nat.le_refl _, by omega, g_Ln.2.2⟩ _ _ hP hD hS _ (lv_sub hl [0, 1, 2, 3, 4, 5, 6, 7, 8] rfl)
  · rw [if_neg (show ¬ fR (badC 1 Mo P V) 8 0 = 0 by omega)] at d1
    have e_r : r_4 = fR (badC 1 Mo P V) 8 0 := congrArg Prod.fst d1
    have e_n : n_5 = n := congrArg (fun x => x.2.1) d1
    have e_s : sn_6 = sn := congrArg (fun x => x.2.2) d1
    rw [e_n, e_s] at hP hD
    refine lv_iload hx hb dL_ends_31 (lv_at hl 0 rfl) ?_
    refine lv_iload_n hx hb dL_ends_33 rfl (lv_at hl 4 rfl) ?_
    refine z_icmp_ne (tgt := 67) hx hb dL_ends_34 (by decide) ⟨⟨by omega, by omega⟩, ⟨by omega, by omega⟩⟩ (fun c_36 => ?_) (fun c_36 => ?_)
    · exfalso
      omega
    · refine lv_aload_n hx hb dL_ends_37 rfl (lv_at hl 5 rfl) ?_
      refine z_roV (As := []) (rest := []) ⟨hx, hb, hml, hown, hts⟩ (c_X7_changes l D cI cZ cC (ad) (be) (n) ) (cwV 0 hts gL_ends_X7_changes rfl rfl rfl (by decide +kernel) ⟨Nat.le_of_ble_eq_true rfl, Nat.le_of_ble_eq_true rfl⟩) hP hK [0, 4] rfl 0 7 rfl rfl rfl rfl hl.1 rfl (Nat.le_of_ble_eq_true rfl) dL_ends_38 ⟨(by show _ ≤ (600 : Nat); omega), (by show _ ≤ (12000 : Nat); omega)⟩ ?_
      refine lv_iload_n hx hb dL_ends_41 rfl (lv_at hl 3 rfl) ?_
      refine z_icmp_ne (tgt := 67) hx hb dL_ends_42 (by decide) ⟨⟨by omega, by omega⟩, ⟨by omega, by omega⟩⟩ (fun c_37 => ?_) (fun c_37 => ?_)
      · exfalso
        omega
      · refine lv_aload_n hx hb dL_ends_45 rfl (lv_at hl 5 rfl) ?_
        refine z_roV (As := []) (rest := []) ⟨hx, hb, hml, hown, hts⟩ (c_X7_savePoints l D cI cZ cC (ad) (sn) ) (cwV 0 hts gL_ends_X7_savePoints rfl rfl rfl (by decide +kernel) ⟨Nat.le_of_ble_eq_true rfl, Nat.le_of_ble_eq_true rfl⟩) hP hK [0, 8] rfl 0 7 rfl rfl rfl rfl hl.1 rfl (Nat.le_of_ble_eq_true rfl) dL_ends_46 ⟨(by show _ ≤ (600 : Nat); omega), (by show _ ≤ (12000 : Nat); omega)⟩ ?_
        refine lv_iload_n hx hb dL_ends_49 rfl (lv_at hl 2 rfl) ?_
        refine z_icmp_ne (tgt := 67) hx hb dL_ends_50 (by decide) ⟨⟨by omega, by omega⟩, ⟨by omega, by omega⟩⟩ (fun c_38 => ?_) (fun c_38 => ?_)
        · exfalso
          omega
        · refine lv_aload_n hx hb dL_ends_53 rfl (lv_at hl 5 rfl) ?_
          refine z_llS (As := [.ref (ad 0)]) (rest := []) (wr := [(be, .inl (cI, Ln, .inl (iA (B)))), (ad 16, .inr (5, [.ref (ad 17), .int (iI (sn))])), (ad 17, .inl (cI, 4, .inl (iA (SP))))]) (ws2 := (fun (u : Unit) => [(ad 0, .inr (7, [.ref (ad 1), .ref (ad 4), .ref (ad 8), .ref (ad 12), .ref (ad 16), .ref (ad 18)])), (ad 4, .inr (0, [.ref (ad 1), .ref (ad 5), .ref (ad 6), .ref (ad 7)])), (ad 5, .inl (cI, 8, .inl (iA (P)))), (ad 7, .inl (cZ, 8, .inl (iA (Mo)))), (ad 1, .inr (4, [.ref (ad 2), .ref (be), .int (iI (n))])), (ad 2, .inl (cI, 160, .inl (iA (V)))), (be, .inl (cI, Ln, .inl (iA (B)))), (ad 6, .inl (cI, 8, .inl (iA (Ac)))), (ad 16, .inr (5, [.ref (ad 17), .int (iI (sn))])), (ad 17, .inl (cI, 4, .inl (iA (SP))))])) hCa hX hE hAb hbs ⟨hx, hb, hml, hown, hts⟩ (c_L_print l D cI cZ cC b0 adK adV H.size (ad) (be) (n) (P) (Ac) (Mo) (V) (by first | assumption | omega) (by first | assumption | omega) (by first | assumption | omega) (by first | assumption | omega) (by first | assumption | omega) (by first | assumption | omega)) (va_cwS 1 hts gL_ends_L_print rfl rfl rfl (by decide +kernel) ⟨Nat.le_of_ble_eq_true rfl, Nat.le_of_ble_eq_true rfl⟩) hP hD hS hA hK [0, 1, 2, 7, 3, 4, 5] [6, 8, 9] [3, 4, 5, 7, 8, 9, 0, 6, 1, 2] rfl (by decide) rfl (by decide) (by decide) (by decide) (fun _ => rfl) rfl hl.1 rfl (Nat.le_of_ble_eq_true rfl) dL_ends_54 ⟨(by show _ ≤ (600 : Nat); omega), (by show _ ≤ (12000 : Nat); omega)⟩ (fun r_39 u H locs hq_40 hP hD hS => ?_)
          have hP : va_P D vwCl [(ad 0, .inr (7, [.ref (ad 1), .ref (ad 4), .ref (ad 8), .ref (ad 12), .ref (ad 16), .ref (ad 18)])), (ad 4, .inr (0, [.ref (ad 1), .ref (ad 5), .ref (ad 6), .ref (ad 7)])), (ad 5, .inl (cI, 8, .inl (iA (P)))), (ad 7, .inl (cZ, 8, .inl (iA (Mo)))), (ad 1, .inr (4, [.ref (ad 2), .ref (be), .int (iI (n))])), (ad 2, .inl (cI, 160, .inl (iA (V)))), (be, .inl (cI, Ln, .inl (iA (B)))), (ad 6, .inl (cI, 8, .inl (iA (Ac)))), (ad 16, .inr (5, [.ref (ad 17), .int (iI (sn))])), (ad 17, .inl (cI, 4, .inl (iA (SP))))] H := hP
          have hD : va_D AA [(ad 0, .inr (7, [.ref (ad 1), .ref (ad 4), .ref (ad 8), .ref (ad 12), .ref (ad 16), .ref (ad 18)])), (ad 4, .inr (0, [.ref (ad 1), .ref (ad 5), .ref (ad 6), .ref (ad 7)])), (ad 5, .inl (cI, 8, .inl (iA (P)))), (ad 7, .inl (cZ, 8, .inl (iA (Mo)))), (ad 1, .inr (4, [.ref (ad 2), .ref (be), .int (iI (n))])), (ad 2, .inl (cI, 160, .inl (iA (V)))), (be, .inl (cI, Ln, .inl (iA (B)))), (ad 6, .inl (cI, 8, .inl (iA (Ac)))), (ad 16, .inr (5, [.ref (ad 17), .int (iI (sn))])), (ad 17, .inl (cI, 4, .inl (iA (SP))))] := hD
          try dsimp only at hq_40
          obtain ⟨hv9, hq_40⟩ := hq_40
          have hv9 := hv9.symm
          subst hv9
          refine lv_lload hx hb dL_ends_57 (lv_at hl 1 rfl) ?_
          refine z_lcmpE hx hb (rfl) dL_ends_59 ?_
          refine z_if_ne (tgt := 67) hx hb dL_ends_60 (by decide) ⟨by omega, by omega⟩ (fun c_41 => ?_) (fun c_41 => ?_)
          · exfalso
            omega
          · refine lv_iconst (v := iI (1)) hx hb dL_ends_63 rfl ?_
            refine lv_goto (tgt := 68) hx hb dL_ends_64 (by decide) ?_
            refine W.widen (k := 600) (n := 12000) (by omega) (by omega) ?_
            refine z_mretZ ((Ln, be, B, n, sn)) hx hb hr hlocks dL_ends_68 (by omega) hP hD hS ?_
            exact ⟨rfl, lg, ⟨⟨g_P, g_Mo, g_Ac⟩, ⟨g_H, g_L, by dsimp only; omega⟩, (by dsimp only; omega), g_sp⟩, by dsimp only; omega⟩

