theorem ed_len {P Mo V V2 : Int → Int} {lg lg2 : Lg} {bf t v : Int} (h : (v, V2, lg2) = edF P Mo V lg bf t) : lg2.length ≤ lg.length := by
  unfold edF at h
  split at h
  · cases h; exact Nat.le_refl _
  · have h2 := congrArg (fun q => q.2.2) h
    dsimp only at h2
    rw [h2, unL_len]
    omega
theorem delF_of {P Ac Mo V V1 V2 : Int → Int} {lg lg1 lg2 : Lg} {Qs1 : List Int} {r w v : Int} (hr : hasR V r) (h : (w, (V1, lg1, Qs1)) = delL P Ac 81 0 (V, lg, [r])) (hE : extL V lg V1 lg1) (h2 : (v, V2, lg2) = edF P Mo V1 lg1 (lg.length : Int) w) : (v, V2, lg2) = delF P Ac Mo V lg r := by
  rw [delF_t hr, ← h, h2]
  exact ed_stm hE rfl

set_option maxHeartbeats 600000 in
set_option maxRecDepth 100000 in
theorem c_X8_deletes (l : Launch) (D : va_G) (cI cZ cC : ClassId) (sz : Nat) (bd : Nat → Nat) (cn mp ty th sp ta ke on tw : Int) (Ir Vm Lm Qm V : Int → Int) (Ic Pm Am Dm P Ac Mo : Int → Int) (lg : Lg) (t k : Int) (g_R : rV Ir Vm V) (g_C : rC8 Ic Pm Am Dm P Ac Mo) (g_M : isM lg Lm cn) (g_D : okD 16384 V cn) (g_r : 0 ≤ 20 * t + k ∧ 20 * t + k < 80) (g_h : hasR V (20 * t + k)) : zMi l yX8_deletes wsX8_deletes ({ frames := 5, cells := 0, slots := 0, locals := 115 }) D cI cZ cC [(bd 0, .inr (8, [.ref (bd 1), .ref (bd 2), .ref (bd 3), .ref (bd 4), .ref (bd 5), .ref (bd 6), .ref (bd 7), .int (iI (cn)), .ref (bd 8), .int (iI (mp)), .ref (bd 9), .int (iI (ty)), .int (iI (th)), .ref (bd 10), .ref (bd 11), .int (iI (sp)), .int (iI (ta)), .int (iI (ke)), .int (iI (on)), .int (iI (tw))])), (bd 1, .inl (cZ, 80, .inl (iA (Ir)))), (bd 2, .inl (cI, 160, .inl (iA (Vm)))), (bd 3, .inl (cZ, 8, .inl (iA (Ic)))), (bd 4, .inl (cI, 8, .inl (iA (Pm)))), (bd 6, .inl (cZ, 8, .inl (iA (Dm)))), (bd 7, .inl (cI, 16384, .inl (iA (Lm)))), (bd 5, .inl (cI, 8, .inl (iA (Am)))), (bd 10, .inl (cI, 80, .inl (iA (Qm))))] sz [.ref (bd 0), .int (iI (t)), .int (iI (k))] (0) (0) (fun (u : (Int → Int) × (Int → Int) × (Int → Int) × (Int → Int) × Int) => [(bd 0, .inr (8, [.ref (bd 1), .ref (bd 2), .ref (bd 3), .ref (bd 4), .ref (bd 5), .ref (bd 6), .ref (bd 7), .int (iI (u.2.2.2.2)), .ref (bd 8), .int (iI (mp)), .ref (bd 9), .int (iI (ty)), .int (iI (th)), .ref (bd 10), .ref (bd 11), .int (iI (sp)), .int (iI (ta)), .int (iI (ke)), .int (iI (on)), .int (iI (tw))])), (bd 1, .inl (cZ, 80, .inl (iA (u.1)))), (bd 2, .inl (cI, 160, .inl (iA (u.2.1)))), (bd 3, .inl (cZ, 8, .inl (iA (Ic)))), (bd 4, .inl (cI, 8, .inl (iA (Pm)))), (bd 6, .inl (cZ, 8, .inl (iA (Dm)))), (bd 7, .inl (cI, 16384, .inl (iA (u.2.2.1)))), (bd 5, .inl (cI, 8, .inl (iA (Am)))), (bd 10, .inl (cI, 80, .inl (iA (u.2.2.2.1))))]) (fun v (u : (Int → Int) × (Int → Int) × (Int → Int) × (Int → Int) × Int) => ib v ∧ ∃ (V2 : Int → Int) (lg2 : Lg), (v, V2, lg2) = delF P Ac Mo V lg (20 * t + k) ∧ rV u.1 u.2.1 V2 ∧ isM lg2 u.2.2.1 u.2.2.2.2 ∧ extL V lg V2 lg2 ∧ u.2.2.2.2 ≤ 16384) := by
  refine z_ofMi (cc := cX8_deletes) (maxL := 4) (ret := (some .int)) RX8 (by decide +kernel) rfl rfl (Nat.le_of_ble_eq_true rfl) ?_
  intro p0 en0 s0 m0 args0 below0 meth0 c0 ls AA hx hb hr hlocks hml hown hts hP hD hS hA hK hl
  have hl : lv_has ls 4 [(0, .ref (bd 0)), (1, .int (iI (t))), (2, .int (iI (k)))] := hl
  obtain ⟨H, hH⟩ : ∃ H, H = s0.heap := ⟨_, rfl⟩
  obtain ⟨locs, hlo⟩ : ∃ locs : List Loc, locs = [] := ⟨_, rfl⟩
  have hP : va_P D vwCl [(bd 0, .inr (8, [.ref (bd 1), .ref (bd 2), .ref (bd 3), .ref (bd 4), .ref (bd 5), .ref (bd 6), .ref (bd 7), .int (iI (cn)), .ref (bd 8), .int (iI (mp)), .ref (bd 9), .int (iI (ty)), .int (iI (th)), .ref (bd 10), .ref (bd 11), .int (iI (sp)), .int (iI (ta)), .int (iI (ke)), .int (iI (on)), .int (iI (tw))])), (bd 1, .inl (cZ, 80, .inl (iA (Ir)))), (bd 2, .inl (cI, 160, .inl (iA (Vm)))), (bd 3, .inl (cZ, 8, .inl (iA (Ic)))), (bd 4, .inl (cI, 8, .inl (iA (Pm)))), (bd 6, .inl (cZ, 8, .inl (iA (Dm)))), (bd 7, .inl (cI, 16384, .inl (iA (Lm)))), (bd 5, .inl (cI, 8, .inl (iA (Am)))), (bd 10, .inl (cI, 80, .inl (iA (Qm))))] H := by rw [hH]; exact hP
  have hS : va_S AA s0.heap H locs := by rw [hH, hlo]; exact hS
  suffices hW : W p0 l en0 (headSpec wsX8_deletes ({ frames := 5, cells := 0, slots := 0, locals := 115 })).room s0 m0 args0 below0 meth0 c0 H locs 0 0 (QMi below0 D ((fun (u : (Int → Int) × (Int → Int) × (Int → Int) × (Int → Int) × Int) => [(bd 0, .inr (8, [.ref (bd 1), .ref (bd 2), .ref (bd 3), .ref (bd 4), .ref (bd 5), .ref (bd 6), .ref (bd 7), .int (iI (u.2.2.2.2)), .ref (bd 8), .int (iI (mp)), .ref (bd 9), .int (iI (ty)), .int (iI (th)), .ref (bd 10), .ref (bd 11), .int (iI (sp)), .int (iI (ta)), .int (iI (ke)), .int (iI (on)), .int (iI (tw))])), (bd 1, .inl (cZ, 80, .inl (iA (u.1)))), (bd 2, .inl (cI, 160, .inl (iA (u.2.1)))), (bd 3, .inl (cZ, 8, .inl (iA (Ic)))), (bd 4, .inl (cI, 8, .inl (iA (Pm)))), (bd 6, .inl (cZ, 8, .inl (iA (Dm)))), (bd 7, .inl (cI, 16384, .inl (iA (u.2.2.1)))), (bd 5, .inl (cI, 8, .inl (iA (Am)))), (bd 10, .inl (cI, 80, .inl (iA (u.2.2.2.1))))])) (fun v (u : (Int → Int) × (Int → Int) × (Int → Int) × (Int → Int) × Int) => ib v ∧ ∃ (V2 : Int → Int) (lg2 : Lg), (v, V2, lg2) = delF P Ac Mo V lg (20 * t + k) ∧ rV u.1 u.2.1 V2 ∧ isM lg2 u.2.2.1 u.2.2.2.2 ∧ extL V lg V2 lg2 ∧ u.2.2.2.2 ≤ 16384) AA args0 s0 (0) (0)) (F0 m0 0 ls []) by rw [hH, hlo] at hW; exact hW
  have g_Ir := rV_01 g_R
  have g_Vm := rV_all g_R
  have g_Ic := rC_i g_C
  have g_Pm := rC_p g_C
  have g_Am := rC_a g_C
  have g_Dm := rC_d g_C
  have g_nn := isM_n g_M
  refine lv_aload_n hx hb dX8_deletes_0 rfl (lv_at hl 0 rfl) ?_
  refine va_get (D := D) (ci := 8) (v := .int (iI (cn))) (C := RX8) (T := TX8) (N := 20) hx hb hts (fun _ h => List.mem_cons_of_mem _ (List.mem_append_right _ (h))) hown hK.1 hP 0 rfl rfl 7 (by decide) (hts (.fieldLink RX8 67 "ForeignKeyStoreModel" "changes" "I") (List.mem_of_getElem? (i := 1) rfl)) (fun _ h9 => h9) rfl dX8_deletes_1 ?_
  refine lv_istore_n (lv' := [(3, .int (iI (cn))), (0, .ref (bd 0)), (1, .int (iI (t))), (2, .int (iI (k)))]) hx hb dX8_deletes_4 rfl hl (by decide) rfl (fun ls hl => ?_)
  refine lv_aload_n hx hb dX8_deletes_5 rfl (lv_at hl 1 rfl) ?_
  refine lv_iload_n hx hb dX8_deletes_6 rfl (lv_at hl 0 rfl) ?_
  refine lv_aload_n hx hb dX8_deletes_7 rfl (lv_at hl 1 rfl) ?_
  refine lv_iload_n hx hb dX8_deletes_8 rfl (lv_at hl 2 rfl) ?_
  refine lv_iload_n hx hb dX8_deletes_9 rfl (lv_at hl 3 rfl) ?_
  refine z_roS (As := [.int (iI (t)), .int (iI (k))]) (rest := [.ref (bd 0), .int (iI (cn)), .ref (bd 0)]) ⟨hx, hb, hml, hown, hts⟩ (c_X8_row l D cI cZ cC (t) (k) ) (va_cwS 2 hts gX8_deletes_X8_row rfl rfl rfl (by decide +kernel) ⟨Nat.le_of_ble_eq_true rfl, Nat.le_of_ble_eq_true rfl⟩) hP hK [] rfl rfl hl.1 rfl (Nat.le_of_ble_eq_true rfl) dX8_deletes_10 ⟨by omega, by omega⟩ ?_
  refine z_muV (As := [.int (iI ((20 * t + k)))]) (rest := [.int (iI (cn)), .ref (bd 0)]) (wr := [(bd 6, .inl (cZ, 8, .inl (iA (Dm))))]) (ws2 := (fun (u : (Int → Int) × (Int → Int) × (Int → Int) × (Int → Int) × Int) => [(bd 0, .inr (8, [.ref (bd 1), .ref (bd 2), .ref (bd 3), .ref (bd 4), .ref (bd 5), .ref (bd 6), .ref (bd 7), .int (iI (u.2.2.2.2)), .ref (bd 8), .int (iI (mp)), .ref (bd 9), .int (iI (ty)), .int (iI (th)), .ref (bd 10), .ref (bd 11), .int (iI (sp)), .int (iI (ta)), .int (iI (ke)), .int (iI (on)), .int (iI (tw))])), (bd 1, .inl (cZ, 80, .inl (iA (u.1)))), (bd 2, .inl (cI, 160, .inl (iA (u.2.1)))), (bd 3, .inl (cZ, 8, .inl (iA (Ic)))), (bd 4, .inl (cI, 8, .inl (iA (Pm)))), (bd 6, .inl (cZ, 8, .inl (iA (Dm)))), (bd 7, .inl (cI, 16384, .inl (iA (u.2.2.1)))), (bd 5, .inl (cI, 8, .inl (iA (Am)))), (bd 10, .inl (cI, 80, .inl (iA (u.2.2.2.1))))])) ⟨hx, hb, hml, hown, hts⟩ (c_X8_goesAlong l D cI cZ cC H.size (bd) (cn) (mp) (ty) (th) (sp) (ta) (ke) (on) (tw) (Ir) (Vm) (Lm) (Qm) (V) (Ic) (Pm) (Am) (Dm) (P) (Ac) (Mo) (lg) ((20 * t + k)) (by first | assumption | omega) (by first | assumption | omega) (by first | assumption | omega) (by first | assumption | omega) (by first | assumption | omega) (by first | assumption | omega)) (cwV 1 hts gX8_deletes_X8_goesAlong rfl rfl rfl (by decide +kernel) ⟨Nat.le_of_ble_eq_true rfl, Nat.le_of_ble_eq_true rfl⟩) hP hD hS hA hK [0, 1, 2, 3, 4, 7, 6, 8] [5] [1, 2, 3, 4, 5, 0, 7, 6, 8] rfl (by decide) rfl (by decide) (by decide) (by decide) (fun _ => rfl) 0 8 rfl rfl rfl rfl hl.1 rfl (Nat.le_of_ble_eq_true rfl) dX8_deletes_13 ⟨by omega, by omega⟩ (fun r_2 u H locs hq_1 hP hD hS => ?_)
  obtain ⟨Ir_3, Vm_4, Lm_5, Qm_6, cn_7⟩ := u
  have hP : va_P D vwCl [(bd 0, .inr (8, [.ref (bd 1), .ref (bd 2), .ref (bd 3), .ref (bd 4), .ref (bd 5), .ref (bd 6), .ref (bd 7), .int (iI (cn_7)), .ref (bd 8), .int (iI (mp)), .ref (bd 9), .int (iI (ty)), .int (iI (th)), .ref (bd 10), .ref (bd 11), .int (iI (sp)), .int (iI (ta)), .int (iI (ke)), .int (iI (on)), .int (iI (tw))])), (bd 1, .inl (cZ, 80, .inl (iA (Ir_3)))), (bd 2, .inl (cI, 160, .inl (iA (Vm_4)))), (bd 3, .inl (cZ, 8, .inl (iA (Ic)))), (bd 4, .inl (cI, 8, .inl (iA (Pm)))), (bd 6, .inl (cZ, 8, .inl (iA (Dm)))), (bd 7, .inl (cI, 16384, .inl (iA (Lm_5)))), (bd 5, .inl (cI, 8, .inl (iA (Am)))), (bd 10, .inl (cI, 80, .inl (iA (Qm_6))))] H := hP
  have hD : va_D AA [(bd 0, .inr (8, [.ref (bd 1), .ref (bd 2), .ref (bd 3), .ref (bd 4), .ref (bd 5), .ref (bd 6), .ref (bd 7), .int (iI (cn_7)), .ref (bd 8), .int (iI (mp)), .ref (bd 9), .int (iI (ty)), .int (iI (th)), .ref (bd 10), .ref (bd 11), .int (iI (sp)), .int (iI (ta)), .int (iI (ke)), .int (iI (on)), .int (iI (tw))])), (bd 1, .inl (cZ, 80, .inl (iA (Ir_3)))), (bd 2, .inl (cI, 160, .inl (iA (Vm_4)))), (bd 3, .inl (cZ, 8, .inl (iA (Ic)))), (bd 4, .inl (cI, 8, .inl (iA (Pm)))), (bd 6, .inl (cZ, 8, .inl (iA (Dm)))), (bd 7, .inl (cI, 16384, .inl (iA (Lm_5)))), (bd 5, .inl (cI, 8, .inl (iA (Am)))), (bd 10, .inl (cI, 80, .inl (iA (Qm_6))))] := hD
  try dsimp only at hq_1
  obtain ⟨z0, lg1, Qs1, V1, z1, z2, z3, z4, z5⟩ := hq_1
  have z6 := isM_n z3
  have z7 := z4.2.2.2.1
  have z8 := (pot_b V1).1
  have z9 := g_D.2.2.1
  refine z_muV (As := [.int (iI (cn)), .int (iI (r_2))]) (rest := []) (wr := [(bd 5, .inl (cI, 8, .inl (iA (Am)))), (bd 10, .inl (cI, 80, .inl (iA (Qm_6))))]) (ws2 := (fun (u : (Int → Int) × (Int → Int) × Int) => [(bd 0, .inr (8, [.ref (bd 1), .ref (bd 2), .ref (bd 3), .ref (bd 4), .ref (bd 5), .ref (bd 6), .ref (bd 7), .int (iI (u.2.2)), .ref (bd 8), .int (iI (mp)), .ref (bd 9), .int (iI (ty)), .int (iI (th)), .ref (bd 10), .ref (bd 11), .int (iI (sp)), .int (iI (ta)), .int (iI (ke)), .int (iI (on)), .int (iI (tw))])), (bd 1, .inl (cZ, 80, .inl (iA (u.1)))), (bd 2, .inl (cI, 160, .inl (iA (u.2.1)))), (bd 3, .inl (cZ, 8, .inl (iA (Ic)))), (bd 4, .inl (cI, 8, .inl (iA (Pm)))), (bd 6, .inl (cZ, 8, .inl (iA (Dm)))), (bd 7, .inl (cI, 16384, .inl (iA (Lm_5)))), (bd 5, .inl (cI, 8, .inl (iA (Am)))), (bd 10, .inl (cI, 80, .inl (iA (Qm_6))))])) ⟨hx, hb, hml, hown, hts⟩ (c_X8_ends l D cI cZ cC H.size (bd) (cn_7) (mp) (ty) (th) (sp) (ta) (ke) (on) (tw) (Ir_3) (Vm_4) (Lm_5) (V1) (Ic) (Pm) (Am) (Dm) (P) (Ac) (Mo) (lg1) (cn) (r_2) (z2) (by first | assumption | omega) (z3) (by omega) (⟨by omega, by have := g_D.2.2.2.1; have := (pot_b V).1; omega⟩) (by omega)) (cwV 2 hts gX8_deletes_X8_ends rfl rfl rfl (by decide +kernel) ⟨Nat.le_of_ble_eq_true rfl, Nat.le_of_ble_eq_true rfl⟩) hP hD hS hA hK [0, 1, 2, 3, 4, 5, 6] [7, 8] [2, 3, 4, 5, 6, 7, 8, 0, 1] rfl (by decide) rfl (by decide) (by decide) (by decide) (fun _ => rfl) 0 8 rfl rfl rfl rfl hl.1 rfl (Nat.le_of_ble_eq_true rfl) dX8_deletes_16 ⟨by omega, by omega⟩ (fun r_9 u H locs hq_8 hP hD hS => ?_)
  obtain ⟨Ir_10, Vm_11, cn_12⟩ := u
  have hP : va_P D vwCl [(bd 0, .inr (8, [.ref (bd 1), .ref (bd 2), .ref (bd 3), .ref (bd 4), .ref (bd 5), .ref (bd 6), .ref (bd 7), .int (iI (cn_12)), .ref (bd 8), .int (iI (mp)), .ref (bd 9), .int (iI (ty)), .int (iI (th)), .ref (bd 10), .ref (bd 11), .int (iI (sp)), .int (iI (ta)), .int (iI (ke)), .int (iI (on)), .int (iI (tw))])), (bd 1, .inl (cZ, 80, .inl (iA (Ir_10)))), (bd 2, .inl (cI, 160, .inl (iA (Vm_11)))), (bd 3, .inl (cZ, 8, .inl (iA (Ic)))), (bd 4, .inl (cI, 8, .inl (iA (Pm)))), (bd 6, .inl (cZ, 8, .inl (iA (Dm)))), (bd 7, .inl (cI, 16384, .inl (iA (Lm_5)))), (bd 5, .inl (cI, 8, .inl (iA (Am)))), (bd 10, .inl (cI, 80, .inl (iA (Qm_6))))] H := hP
  have hD : va_D AA [(bd 0, .inr (8, [.ref (bd 1), .ref (bd 2), .ref (bd 3), .ref (bd 4), .ref (bd 5), .ref (bd 6), .ref (bd 7), .int (iI (cn_12)), .ref (bd 8), .int (iI (mp)), .ref (bd 9), .int (iI (ty)), .int (iI (th)), .ref (bd 10), .ref (bd 11), .int (iI (sp)), .int (iI (ta)), .int (iI (ke)), .int (iI (on)), .int (iI (tw))])), (bd 1, .inl (cZ, 80, .inl (iA (Ir_10)))), (bd 2, .inl (cI, 160, .inl (iA (Vm_11)))), (bd 3, .inl (cZ, 8, .inl (iA (Ic)))), (bd 4, .inl (cI, 8, .inl (iA (Pm)))), (bd 6, .inl (cZ, 8, .inl (iA (Dm)))), (bd 7, .inl (cI, 16384, .inl (iA (Lm_5)))), (bd 5, .inl (cI, 8, .inl (iA (Am)))), (bd 10, .inl (cI, 80, .inl (iA (Qm_6))))] := hD
  try dsimp only at hq_8
  refine z_mret ((Ir_10, Vm_11, Lm_5, Qm_6, cn_12)) hx hb hr hlocks dX8_deletes_19 hP hD hS ?_
  obtain ⟨y0, V2, lg2, y1, y2, y3⟩ := hq_8
  exact ⟨y0, V2, lg2, delF_of g_h z1 z5 (by rw [← g_nn]; exact y1), y2, y3, stm_ext z5 (by rw [← ed_stm z5 g_nn]; exact y1), by have := ed_len y1; have := isM_n y3; dsimp only; omega⟩

set_option maxHeartbeats 600000 in
set_option maxRecDepth 100000 in
theorem c_X8_exists (l : Launch) (D : va_G) (cI cZ cC : ClassId) (sz : Nat) (bd : Nat → Nat) (cn mp ty th sp ta ke on tw : Int) (Ir Vm V : Int → Int) (t k : Int) (g_R : rV Ir Vm V) (g_t : ib t) (g_k : ib k) : zMi l yX8_exists wsX8_exists ({ frames := 2, cells := 0, slots := 0, locals := 42 }) D cI cZ cC [(bd 0, .inr (8, [.ref (bd 1), .ref (bd 2), .ref (bd 3), .ref (bd 4), .ref (bd 5), .ref (bd 6), .ref (bd 7), .int (iI (cn)), .ref (bd 8), .int (iI (mp)), .ref (bd 9), .int (iI (ty)), .int (iI (th)), .ref (bd 10), .ref (bd 11), .int (iI (sp)), .int (iI (ta)), .int (iI (ke)), .int (iI (on)), .int (iI (tw))])), (bd 1, .inl (cZ, 80, .inl (iA (Ir)))), (bd 2, .inl (cI, 160, .inl (iA (Vm))))] sz [.ref (bd 0), .int (iI (t)), .int (iI (k))] (0) (0) (fun (u : Int) => [(bd 0, .inr (8, [.ref (bd 1), .ref (bd 2), .ref (bd 3), .ref (bd 4), .ref (bd 5), .ref (bd 6), .ref (bd 7), .int (iI (cn)), .ref (bd 8), .int (iI (mp)), .ref (bd 9), .int (iI (ty)), .int (iI (u)), .ref (bd 10), .ref (bd 11), .int (iI (sp)), .int (iI (ta)), .int (iI (ke)), .int (iI (on)), .int (iI (tw))])), (bd 1, .inl (cZ, 80, .inl (iA (Ir)))), (bd 2, .inl (cI, 160, .inl (iA (Vm))))]) (fun v (u : Int) => u = goK (0 ≤ t ∧ t < 4 ∧ 0 ≤ k ∧ k < 20) (True) (True) ∧ ib v ∧ (u = 0 → v = bI (hasR V (t * 20 + k)))) := by
  refine z_ofMi (cc := cX8_exists) (maxL := 3) (ret := (some .boolean)) RX8 (by decide +kernel) rfl rfl (Nat.le_of_ble_eq_true rfl) ?_
  intro p0 en0 s0 m0 args0 below0 meth0 c0 ls AA hx hb hr hlocks hml hown hts hP hD hS hA hK hl
  have hl : lv_has ls 3 [(0, .ref (bd 0)), (1, .int (iI (t))), (2, .int (iI (k)))] := hl
  obtain ⟨H, hH⟩ : ∃ H, H = s0.heap := ⟨_, rfl⟩
  obtain ⟨locs, hlo⟩ : ∃ locs : List Loc, locs = [] := ⟨_, rfl⟩
  have hP : va_P D vwCl [(bd 0, .inr (8, [.ref (bd 1), .ref (bd 2), .ref (bd 3), .ref (bd 4), .ref (bd 5), .ref (bd 6), .ref (bd 7), .int (iI (cn)), .ref (bd 8), .int (iI (mp)), .ref (bd 9), .int (iI (ty)), .int (iI (th)), .ref (bd 10), .ref (bd 11), .int (iI (sp)), .int (iI (ta)), .int (iI (ke)), .int (iI (on)), .int (iI (tw))])), (bd 1, .inl (cZ, 80, .inl (iA (Ir)))), (bd 2, .inl (cI, 160, .inl (iA (Vm))))] H := by rw [hH]; exact hP
  have hS : va_S AA s0.heap H locs := by rw [hH, hlo]; exact hS
  suffices hW : W p0 l en0 (headSpec wsX8_exists ({ frames := 2, cells := 0, slots := 0, locals := 42 })).room s0 m0 args0 below0 meth0 c0 H locs 0 0 (QMi below0 D ((fun (u : Int) => [(bd 0, .inr (8, [.ref (bd 1), .ref (bd 2), .ref (bd 3), .ref (bd 4), .ref (bd 5), .ref (bd 6), .ref (bd 7), .int (iI (cn)), .ref (bd 8), .int (iI (mp)), .ref (bd 9), .int (iI (ty)), .int (iI (u)), .ref (bd 10), .ref (bd 11), .int (iI (sp)), .int (iI (ta)), .int (iI (ke)), .int (iI (on)), .int (iI (tw))])), (bd 1, .inl (cZ, 80, .inl (iA (Ir)))), (bd 2, .inl (cI, 160, .inl (iA (Vm))))])) (fun v (u : Int) => u = goK (0 ≤ t ∧ t < 4 ∧ 0 ≤ k ∧ k < 20) (True) (True) ∧ ib v ∧ (u = 0 → v = bI (hasR V (t * 20 + k)))) AA args0 s0 (0) (0)) (F0 m0 0 ls []) by rw [hH, hlo] at hW; exact hW
  have h_hs : 0 ≤ t ∧ t < 4 ∧ 0 ≤ k ∧ k < 20 → (hasR V (t * 20 + k) ↔ Ir (20 * t + k) = 1) := fun q => by rw [show t * 20 + k = 20 * t + k by omega]; exact rV_has g_R (by omega)
  have g_Ir := rV_01 g_R
  have g_Vm := rV_all g_R
  refine lv_aload_n hx hb dX8_exists_0 rfl (lv_at hl 0 rfl) ?_
  refine lv_iload_n hx hb dX8_exists_1 rfl (lv_at hl 1 rfl) ?_
  refine z_roS (As := [.int (iI (t))]) (rest := [.ref (bd 0)]) ⟨hx, hb, hml, hown, hts⟩ (c_X8_isTable l D cI cZ cC (t) (by first | assumption | omega)) (va_cwS 1 hts gX8_exists_X8_isTable rfl rfl rfl (by decide +kernel) ⟨Nat.le_of_ble_eq_true rfl, Nat.le_of_ble_eq_true rfl⟩) hP hK [] rfl rfl hl.1 rfl (Nat.le_of_ble_eq_true rfl) dX8_exists_2 ⟨by omega, by omega⟩ ?_
  refine z_b_eq (tgt := 19) hx hb dX8_exists_5 (by decide) (fun c_1 => ?_) (fun c_1 => ?_)
  · refine lv_iconst (v := iI (0)) hx hb dX8_exists_19 rfl ?_
    refine lv_iconst (v := iI (1)) hx hb dX8_exists_20 rfl ?_
    refine lv_iconst (v := iI (1)) hx hb dX8_exists_21 rfl ?_
    refine z_muV (As := [.int (iI (0)), .int (iI (1)), .int (iI (1))]) (rest := []) (wr := [(bd 1, .inl (cZ, 80, .inl (iA (Ir)))), (bd 2, .inl (cI, 160, .inl (iA (Vm))))]) (ws2 := (fun (u : Unit) => [(bd 0, .inr (8, [.ref (bd 1), .ref (bd 2), .ref (bd 3), .ref (bd 4), .ref (bd 5), .ref (bd 6), .ref (bd 7), .int (iI (cn)), .ref (bd 8), .int (iI (mp)), .ref (bd 9), .int (iI (ty)), .int (iI (gkI 0 1 1)), .ref (bd 10), .ref (bd 11), .int (iI (sp)), .int (iI (ta)), .int (iI (ke)), .int (iI (on)), .int (iI (tw))])), (bd 1, .inl (cZ, 80, .inl (iA (Ir)))), (bd 2, .inl (cI, 160, .inl (iA (Vm))))])) ⟨hx, hb, hml, hown, hts⟩ (c_X8_goes l D cI cZ cC H.size (bd) (cn) (mp) (ty) (th) (sp) (ta) (ke) (on) (tw) (0) (1) (1) (by first | assumption | omega) (by first | assumption | omega) (by first | assumption | omega)) (cwV 3 hts gX8_exists_X8_goes rfl rfl rfl (by decide +kernel) ⟨Nat.le_of_ble_eq_true rfl, Nat.le_of_ble_eq_true rfl⟩) hP hD hS hA hK [0] [1, 2] [2, 0, 1] rfl (by decide) rfl (by decide) (by decide) (by decide) (fun _ => rfl) 0 8 rfl rfl rfl rfl hl.1 rfl (Nat.le_of_ble_eq_true rfl) dX8_exists_22 ⟨by omega, by omega⟩ (fun r_3 u H locs hq_2 hP hD hS => ?_)
    have hP : va_P D vwCl [(bd 0, .inr (8, [.ref (bd 1), .ref (bd 2), .ref (bd 3), .ref (bd 4), .ref (bd 5), .ref (bd 6), .ref (bd 7), .int (iI (cn)), .ref (bd 8), .int (iI (mp)), .ref (bd 9), .int (iI (ty)), .int (iI (gkI 0 1 1)), .ref (bd 10), .ref (bd 11), .int (iI (sp)), .int (iI (ta)), .int (iI (ke)), .int (iI (on)), .int (iI (tw))])), (bd 1, .inl (cZ, 80, .inl (iA (Ir)))), (bd 2, .inl (cI, 160, .inl (iA (Vm))))] H := hP
    have hD : va_D AA [(bd 0, .inr (8, [.ref (bd 1), .ref (bd 2), .ref (bd 3), .ref (bd 4), .ref (bd 5), .ref (bd 6), .ref (bd 7), .int (iI (cn)), .ref (bd 8), .int (iI (mp)), .ref (bd 9), .int (iI (ty)), .int (iI (gkI 0 1 1)), .ref (bd 10), .ref (bd 11), .int (iI (sp)), .int (iI (ta)), .int (iI (ke)), .int (iI (on)), .int (iI (tw))])), (bd 1, .inl (cZ, 80, .inl (iA (Ir)))), (bd 2, .inl (cI, 160, .inl (iA (Vm))))] := hD
    try dsimp only at hq_2
    obtain ⟨hv9, hq_2⟩ := hq_2
    have hv9 := hv9.symm
    subst hv9
    have hth : gkI (0) (1) (1) = 1 := rfl
    rw [hth] at hP hD
    have hP : va_P D vwCl [(bd 0, .inr (8, [.ref (bd 1), .ref (bd 2), .ref (bd 3), .ref (bd 4), .ref (bd 5), .ref (bd 6), .ref (bd 7), .int (iI (cn)), .ref (bd 8), .int (iI (mp)), .ref (bd 9), .int (iI (ty)), .int (iI (1)), .ref (bd 10), .ref (bd 11), .int (iI (sp)), .int (iI (ta)), .int (iI (ke)), .int (iI (on)), .int (iI (tw))])), (bd 1, .inl (cZ, 80, .inl (iA (Ir)))), (bd 2, .inl (cI, 160, .inl (iA (Vm))))] H := hP
    have hD : va_D AA [(bd 0, .inr (8, [.ref (bd 1), .ref (bd 2), .ref (bd 3), .ref (bd 4), .ref (bd 5), .ref (bd 6), .ref (bd 7), .int (iI (cn)), .ref (bd 8), .int (iI (mp)), .ref (bd 9), .int (iI (ty)), .int (iI (1)), .ref (bd 10), .ref (bd 11), .int (iI (sp)), .int (iI (ta)), .int (iI (ke)), .int (iI (on)), .int (iI (tw))])), (bd 1, .inl (cZ, 80, .inl (iA (Ir)))), (bd 2, .inl (cI, 160, .inl (iA (Vm))))] := hD
    rw [show bI (gkI (0) (1) (1) = 0) = 0 from bI_f (by rw [hth]; decide)]
    refine z_if_eq (tgt := 45) hx hb dX8_exists_25 (by decide) ⟨by omega, by omega⟩ (fun c_4 => ?_) (fun c_4 => ?_)
    · refine lv_iconst (v := iI (0)) hx hb dX8_exists_45 rfl ?_
      refine z_mretZ (1) hx hb hr hlocks dX8_exists_46 (by omega) hP hD hS ?_
      refine ⟨by symm; first | (rw [goK_1 (by omega)]; done) | (rw [goK_2 (by omega) (by omega)]; done) | (rw [goK_3 (by omega) (by omega) (by omega)]; done) | (rw [goK_0 (by omega) (by omega) (by omega)]; done) | (rw [goK_0 (by omega) (by omega) trivial]; done) | (rw [goK_0 (by omega) trivial trivial]; done), ⟨by omega, by omega⟩, fun h => ?_⟩
      exact absurd h (by decide)
    · exfalso
      omega
  · refine lv_iload_n hx hb dX8_exists_8 rfl (lv_at hl 2 rfl) ?_
    refine z_roS (As := [.int (iI (k))]) (rest := [.ref (bd 0)]) ⟨hx, hb, hml, hown, hts⟩ (c_X8_isKey l D cI cZ cC (k) (by first | assumption | omega)) (va_cwS 1 hts gX8_exists_X8_isKey rfl rfl rfl (by decide +kernel) ⟨Nat.le_of_ble_eq_true rfl, Nat.le_of_ble_eq_true rfl⟩) hP hK [] rfl rfl hl.1 rfl (Nat.le_of_ble_eq_true rfl) dX8_exists_9 ⟨by omega, by omega⟩ ?_
    refine z_b_eq (tgt := 19) hx hb dX8_exists_12 (by decide) (fun c_5 => ?_) (fun c_5 => ?_)
    · refine lv_iconst (v := iI (0)) hx hb dX8_exists_19 rfl ?_
      refine lv_iconst (v := iI (1)) hx hb dX8_exists_20 rfl ?_
      refine lv_iconst (v := iI (1)) hx hb dX8_exists_21 rfl ?_
      refine z_muV (As := [.int (iI (0)), .int (iI (1)), .int (iI (1))]) (rest := []) (wr := [(bd 1, .inl (cZ, 80, .inl (iA (Ir)))), (bd 2, .inl (cI, 160, .inl (iA (Vm))))]) (ws2 := (fun (u : Unit) => [(bd 0, .inr (8, [.ref (bd 1), .ref (bd 2), .ref (bd 3), .ref (bd 4), .ref (bd 5), .ref (bd 6), .ref (bd 7), .int (iI (cn)), .ref (bd 8), .int (iI (mp)), .ref (bd 9), .int (iI (ty)), .int (iI (gkI 0 1 1)), .ref (bd 10), .ref (bd 11), .int (iI (sp)), .int (iI (ta)), .int (iI (ke)), .int (iI (on)), .int (iI (tw))])), (bd 1, .inl (cZ, 80, .inl (iA (Ir)))), (bd 2, .inl (cI, 160, .inl (iA (Vm))))])) ⟨hx, hb, hml, hown, hts⟩ (c_X8_goes l D cI cZ cC H.size (bd) (cn) (mp) (ty) (th) (sp) (ta) (ke) (on) (tw) (0) (1) (1) (by first | assumption | omega) (by first | assumption | omega) (by first | assumption | omega)) (cwV 3 hts gX8_exists_X8_goes rfl rfl rfl (by decide +kernel) ⟨Nat.le_of_ble_eq_true rfl, Nat.le_of_ble_eq_true rfl⟩) hP hD hS hA hK [0] [1, 2] [2, 0, 1] rfl (by decide) rfl (by decide) (by decide) (by decide) (fun _ => rfl) 0 8 rfl rfl rfl rfl hl.1 rfl (Nat.le_of_ble_eq_true rfl) dX8_exists_22 ⟨by omega, by omega⟩ (fun r_7 u H locs hq_6 hP hD hS => ?_)
      have hP : va_P D vwCl [(bd 0, .inr (8, [.ref (bd 1), .ref (bd 2), .ref (bd 3), .ref (bd 4), .ref (bd 5), .ref (bd 6), .ref (bd 7), .int (iI (cn)), .ref (bd 8), .int (iI (mp)), .ref (bd 9), .int (iI (ty)), .int (iI (gkI 0 1 1)), .ref (bd 10), .ref (bd 11), .int (iI (sp)), .int (iI (ta)), .int (iI (ke)), .int (iI (on)), .int (iI (tw))])), (bd 1, .inl (cZ, 80, .inl (iA (Ir)))), (bd 2, .inl (cI, 160, .inl (iA (Vm))))] H := hP
      have hD : va_D AA [(bd 0, .inr (8, [.ref (bd 1), .ref (bd 2), .ref (bd 3), .ref (bd 4), .ref (bd 5), .ref (bd 6), .ref (bd 7), .int (iI (cn)), .ref (bd 8), .int (iI (mp)), .ref (bd 9), .int (iI (ty)), .int (iI (gkI 0 1 1)), .ref (bd 10), .ref (bd 11), .int (iI (sp)), .int (iI (ta)), .int (iI (ke)), .int (iI (on)), .int (iI (tw))])), (bd 1, .inl (cZ, 80, .inl (iA (Ir)))), (bd 2, .inl (cI, 160, .inl (iA (Vm))))] := hD
      try dsimp only at hq_6
      obtain ⟨hv9, hq_6⟩ := hq_6
      have hv9 := hv9.symm
      subst hv9
      have hth : gkI (0) (1) (1) = 1 := rfl
      rw [hth] at hP hD
      have hP : va_P D vwCl [(bd 0, .inr (8, [.ref (bd 1), .ref (bd 2), .ref (bd 3), .ref (bd 4), .ref (bd 5), .ref (bd 6), .ref (bd 7), .int (iI (cn)), .ref (bd 8), .int (iI (mp)), .ref (bd 9), .int (iI (ty)), .int (iI (1)), .ref (bd 10), .ref (bd 11), .int (iI (sp)), .int (iI (ta)), .int (iI (ke)), .int (iI (on)), .int (iI (tw))])), (bd 1, .inl (cZ, 80, .inl (iA (Ir)))), (bd 2, .inl (cI, 160, .inl (iA (Vm))))] H := hP
      have hD : va_D AA [(bd 0, .inr (8, [.ref (bd 1), .ref (bd 2), .ref (bd 3), .ref (bd 4), .ref (bd 5), .ref (bd 6), .ref (bd 7), .int (iI (cn)), .ref (bd 8), .int (iI (mp)), .ref (bd 9), .int (iI (ty)), .int (iI (1)), .ref (bd 10), .ref (bd 11), .int (iI (sp)), .int (iI (ta)), .int (iI (ke)), .int (iI (on)), .int (iI (tw))])), (bd 1, .inl (cZ, 80, .inl (iA (Ir)))), (bd 2, .inl (cI, 160, .inl (iA (Vm))))] := hD
      rw [show bI (gkI (0) (1) (1) = 0) = 0 from bI_f (by rw [hth]; decide)]
      refine z_if_eq (tgt := 45) hx hb dX8_exists_25 (by decide) ⟨by omega, by omega⟩ (fun c_8 => ?_) (fun c_8 => ?_)
      · refine lv_iconst (v := iI (0)) hx hb dX8_exists_45 rfl ?_
        refine z_mretZ (1) hx hb hr hlocks dX8_exists_46 (by omega) hP hD hS ?_
        refine ⟨by symm; first | (rw [goK_1 (by omega)]; done) | (rw [goK_2 (by omega) (by omega)]; done) | (rw [goK_3 (by omega) (by omega) (by omega)]; done) | (rw [goK_0 (by omega) (by omega) (by omega)]; done) | (rw [goK_0 (by omega) (by omega) trivial]; done) | (rw [goK_0 (by omega) trivial trivial]; done), ⟨by omega, by omega⟩, fun h => ?_⟩
        exact absurd h (by decide)
      · exfalso
        omega
    · refine lv_iconst (v := iI (1)) hx hb dX8_exists_15 rfl ?_
      refine lv_goto (tgt := 20) hx hb dX8_exists_16 (by decide) ?_
      refine lv_iconst (v := iI (1)) hx hb dX8_exists_20 rfl ?_
      refine lv_iconst (v := iI (1)) hx hb dX8_exists_21 rfl ?_
      refine z_muV (As := [.int (iI (1)), .int (iI (1)), .int (iI (1))]) (rest := []) (wr := [(bd 1, .inl (cZ, 80, .inl (iA (Ir)))), (bd 2, .inl (cI, 160, .inl (iA (Vm))))]) (ws2 := (fun (u : Unit) => [(bd 0, .inr (8, [.ref (bd 1), .ref (bd 2), .ref (bd 3), .ref (bd 4), .ref (bd 5), .ref (bd 6), .ref (bd 7), .int (iI (cn)), .ref (bd 8), .int (iI (mp)), .ref (bd 9), .int (iI (ty)), .int (iI (gkI 1 1 1)), .ref (bd 10), .ref (bd 11), .int (iI (sp)), .int (iI (ta)), .int (iI (ke)), .int (iI (on)), .int (iI (tw))])), (bd 1, .inl (cZ, 80, .inl (iA (Ir)))), (bd 2, .inl (cI, 160, .inl (iA (Vm))))])) ⟨hx, hb, hml, hown, hts⟩ (c_X8_goes l D cI cZ cC H.size (bd) (cn) (mp) (ty) (th) (sp) (ta) (ke) (on) (tw) (1) (1) (1) (by first | assumption | omega) (by first | assumption | omega) (by first | assumption | omega)) (cwV 3 hts gX8_exists_X8_goes rfl rfl rfl (by decide +kernel) ⟨Nat.le_of_ble_eq_true rfl, Nat.le_of_ble_eq_true rfl⟩) hP hD hS hA hK [0] [1, 2] [2, 0, 1] rfl (by decide) rfl (by decide) (by decide) (by decide) (fun _ => rfl) 0 8 rfl rfl rfl rfl hl.1 rfl (Nat.le_of_ble_eq_true rfl) dX8_exists_22 ⟨by omega, by omega⟩ (fun r_10 u H locs hq_9 hP hD hS => ?_)
      have hP : va_P D vwCl [(bd 0, .inr (8, [.ref (bd 1), .ref (bd 2), .ref (bd 3), .ref (bd 4), .ref (bd 5), .ref (bd 6), .ref (bd 7), .int (iI (cn)), .ref (bd 8), .int (iI (mp)), .ref (bd 9), .int (iI (ty)), .int (iI (gkI 1 1 1)), .ref (bd 10), .ref (bd 11), .int (iI (sp)), .int (iI (ta)), .int (iI (ke)), .int (iI (on)), .int (iI (tw))])), (bd 1, .inl (cZ, 80, .inl (iA (Ir)))), (bd 2, .inl (cI, 160, .inl (iA (Vm))))] H := hP
      have hD : va_D AA [(bd 0, .inr (8, [.ref (bd 1), .ref (bd 2), .ref (bd 3), .ref (bd 4), .ref (bd 5), .ref (bd 6), .ref (bd 7), .int (iI (cn)), .ref (bd 8), .int (iI (mp)), .ref (bd 9), .int (iI (ty)), .int (iI (gkI 1 1 1)), .ref (bd 10), .ref (bd 11), .int (iI (sp)), .int (iI (ta)), .int (iI (ke)), .int (iI (on)), .int (iI (tw))])), (bd 1, .inl (cZ, 80, .inl (iA (Ir)))), (bd 2, .inl (cI, 160, .inl (iA (Vm))))] := hD
      try dsimp only at hq_9
      obtain ⟨hv9, hq_9⟩ := hq_9
      have hv9 := hv9.symm
      subst hv9
      have hth : gkI (1) (1) (1) = 0 := rfl
      rw [hth] at hP hD
      have hP : va_P D vwCl [(bd 0, .inr (8, [.ref (bd 1), .ref (bd 2), .ref (bd 3), .ref (bd 4), .ref (bd 5), .ref (bd 6), .ref (bd 7), .int (iI (cn)), .ref (bd 8), .int (iI (mp)), .ref (bd 9), .int (iI (ty)), .int (iI (0)), .ref (bd 10), .ref (bd 11), .int (iI (sp)), .int (iI (ta)), .int (iI (ke)), .int (iI (on)), .int (iI (tw))])), (bd 1, .inl (cZ, 80, .inl (iA (Ir)))), (bd 2, .inl (cI, 160, .inl (iA (Vm))))] H := hP
      have hD : va_D AA [(bd 0, .inr (8, [.ref (bd 1), .ref (bd 2), .ref (bd 3), .ref (bd 4), .ref (bd 5), .ref (bd 6), .ref (bd 7), .int (iI (cn)), .ref (bd 8), .int (iI (mp)), .ref (bd 9), .int (iI (ty)), .int (iI (0)), .ref (bd 10), .ref (bd 11), .int (iI (sp)), .int (iI (ta)), .int (iI (ke)), .int (iI (on)), .int (iI (tw))])), (bd 1, .inl (cZ, 80, .inl (iA (Ir)))), (bd 2, .inl (cI, 160, .inl (iA (Vm))))] := hD
      rw [show bI (gkI (1) (1) (1) = 0) = 1 from bI_t hth]
      refine z_if_eq (tgt := 45) hx hb dX8_exists_25 (by decide) ⟨by omega, by omega⟩ (fun c_11 => ?_) (fun c_11 => ?_)
      · exfalso
        omega
      · refine lv_aload_n hx hb dX8_exists_28 rfl (lv_at hl 0 rfl) ?_
        refine va_get (D := D) (ci := 8) (v := .ref (bd 1)) (C := RX8) (T := TX8) (N := 20) hx hb hts (fun _ h => List.mem_cons_of_mem _ (List.mem_append_right _ (h))) hown hK.1 hP 0 rfl rfl 0 (by decide) (hts (.fieldLink RX8 7 "ForeignKeyStoreModel" "isRow" "[Z") (List.mem_of_getElem? (i := 1) rfl)) (fun _ h9 => h9) rfl dX8_exists_29 ?_
        refine lv_iload_n hx hb dX8_exists_32 rfl (lv_at hl 1 rfl) ?_
        refine lv_iload_n hx hb dX8_exists_33 rfl (lv_at hl 2 rfl) ?_
        refine z_roS (As := [.int (iI (t)), .int (iI (k))]) (rest := [.ref (bd 1)]) ⟨hx, hb, hml, hown, hts⟩ (c_X8_row l D cI cZ cC (t) (k) ) (va_cwS 2 hts gX8_exists_X8_row rfl rfl rfl (by decide +kernel) ⟨Nat.le_of_ble_eq_true rfl, Nat.le_of_ble_eq_true rfl⟩) hP hK [] rfl rfl hl.1 rfl (Nat.le_of_ble_eq_true rfl) dX8_exists_34 ⟨by omega, by omega⟩ ?_
        refine z_zald hx hb hK.1 hP 1 1 rfl rfl (by omega) (by decide) dX8_exists_37 ?_
        have hb_12 := g_Ir ((20 * t + k)) (by omega) (by omega)
        refine z_if_eq (tgt := 45) hx hb dX8_exists_38 (by decide) ⟨by omega, by omega⟩ (fun c_13 => ?_) (fun c_13 => ?_)
        · refine lv_iconst (v := iI (0)) hx hb dX8_exists_45 rfl ?_
          refine z_mretZ (0) hx hb hr hlocks dX8_exists_46 (by omega) hP hD hS ?_
          refine ⟨by symm; first | (rw [goK_1 (by omega)]; done) | (rw [goK_2 (by omega) (by omega)]; done) | (rw [goK_3 (by omega) (by omega) (by omega)]; done) | (rw [goK_0 (by omega) (by omega) (by omega)]; done) | (rw [goK_0 (by omega) (by omega) trivial]; done) | (rw [goK_0 (by omega) trivial trivial]; done), ⟨by omega, by omega⟩, fun h => ?_⟩
          first | (rw [bI_t ((h_hs (by omega)).2 (by omega))]; done) | (rw [bI_f (fun q => by have := (h_hs (by omega)).1 q; omega)]; done)
        · refine lv_iconst (v := iI (1)) hx hb dX8_exists_41 rfl ?_
          refine lv_goto (tgt := 46) hx hb dX8_exists_42 (by decide) ?_
          refine z_mretZ (0) hx hb hr hlocks dX8_exists_46 (by omega) hP hD hS ?_
          refine ⟨by symm; first | (rw [goK_1 (by omega)]; done) | (rw [goK_2 (by omega) (by omega)]; done) | (rw [goK_3 (by omega) (by omega) (by omega)]; done) | (rw [goK_0 (by omega) (by omega) (by omega)]; done) | (rw [goK_0 (by omega) (by omega) trivial]; done) | (rw [goK_0 (by omega) trivial trivial]; done), ⟨by omega, by omega⟩, fun h => ?_⟩
          first | (rw [bI_t ((h_hs (by omega)).2 (by omega))]; done) | (rw [bI_f (fun q => by have := (h_hs (by omega)).1 q; omega)]; done)

set_option maxHeartbeats 600000 in
set_option maxRecDepth 100000 in
theorem c_X8_value (l : Launch) (D : va_G) (cI cZ cC : ClassId) (sz : Nat) (bd : Nat → Nat) (cn mp ty th sp ta ke on tw : Int) (Ir Vm V : Int → Int) (t k c : Int) (g_R : rV Ir Vm V) (g_t : ib t) (g_k : ib k) (g_c : ib c) : zMi l yX8_value wsX8_value ({ frames := 2, cells := 0, slots := 0, locals := 42 }) D cI cZ cC [(bd 0, .inr (8, [.ref (bd 1), .ref (bd 2), .ref (bd 3), .ref (bd 4), .ref (bd 5), .ref (bd 6), .ref (bd 7), .int (iI (cn)), .ref (bd 8), .int (iI (mp)), .ref (bd 9), .int (iI (ty)), .int (iI (th)), .ref (bd 10), .ref (bd 11), .int (iI (sp)), .int (iI (ta)), .int (iI (ke)), .int (iI (on)), .int (iI (tw))])), (bd 1, .inl (cZ, 80, .inl (iA (Ir)))), (bd 2, .inl (cI, 160, .inl (iA (Vm))))] sz [.ref (bd 0), .int (iI (t)), .int (iI (k)), .int (iI (c))] (0) (0) (fun (u : Int) => [(bd 0, .inr (8, [.ref (bd 1), .ref (bd 2), .ref (bd 3), .ref (bd 4), .ref (bd 5), .ref (bd 6), .ref (bd 7), .int (iI (cn)), .ref (bd 8), .int (iI (mp)), .ref (bd 9), .int (iI (ty)), .int (iI (u)), .ref (bd 10), .ref (bd 11), .int (iI (sp)), .int (iI (ta)), .int (iI (ke)), .int (iI (on)), .int (iI (tw))])), (bd 1, .inl (cZ, 80, .inl (iA (Ir)))), (bd 2, .inl (cI, 160, .inl (iA (Vm))))]) (fun v (u : Int) => u = goK (0 ≤ t ∧ t < 4 ∧ 0 ≤ k ∧ k < 20 ∧ 0 ≤ c ∧ c < 2) (True) (True) ∧ ib v ∧ (u = 0 → v = vOf V (t * 20 + k) c)) := by
  refine z_ofMi (cc := cX8_value) (maxL := 4) (ret := (some .int)) RX8 (by decide +kernel) rfl rfl (Nat.le_of_ble_eq_true rfl) ?_
  intro p0 en0 s0 m0 args0 below0 meth0 c0 ls AA hx hb hr hlocks hml hown hts hP hD hS hA hK hl
  have hl : lv_has ls 4 [(0, .ref (bd 0)), (1, .int (iI (t))), (2, .int (iI (k))), (3, .int (iI (c)))] := hl
  obtain ⟨H, hH⟩ : ∃ H, H = s0.heap := ⟨_, rfl⟩
  obtain ⟨locs, hlo⟩ : ∃ locs : List Loc, locs = [] := ⟨_, rfl⟩
  have hP : va_P D vwCl [(bd 0, .inr (8, [.ref (bd 1), .ref (bd 2), .ref (bd 3), .ref (bd 4), .ref (bd 5), .ref (bd 6), .ref (bd 7), .int (iI (cn)), .ref (bd 8), .int (iI (mp)), .ref (bd 9), .int (iI (ty)), .int (iI (th)), .ref (bd 10), .ref (bd 11), .int (iI (sp)), .int (iI (ta)), .int (iI (ke)), .int (iI (on)), .int (iI (tw))])), (bd 1, .inl (cZ, 80, .inl (iA (Ir)))), (bd 2, .inl (cI, 160, .inl (iA (Vm))))] H := by rw [hH]; exact hP
  have hS : va_S AA s0.heap H locs := by rw [hH, hlo]; exact hS
  suffices hW : W p0 l en0 (headSpec wsX8_value ({ frames := 2, cells := 0, slots := 0, locals := 42 })).room s0 m0 args0 below0 meth0 c0 H locs 0 0 (QMi below0 D ((fun (u : Int) => [(bd 0, .inr (8, [.ref (bd 1), .ref (bd 2), .ref (bd 3), .ref (bd 4), .ref (bd 5), .ref (bd 6), .ref (bd 7), .int (iI (cn)), .ref (bd 8), .int (iI (mp)), .ref (bd 9), .int (iI (ty)), .int (iI (u)), .ref (bd 10), .ref (bd 11), .int (iI (sp)), .int (iI (ta)), .int (iI (ke)), .int (iI (on)), .int (iI (tw))])), (bd 1, .inl (cZ, 80, .inl (iA (Ir)))), (bd 2, .inl (cI, 160, .inl (iA (Vm))))])) (fun v (u : Int) => u = goK (0 ≤ t ∧ t < 4 ∧ 0 ≤ k ∧ k < 20 ∧ 0 ≤ c ∧ c < 2) (True) (True) ∧ ib v ∧ (u = 0 → v = vOf V (t * 20 + k) c)) AA args0 s0 (0) (0)) (F0 m0 0 ls []) by rw [hH, hlo] at hW; exact hW
  have h_hs : 0 ≤ t ∧ t < 4 ∧ 0 ≤ k ∧ k < 20 → (hasR V (t * 20 + k) ↔ Ir (20 * t + k) = 1) := fun q => by rw [show t * 20 + k = 20 * t + k by omega]; exact rV_has g_R (by omega)
  have g_Ir := rV_01 g_R
  have g_Vm := rV_all g_R
  refine lv_aload_n hx hb dX8_value_0 rfl (lv_at hl 0 rfl) ?_
  refine lv_iload_n hx hb dX8_value_1 rfl (lv_at hl 1 rfl) ?_
  refine z_roS (As := [.int (iI (t))]) (rest := [.ref (bd 0)]) ⟨hx, hb, hml, hown, hts⟩ (c_X8_isTable l D cI cZ cC (t) (by first | assumption | omega)) (va_cwS 1 hts gX8_value_X8_isTable rfl rfl rfl (by decide +kernel) ⟨Nat.le_of_ble_eq_true rfl, Nat.le_of_ble_eq_true rfl⟩) hP hK [] rfl rfl hl.1 rfl (Nat.le_of_ble_eq_true rfl) dX8_value_2 ⟨by omega, by omega⟩ ?_
  refine z_b_eq (tgt := 26) hx hb dX8_value_5 (by decide) (fun c_1 => ?_) (fun c_1 => ?_)
  · refine lv_iconst (v := iI (0)) hx hb dX8_value_26 rfl ?_
    refine lv_iconst (v := iI (1)) hx hb dX8_value_27 rfl ?_
    refine lv_iconst (v := iI (1)) hx hb dX8_value_28 rfl ?_
    refine z_muV (As := [.int (iI (0)), .int (iI (1)), .int (iI (1))]) (rest := []) (wr := [(bd 1, .inl (cZ, 80, .inl (iA (Ir)))), (bd 2, .inl (cI, 160, .inl (iA (Vm))))]) (ws2 := (fun (u : Unit) => [(bd 0, .inr (8, [.ref (bd 1), .ref (bd 2), .ref (bd 3), .ref (bd 4), .ref (bd 5), .ref (bd 6), .ref (bd 7), .int (iI (cn)), .ref (bd 8), .int (iI (mp)), .ref (bd 9), .int (iI (ty)), .int (iI (gkI 0 1 1)), .ref (bd 10), .ref (bd 11), .int (iI (sp)), .int (iI (ta)), .int (iI (ke)), .int (iI (on)), .int (iI (tw))])), (bd 1, .inl (cZ, 80, .inl (iA (Ir)))), (bd 2, .inl (cI, 160, .inl (iA (Vm))))])) ⟨hx, hb, hml, hown, hts⟩ (c_X8_goes l D cI cZ cC H.size (bd) (cn) (mp) (ty) (th) (sp) (ta) (ke) (on) (tw) (0) (1) (1) (by first | assumption | omega) (by first | assumption | omega) (by first | assumption | omega)) (cwV 3 hts gX8_value_X8_goes rfl rfl rfl (by decide +kernel) ⟨Nat.le_of_ble_eq_true rfl, Nat.le_of_ble_eq_true rfl⟩) hP hD hS hA hK [0] [1, 2] [2, 0, 1] rfl (by decide) rfl (by decide) (by decide) (by decide) (fun _ => rfl) 0 8 rfl rfl rfl rfl hl.1 rfl (Nat.le_of_ble_eq_true rfl) dX8_value_29 ⟨by omega, by omega⟩ (fun r_3 u H locs hq_2 hP hD hS => ?_)
    have hP : va_P D vwCl [(bd 0, .inr (8, [.ref (bd 1), .ref (bd 2), .ref (bd 3), .ref (bd 4), .ref (bd 5), .ref (bd 6), .ref (bd 7), .int (iI (cn)), .ref (bd 8), .int (iI (mp)), .ref (bd 9), .int (iI (ty)), .int (iI (gkI 0 1 1)), .ref (bd 10), .ref (bd 11), .int (iI (sp)), .int (iI (ta)), .int (iI (ke)), .int (iI (on)), .int (iI (tw))])), (bd 1, .inl (cZ, 80, .inl (iA (Ir)))), (bd 2, .inl (cI, 160, .inl (iA (Vm))))] H := hP
    have hD : va_D AA [(bd 0, .inr (8, [.ref (bd 1), .ref (bd 2), .ref (bd 3), .ref (bd 4), .ref (bd 5), .ref (bd 6), .ref (bd 7), .int (iI (cn)), .ref (bd 8), .int (iI (mp)), .ref (bd 9), .int (iI (ty)), .int (iI (gkI 0 1 1)), .ref (bd 10), .ref (bd 11), .int (iI (sp)), .int (iI (ta)), .int (iI (ke)), .int (iI (on)), .int (iI (tw))])), (bd 1, .inl (cZ, 80, .inl (iA (Ir)))), (bd 2, .inl (cI, 160, .inl (iA (Vm))))] := hD
    try dsimp only at hq_2
    obtain ⟨hv9, hq_2⟩ := hq_2
    have hv9 := hv9.symm
    subst hv9
    have hth : gkI (0) (1) (1) = 1 := rfl
    rw [hth] at hP hD
    have hP : va_P D vwCl [(bd 0, .inr (8, [.ref (bd 1), .ref (bd 2), .ref (bd 3), .ref (bd 4), .ref (bd 5), .ref (bd 6), .ref (bd 7), .int (iI (cn)), .ref (bd 8), .int (iI (mp)), .ref (bd 9), .int (iI (ty)), .int (iI (1)), .ref (bd 10), .ref (bd 11), .int (iI (sp)), .int (iI (ta)), .int (iI (ke)), .int (iI (on)), .int (iI (tw))])), (bd 1, .inl (cZ, 80, .inl (iA (Ir)))), (bd 2, .inl (cI, 160, .inl (iA (Vm))))] H := hP
    have hD : va_D AA [(bd 0, .inr (8, [.ref (bd 1), .ref (bd 2), .ref (bd 3), .ref (bd 4), .ref (bd 5), .ref (bd 6), .ref (bd 7), .int (iI (cn)), .ref (bd 8), .int (iI (mp)), .ref (bd 9), .int (iI (ty)), .int (iI (1)), .ref (bd 10), .ref (bd 11), .int (iI (sp)), .int (iI (ta)), .int (iI (ke)), .int (iI (on)), .int (iI (tw))])), (bd 1, .inl (cZ, 80, .inl (iA (Ir)))), (bd 2, .inl (cI, 160, .inl (iA (Vm))))] := hD
    rw [show bI (gkI (0) (1) (1) = 0) = 0 from bI_f (by rw [hth]; decide)]
    refine z_if_ne (tgt := 37) hx hb dX8_value_32 (by decide) ⟨by omega, by omega⟩ (fun c_4 => ?_) (fun c_4 => ?_)
    · exfalso
      omega
    · refine lv_iconst (v := iI (0)) hx hb dX8_value_35 rfl ?_
      refine z_mret (1) hx hb hr hlocks dX8_value_36 hP hD hS ?_
      refine ⟨by symm; first | (rw [goK_1 (by omega)]; done) | (rw [goK_2 (by omega) (by omega)]; done) | (rw [goK_3 (by omega) (by omega) (by omega)]; done) | (rw [goK_0 (by omega) (by omega) (by omega)]; done) | (rw [goK_0 (by omega) (by omega) trivial]; done) | (rw [goK_0 (by omega) trivial trivial]; done), ⟨by omega, by omega⟩, fun h => ?_⟩
      exact absurd h (by decide)
  · refine lv_iload_n hx hb dX8_value_8 rfl (lv_at hl 2 rfl) ?_
    refine z_roS (As := [.int (iI (k))]) (rest := [.ref (bd 0)]) ⟨hx, hb, hml, hown, hts⟩ (c_X8_isKey l D cI cZ cC (k) (by first | assumption | omega)) (va_cwS 1 hts gX8_value_X8_isKey rfl rfl rfl (by decide +kernel) ⟨Nat.le_of_ble_eq_true rfl, Nat.le_of_ble_eq_true rfl⟩) hP hK [] rfl rfl hl.1 rfl (Nat.le_of_ble_eq_true rfl) dX8_value_9 ⟨by omega, by omega⟩ ?_
    refine z_b_eq (tgt := 26) hx hb dX8_value_12 (by decide) (fun c_5 => ?_) (fun c_5 => ?_)
    · refine lv_iconst (v := iI (0)) hx hb dX8_value_26 rfl ?_
      refine lv_iconst (v := iI (1)) hx hb dX8_value_27 rfl ?_
      refine lv_iconst (v := iI (1)) hx hb dX8_value_28 rfl ?_
      refine z_muV (As := [.int (iI (0)), .int (iI (1)), .int (iI (1))]) (rest := []) (wr := [(bd 1, .inl (cZ, 80, .inl (iA (Ir)))), (bd 2, .inl (cI, 160, .inl (iA (Vm))))]) (ws2 := (fun (u : Unit) => [(bd 0, .inr (8, [.ref (bd 1), .ref (bd 2), .ref (bd 3), .ref (bd 4), .ref (bd 5), .ref (bd 6), .ref (bd 7), .int (iI (cn)), .ref (bd 8), .int (iI (mp)), .ref (bd 9), .int (iI (ty)), .int (iI (gkI 0 1 1)), .ref (bd 10), .ref (bd 11), .int (iI (sp)), .int (iI (ta)), .int (iI (ke)), .int (iI (on)), .int (iI (tw))])), (bd 1, .inl (cZ, 80, .inl (iA (Ir)))), (bd 2, .inl (cI, 160, .inl (iA (Vm))))])) ⟨hx, hb, hml, hown, hts⟩ (c_X8_goes l D cI cZ cC H.size (bd) (cn) (mp) (ty) (th) (sp) (ta) (ke) (on) (tw) (0) (1) (1) (by first | assumption | omega) (by first | assumption | omega) (by first | assumption | omega)) (cwV 3 hts gX8_value_X8_goes rfl rfl rfl (by decide +kernel) ⟨Nat.le_of_ble_eq_true rfl, Nat.le_of_ble_eq_true rfl⟩) hP hD hS hA hK [0] [1, 2] [2, 0, 1] rfl (by decide) rfl (by decide) (by decide) (by decide) (fun _ => rfl) 0 8 rfl rfl rfl rfl hl.1 rfl (Nat.le_of_ble_eq_true rfl) dX8_value_29 ⟨by omega, by omega⟩ (fun r_7 u H locs hq_6 hP hD hS => ?_)
      have hP : va_P D vwCl [(bd 0, .inr (8, [.ref (bd 1), .ref (bd 2), .ref (bd 3), .ref (bd 4), .ref (bd 5), .ref (bd 6), .ref (bd 7), .int (iI (cn)), .ref (bd 8), .int (iI (mp)), .ref (bd 9), .int (iI (ty)), .int (iI (gkI 0 1 1)), .ref (bd 10), .ref (bd 11), .int (iI (sp)), .int (iI (ta)), .int (iI (ke)), .int (iI (on)), .int (iI (tw))])), (bd 1, .inl (cZ, 80, .inl (iA (Ir)))), (bd 2, .inl (cI, 160, .inl (iA (Vm))))] H := hP
      have hD : va_D AA [(bd 0, .inr (8, [.ref (bd 1), .ref (bd 2), .ref (bd 3), .ref (bd 4), .ref (bd 5), .ref (bd 6), .ref (bd 7), .int (iI (cn)), .ref (bd 8), .int (iI (mp)), .ref (bd 9), .int (iI (ty)), .int (iI (gkI 0 1 1)), .ref (bd 10), .ref (bd 11), .int (iI (sp)), .int (iI (ta)), .int (iI (ke)), .int (iI (on)), .int (iI (tw))])), (bd 1, .inl (cZ, 80, .inl (iA (Ir)))), (bd 2, .inl (cI, 160, .inl (iA (Vm))))] := hD
      try dsimp only at hq_6
      obtain ⟨hv9, hq_6⟩ := hq_6
      have hv9 := hv9.symm
      subst hv9
      have hth : gkI (0) (1) (1) = 1 := rfl
      rw [hth] at hP hD
      have hP : va_P D vwCl [(bd 0, .inr (8, [.ref (bd 1), .ref (bd 2), .ref (bd 3), .ref (bd 4), .ref (bd 5), .ref (bd 6), .ref (bd 7), .int (iI (cn)), .ref (bd 8), .int (iI (mp)), .ref (bd 9), .int (iI (ty)), .int (iI (1)), .ref (bd 10), .ref (bd 11), .int (iI (sp)), .int (iI (ta)), .int (iI (ke)), .int (iI (on)), .int (iI (tw))])), (bd 1, .inl (cZ, 80, .inl (iA (Ir)))), (bd 2, .inl (cI, 160, .inl (iA (Vm))))] H := hP
      have hD : va_D AA [(bd 0, .inr (8, [.ref (bd 1), .ref (bd 2), .ref (bd 3), .ref (bd 4), .ref (bd 5), .ref (bd 6), .ref (bd 7), .int (iI (cn)), .ref (bd 8), .int (iI (mp)), .ref (bd 9), .int (iI (ty)), .int (iI (1)), .ref (bd 10), .ref (bd 11), .int (iI (sp)), .int (iI (ta)), .int (iI (ke)), .int (iI (on)), .int (iI (tw))])), (bd 1, .inl (cZ, 80, .inl (iA (Ir)))), (bd 2, .inl (cI, 160, .inl (iA (Vm))))] := hD
      rw [show bI (gkI (0) (1) (1) = 0) = 0 from bI_f (by rw [hth]; decide)]
      refine z_if_ne (tgt := 37) hx hb dX8_value_32 (by decide) ⟨by omega, by omega⟩ (fun c_8 => ?_) (fun c_8 => ?_)
      · exfalso
        omega
      · refine lv_iconst (v := iI (0)) hx hb dX8_value_35 rfl ?_
        refine z_mret (1) hx hb hr hlocks dX8_value_36 hP hD hS ?_
        refine ⟨by symm; first | (rw [goK_1 (by omega)]; done) | (rw [goK_2 (by omega) (by omega)]; done) | (rw [goK_3 (by omega) (by omega) (by omega)]; done) | (rw [goK_0 (by omega) (by omega) (by omega)]; done) | (rw [goK_0 (by omega) (by omega) trivial]; done) | (rw [goK_0 (by omega) trivial trivial]; done), ⟨by omega, by omega⟩, fun h => ?_⟩
        exact absurd h (by decide)
    · refine lv_iload_n hx hb dX8_value_15 rfl (lv_at hl 3 rfl) ?_
      refine z_roS (As := [.int (iI (c))]) (rest := [.ref (bd 0)]) ⟨hx, hb, hml, hown, hts⟩ (c_X8_isColumn l D cI cZ cC (c) (by first | assumption | omega)) (va_cwS 1 hts gX8_value_X8_isColumn rfl rfl rfl (by decide +kernel) ⟨Nat.le_of_ble_eq_true rfl, Nat.le_of_ble_eq_true rfl⟩) hP hK [] rfl rfl hl.1 rfl (Nat.le_of_ble_eq_true rfl) dX8_value_16 ⟨by omega, by omega⟩ ?_
      refine z_b_eq (tgt := 26) hx hb dX8_value_19 (by decide) (fun c_9 => ?_) (fun c_9 => ?_)
      · refine lv_iconst (v := iI (0)) hx hb dX8_value_26 rfl ?_
        refine lv_iconst (v := iI (1)) hx hb dX8_value_27 rfl ?_
        refine lv_iconst (v := iI (1)) hx hb dX8_value_28 rfl ?_
        refine z_muV (As := [.int (iI (0)), .int (iI (1)), .int (iI (1))]) (rest := []) (wr := [(bd 1, .inl (cZ, 80, .inl (iA (Ir)))), (bd 2, .inl (cI, 160, .inl (iA (Vm))))]) (ws2 := (fun (u : Unit) => [(bd 0, .inr (8, [.ref (bd 1), .ref (bd 2), .ref (bd 3), .ref (bd 4), .ref (bd 5), .ref (bd 6), .ref (bd 7), .int (iI (cn)), .ref (bd 8), .int (iI (mp)), .ref (bd 9), .int (iI (ty)), .int (iI (gkI 0 1 1)), .ref (bd 10), .ref (bd 11), .int (iI (sp)), .int (iI (ta)), .int (iI (ke)), .int (iI (on)), .int (iI (tw))])), (bd 1, .inl (cZ, 80, .inl (iA (Ir)))), (bd 2, .inl (cI, 160, .inl (iA (Vm))))])) ⟨hx, hb, hml, hown, hts⟩ (c_X8_goes l D cI cZ cC H.size (bd) (cn) (mp) (ty) (th) (sp) (ta) (ke) (on) (tw) (0) (1) (1) (by first | assumption | omega) (by first | assumption | omega) (by first | assumption | omega)) (cwV 3 hts gX8_value_X8_goes rfl rfl rfl (by decide +kernel) ⟨Nat.le_of_ble_eq_true rfl, Nat.le_of_ble_eq_true rfl⟩) hP hD hS hA hK [0] [1, 2] [2, 0, 1] rfl (by decide) rfl (by decide) (by decide) (by decide) (fun _ => rfl) 0 8 rfl rfl rfl rfl hl.1 rfl (Nat.le_of_ble_eq_true rfl) dX8_value_29 ⟨by omega, by omega⟩ (fun r_11 u H locs hq_10 hP hD hS => ?_)
        have hP : va_P D vwCl [(bd 0, .inr (8, [.ref (bd 1), .ref (bd 2), .ref (bd 3), .ref (bd 4), .ref (bd 5), .ref (bd 6), .ref (bd 7), .int (iI (cn)), .ref (bd 8), .int (iI (mp)), .ref (bd 9), .int (iI (ty)), .int (iI (gkI 0 1 1)), .ref (bd 10), .ref (bd 11), .int (iI (sp)), .int (iI (ta)), .int (iI (ke)), .int (iI (on)), .int (iI (tw))])), (bd 1, .inl (cZ, 80, .inl (iA (Ir)))), (bd 2, .inl (cI, 160, .inl (iA (Vm))))] H := hP
        have hD : va_D AA [(bd 0, .inr (8, [.ref (bd 1), .ref (bd 2), .ref (bd 3), .ref (bd 4), .ref (bd 5), .ref (bd 6), .ref (bd 7), .int (iI (cn)), .ref (bd 8), .int (iI (mp)), .ref (bd 9), .int (iI (ty)), .int (iI (gkI 0 1 1)), .ref (bd 10), .ref (bd 11), .int (iI (sp)), .int (iI (ta)), .int (iI (ke)), .int (iI (on)), .int (iI (tw))])), (bd 1, .inl (cZ, 80, .inl (iA (Ir)))), (bd 2, .inl (cI, 160, .inl (iA (Vm))))] := hD
        try dsimp only at hq_10
        obtain ⟨hv9, hq_10⟩ := hq_10
        have hv9 := hv9.symm
        subst hv9
        have hth : gkI (0) (1) (1) = 1 := rfl
        rw [hth] at hP hD
        have hP : va_P D vwCl [(bd 0, .inr (8, [.ref (bd 1), .ref (bd 2), .ref (bd 3), .ref (bd 4), .ref (bd 5), .ref (bd 6), .ref (bd 7), .int (iI (cn)), .ref (bd 8), .int (iI (mp)), .ref (bd 9), .int (iI (ty)), .int (iI (1)), .ref (bd 10), .ref (bd 11), .int (iI (sp)), .int (iI (ta)), .int (iI (ke)), .int (iI (on)), .int (iI (tw))])), (bd 1, .inl (cZ, 80, .inl (iA (Ir)))), (bd 2, .inl (cI, 160, .inl (iA (Vm))))] H := hP
        have hD : va_D AA [(bd 0, .inr (8, [.ref (bd 1), .ref (bd 2), .ref (bd 3), .ref (bd 4), .ref (bd 5), .ref (bd 6), .ref (bd 7), .int (iI (cn)), .ref (bd 8), .int (iI (mp)), .ref (bd 9), .int (iI (ty)), .int (iI (1)), .ref (bd 10), .ref (bd 11), .int (iI (sp)), .int (iI (ta)), .int (iI (ke)), .int (iI (on)), .int (iI (tw))])), (bd 1, .inl (cZ, 80, .inl (iA (Ir)))), (bd 2, .inl (cI, 160, .inl (iA (Vm))))] := hD
        rw [show bI (gkI (0) (1) (1) = 0) = 0 from bI_f (by rw [hth]; decide)]
        refine z_if_ne (tgt := 37) hx hb dX8_value_32 (by decide) ⟨by omega, by omega⟩ (fun c_12 => ?_) (fun c_12 => ?_)
        · exfalso
          omega
        · refine lv_iconst (v := iI (0)) hx hb dX8_value_35 rfl ?_
          refine z_mret (1) hx hb hr hlocks dX8_value_36 hP hD hS ?_
          refine ⟨by symm; first | (rw [goK_1 (by omega)]; done) | (rw [goK_2 (by omega) (by omega)]; done) | (rw [goK_3 (by omega) (by omega) (by omega)]; done) | (rw [goK_0 (by omega) (by omega) (by omega)]; done) | (rw [goK_0 (by omega) (by omega) trivial]; done) | (rw [goK_0 (by omega) trivial trivial]; done), ⟨by omega, by omega⟩, fun h => ?_⟩
          exact absurd h (by decide)
      · refine lv_iconst (v := iI (1)) hx hb dX8_value_22 rfl ?_
        refine lv_goto (tgt := 27) hx hb dX8_value_23 (by decide) ?_
        refine lv_iconst (v := iI (1)) hx hb dX8_value_27 rfl ?_
        refine lv_iconst (v := iI (1)) hx hb dX8_value_28 rfl ?_
        refine z_muV (As := [.int (iI (1)), .int (iI (1)), .int (iI (1))]) (rest := []) (wr := [(bd 1, .inl (cZ, 80, .inl (iA (Ir)))), (bd 2, .inl (cI, 160, .inl (iA (Vm))))]) (ws2 := (fun (u : Unit) => [(bd 0, .inr (8, [.ref (bd 1), .ref (bd 2), .ref (bd 3), .ref (bd 4), .ref (bd 5), .ref (bd 6), .ref (bd 7), .int (iI (cn)), .ref (bd 8), .int (iI (mp)), .ref (bd 9), .int (iI (ty)), .int (iI (gkI 1 1 1)), .ref (bd 10), .ref (bd 11), .int (iI (sp)), .int (iI (ta)), .int (iI (ke)), .int (iI (on)), .int (iI (tw))])), (bd 1, .inl (cZ, 80, .inl (iA (Ir)))), (bd 2, .inl (cI, 160, .inl (iA (Vm))))])) ⟨hx, hb, hml, hown, hts⟩ (c_X8_goes l D cI cZ cC H.size (bd) (cn) (mp) (ty) (th) (sp) (ta) (ke) (on) (tw) (1) (1) (1) (by first | assumption | omega) (by first | assumption | omega) (by first | assumption | omega)) (cwV 3 hts gX8_value_X8_goes rfl rfl rfl (by decide +kernel) ⟨Nat.le_of_ble_eq_true rfl, Nat.le_of_ble_eq_true rfl⟩) hP hD hS hA hK [0] [1, 2] [2, 0, 1] rfl (by decide) rfl (by decide) (by decide) (by decide) (fun _ => rfl) 0 8 rfl rfl rfl rfl hl.1 rfl (Nat.le_of_ble_eq_true rfl) dX8_value_29 ⟨by omega, by omega⟩ (fun r_14 u H locs hq_13 hP hD hS => ?_)
        have hP : va_P D vwCl [(bd 0, .inr (8, [.ref (bd 1), .ref (bd 2), .ref (bd 3), .ref (bd 4), .ref (bd 5), .ref (bd 6), .ref (bd 7), .int (iI (cn)), .ref (bd 8), .int (iI (mp)), .ref (bd 9), .int (iI (ty)), .int (iI (gkI 1 1 1)), .ref (bd 10), .ref (bd 11), .int (iI (sp)), .int (iI (ta)), .int (iI (ke)), .int (iI (on)), .int (iI (tw))])), (bd 1, .inl (cZ, 80, .inl (iA (Ir)))), (bd 2, .inl (cI, 160, .inl (iA (Vm))))] H := hP
        have hD : va_D AA [(bd 0, .inr (8, [.ref (bd 1), .ref (bd 2), .ref (bd 3), .ref (bd 4), .ref (bd 5), .ref (bd 6), .ref (bd 7), .int (iI (cn)), .ref (bd 8), .int (iI (mp)), .ref (bd 9), .int (iI (ty)), .int (iI (gkI 1 1 1)), .ref (bd 10), .ref (bd 11), .int (iI (sp)), .int (iI (ta)), .int (iI (ke)), .int (iI (on)), .int (iI (tw))])), (bd 1, .inl (cZ, 80, .inl (iA (Ir)))), (bd 2, .inl (cI, 160, .inl (iA (Vm))))] := hD
        try dsimp only at hq_13
        obtain ⟨hv9, hq_13⟩ := hq_13
        have hv9 := hv9.symm
        subst hv9
        have hth : gkI (1) (1) (1) = 0 := rfl
        rw [hth] at hP hD
        have hP : va_P D vwCl [(bd 0, .inr (8, [.ref (bd 1), .ref (bd 2), .ref (bd 3), .ref (bd 4), .ref (bd 5), .ref (bd 6), .ref (bd 7), .int (iI (cn)), .ref (bd 8), .int (iI (mp)), .ref (bd 9), .int (iI (ty)), .int (iI (0)), .ref (bd 10), .ref (bd 11), .int (iI (sp)), .int (iI (ta)), .int (iI (ke)), .int (iI (on)), .int (iI (tw))])), (bd 1, .inl (cZ, 80, .inl (iA (Ir)))), (bd 2, .inl (cI, 160, .inl (iA (Vm))))] H := hP
        have hD : va_D AA [(bd 0, .inr (8, [.ref (bd 1), .ref (bd 2), .ref (bd 3), .ref (bd 4), .ref (bd 5), .ref (bd 6), .ref (bd 7), .int (iI (cn)), .ref (bd 8), .int (iI (mp)), .ref (bd 9), .int (iI (ty)), .int (iI (0)), .ref (bd 10), .ref (bd 11), .int (iI (sp)), .int (iI (ta)), .int (iI (ke)), .int (iI (on)), .int (iI (tw))])), (bd 1, .inl (cZ, 80, .inl (iA (Ir)))), (bd 2, .inl (cI, 160, .inl (iA (Vm))))] := hD
        rw [show bI (gkI (1) (1) (1) = 0) = 1 from bI_t hth]
        refine z_if_ne (tgt := 37) hx hb dX8_value_32 (by decide) ⟨by omega, by omega⟩ (fun c_15 => ?_) (fun c_15 => ?_)
        · refine lv_aload_n hx hb dX8_value_37 rfl (lv_at hl 0 rfl) ?_
          refine va_get (D := D) (ci := 8) (v := .ref (bd 1)) (C := RX8) (T := TX8) (N := 20) hx hb hts (fun _ h => List.mem_cons_of_mem _ (List.mem_append_right _ (h))) hown hK.1 hP 0 rfl rfl 0 (by decide) (hts (.fieldLink RX8 7 "ForeignKeyStoreModel" "isRow" "[Z") (List.mem_of_getElem? (i := 1) rfl)) (fun _ h9 => h9) rfl dX8_value_38 ?_
          refine lv_iload_n hx hb dX8_value_41 rfl (lv_at hl 1 rfl) ?_
          refine lv_iload_n hx hb dX8_value_42 rfl (lv_at hl 2 rfl) ?_
          refine z_roS (As := [.int (iI (t)), .int (iI (k))]) (rest := [.ref (bd 1)]) ⟨hx, hb, hml, hown, hts⟩ (c_X8_row l D cI cZ cC (t) (k) ) (va_cwS 2 hts gX8_value_X8_row rfl rfl rfl (by decide +kernel) ⟨Nat.le_of_ble_eq_true rfl, Nat.le_of_ble_eq_true rfl⟩) hP hK [] rfl rfl hl.1 rfl (Nat.le_of_ble_eq_true rfl) dX8_value_43 ⟨by omega, by omega⟩ ?_
          refine z_zald hx hb hK.1 hP 1 1 rfl rfl (by omega) (by decide) dX8_value_46 ?_
          have hb_16 := g_Ir ((20 * t + k)) (by omega) (by omega)
          refine z_if_eq (tgt := 67) hx hb dX8_value_47 (by decide) ⟨by omega, by omega⟩ (fun c_17 => ?_) (fun c_17 => ?_)
          · refine lv_bipush (v := iI (-2)) hx hb dX8_value_67 (by decide) ?_
            refine z_mret (0) hx hb hr hlocks dX8_value_69 hP hD hS ?_
            refine ⟨by symm; first | (rw [goK_1 (by omega)]; done) | (rw [goK_2 (by omega) (by omega)]; done) | (rw [goK_3 (by omega) (by omega) (by omega)]; done) | (rw [goK_0 (by omega) (by omega) (by omega)]; done) | (rw [goK_0 (by omega) (by omega) trivial]; done) | (rw [goK_0 (by omega) trivial trivial]; done), ⟨by omega, by omega⟩, fun h => ?_⟩
            have h9 := rV_c g_R (r := 20 * t + k) (c := c) (by omega) (by omega)
            rw [show t * 20 + k = 20 * t + k by omega]
            omega
          · refine lv_aload_n hx hb dX8_value_50 rfl (lv_at hl 0 rfl) ?_
            refine va_get (D := D) (ci := 8) (v := .ref (bd 2)) (C := RX8) (T := TX8) (N := 20) hx hb hts (fun _ h => List.mem_cons_of_mem _ (List.mem_append_right _ (h))) hown hK.1 hP 0 rfl rfl 1 (by decide) (hts (.fieldLink RX8 13 "ForeignKeyStoreModel" "values" "[I") (List.mem_of_getElem? (i := 2) rfl)) (fun _ h9 => h9) rfl dX8_value_51 ?_
            refine lv_iconst (v := iI (2)) hx hb dX8_value_54 rfl ?_
            refine lv_iload_n hx hb dX8_value_55 rfl (lv_at hl 1 rfl) ?_
            refine lv_iload_n hx hb dX8_value_56 rfl (lv_at hl 2 rfl) ?_
            refine z_roS (As := [.int (iI (t)), .int (iI (k))]) (rest := [.int (iI (2)), .ref (bd 2)]) ⟨hx, hb, hml, hown, hts⟩ (c_X8_row l D cI cZ cC (t) (k) ) (va_cwS 2 hts gX8_value_X8_row rfl rfl rfl (by decide +kernel) ⟨Nat.le_of_ble_eq_true rfl, Nat.le_of_ble_eq_true rfl⟩) hP hK [] rfl rfl hl.1 rfl (Nat.le_of_ble_eq_true rfl) dX8_value_57 ⟨by omega, by omega⟩ ?_
            refine z_imul hx hb dX8_value_60 ?_
            refine lv_iload_n hx hb dX8_value_61 rfl (lv_at hl 3 rfl) ?_
            refine z_iadd hx hb dX8_value_62 ?_
            refine z_iald hx hb hK.1 hP 2 0 rfl rfl (by omega) (by decide) dX8_value_63 ?_
            have hb_18 := g_Vm (((2 * (20 * t + k)) + c)) (by omega) (by omega)
            refine lv_goto (tgt := 69) hx hb dX8_value_64 (by decide) ?_
            refine z_mret (0) hx hb hr hlocks dX8_value_69 hP hD hS ?_
            refine ⟨by symm; first | (rw [goK_1 (by omega)]; done) | (rw [goK_2 (by omega) (by omega)]; done) | (rw [goK_3 (by omega) (by omega) (by omega)]; done) | (rw [goK_0 (by omega) (by omega) (by omega)]; done) | (rw [goK_0 (by omega) (by omega) trivial]; done) | (rw [goK_0 (by omega) trivial trivial]; done), ⟨by omega, by omega⟩, fun h => ?_⟩
            have h9 := rV_c g_R (r := 20 * t + k) (c := c) (by omega) (by omega)
            rw [show t * 20 + k = 20 * t + k by omega]
            omega
        · exfalso
          omega

set_option maxHeartbeats 600000 in
set_option maxRecDepth 100000 in
theorem c_X8_rows (l : Launch) (D : va_G) (cI cZ cC : ClassId) (sz : Nat) (bd : Nat → Nat) (cn mp ty th sp ta ke on tw : Int) (Ir Vm V : Int → Int) (t : Int) (g_R : rV Ir Vm V) (g_t : ib t) : zMi l yX8_rows wsX8_rows ({ frames := 2, cells := 0, slots := 0, locals := 42 }) D cI cZ cC [(bd 0, .inr (8, [.ref (bd 1), .ref (bd 2), .ref (bd 3), .ref (bd 4), .ref (bd 5), .ref (bd 6), .ref (bd 7), .int (iI (cn)), .ref (bd 8), .int (iI (mp)), .ref (bd 9), .int (iI (ty)), .int (iI (th)), .ref (bd 10), .ref (bd 11), .int (iI (sp)), .int (iI (ta)), .int (iI (ke)), .int (iI (on)), .int (iI (tw))])), (bd 1, .inl (cZ, 80, .inl (iA (Ir)))), (bd 2, .inl (cI, 160, .inl (iA (Vm))))] sz [.ref (bd 0), .int (iI (t))] (0) (0) (fun (u : Int) => [(bd 0, .inr (8, [.ref (bd 1), .ref (bd 2), .ref (bd 3), .ref (bd 4), .ref (bd 5), .ref (bd 6), .ref (bd 7), .int (iI (cn)), .ref (bd 8), .int (iI (mp)), .ref (bd 9), .int (iI (ty)), .int (iI (u)), .ref (bd 10), .ref (bd 11), .int (iI (sp)), .int (iI (ta)), .int (iI (ke)), .int (iI (on)), .int (iI (tw))])), (bd 1, .inl (cZ, 80, .inl (iA (Ir)))), (bd 2, .inl (cI, 160, .inl (iA (Vm))))]) (fun v (u : Int) => u = goK (0 ≤ t ∧ t < 4) (True) (True) ∧ ib v ∧ (u = 0 → v = sumN (fun k => bI (hasR V (t * 20 + k))) 20)) := by
  refine z_ofMi (cc := cX8_rows) (maxL := 4) (ret := (some .int)) RX8 (by decide +kernel) rfl rfl (Nat.le_of_ble_eq_true rfl) ?_
  intro p0 en0 s0 m0 args0 below0 meth0 c0 ls AA hx hb hr hlocks hml hown hts hP hD hS hA hK hl
  have hl : lv_has ls 4 [(0, .ref (bd 0)), (1, .int (iI (t)))] := hl
  obtain ⟨H, hH⟩ : ∃ H, H = s0.heap := ⟨_, rfl⟩
  obtain ⟨locs, hlo⟩ : ∃ locs : List Loc, locs = [] := ⟨_, rfl⟩
  have hP : va_P D vwCl [(bd 0, .inr (8, [.ref (bd 1), .ref (bd 2), .ref (bd 3), .ref (bd 4), .ref (bd 5), .ref (bd 6), .ref (bd 7), .int (iI (cn)), .ref (bd 8), .int (iI (mp)), .ref (bd 9), .int (iI (ty)), .int (iI (th)), .ref (bd 10), .ref (bd 11), .int (iI (sp)), .int (iI (ta)), .int (iI (ke)), .int (iI (on)), .int (iI (tw))])), (bd 1, .inl (cZ, 80, .inl (iA (Ir)))), (bd 2, .inl (cI, 160, .inl (iA (Vm))))] H := by rw [hH]; exact hP
  have hS : va_S AA s0.heap H locs := by rw [hH, hlo]; exact hS
  suffices hW : W p0 l en0 (headSpec wsX8_rows ({ frames := 2, cells := 0, slots := 0, locals := 42 })).room s0 m0 args0 below0 meth0 c0 H locs 0 0 (QMi below0 D ((fun (u : Int) => [(bd 0, .inr (8, [.ref (bd 1), .ref (bd 2), .ref (bd 3), .ref (bd 4), .ref (bd 5), .ref (bd 6), .ref (bd 7), .int (iI (cn)), .ref (bd 8), .int (iI (mp)), .ref (bd 9), .int (iI (ty)), .int (iI (u)), .ref (bd 10), .ref (bd 11), .int (iI (sp)), .int (iI (ta)), .int (iI (ke)), .int (iI (on)), .int (iI (tw))])), (bd 1, .inl (cZ, 80, .inl (iA (Ir)))), (bd 2, .inl (cI, 160, .inl (iA (Vm))))])) (fun v (u : Int) => u = goK (0 ≤ t ∧ t < 4) (True) (True) ∧ ib v ∧ (u = 0 → v = sumN (fun k => bI (hasR V (t * 20 + k))) 20)) AA args0 s0 (0) (0)) (F0 m0 0 ls []) by rw [hH, hlo] at hW; exact hW
  have g_Ir := rV_01 g_R
  refine lv_aload_n hx hb dX8_rows_0 rfl (lv_at hl 0 rfl) ?_
  refine lv_iload_n hx hb dX8_rows_1 rfl (lv_at hl 1 rfl) ?_
  refine z_roS (As := [.int (iI (t))]) (rest := [.ref (bd 0)]) ⟨hx, hb, hml, hown, hts⟩ (c_X8_isTable l D cI cZ cC (t) (by first | assumption | omega)) (va_cwS 1 hts gX8_rows_X8_isTable rfl rfl rfl (by decide +kernel) ⟨Nat.le_of_ble_eq_true rfl, Nat.le_of_ble_eq_true rfl⟩) hP hK [] rfl rfl hl.1 rfl (Nat.le_of_ble_eq_true rfl) dX8_rows_2 ⟨by omega, by omega⟩ ?_
  refine lv_iconst (v := iI (1)) hx hb dX8_rows_5 rfl ?_
  refine lv_iconst (v := iI (1)) hx hb dX8_rows_6 rfl ?_
  by_cases c_1 : (0 ≤ t ∧ t ≤ 3)
  · rw [bI_t c_1]
    refine z_muV (As := [.int (iI (1)), .int (iI (1)), .int (iI (1))]) (rest := []) (wr := [(bd 1, .inl (cZ, 80, .inl (iA (Ir)))), (bd 2, .inl (cI, 160, .inl (iA (Vm))))]) (ws2 := (fun (u : Unit) => [(bd 0, .inr (8, [.ref (bd 1), .ref (bd 2), .ref (bd 3), .ref (bd 4), .ref (bd 5), .ref (bd 6), .ref (bd 7), .int (iI (cn)), .ref (bd 8), .int (iI (mp)), .ref (bd 9), .int (iI (ty)), .int (iI (gkI 1 1 1)), .ref (bd 10), .ref (bd 11), .int (iI (sp)), .int (iI (ta)), .int (iI (ke)), .int (iI (on)), .int (iI (tw))])), (bd 1, .inl (cZ, 80, .inl (iA (Ir)))), (bd 2, .inl (cI, 160, .inl (iA (Vm))))])) ⟨hx, hb, hml, hown, hts⟩ (c_X8_goes l D cI cZ cC H.size (bd) (cn) (mp) (ty) (th) (sp) (ta) (ke) (on) (tw) (1) (1) (1) (by first | assumption | omega) (by first | assumption | omega) (by first | assumption | omega)) (cwV 3 hts gX8_rows_X8_goes rfl rfl rfl (by decide +kernel) ⟨Nat.le_of_ble_eq_true rfl, Nat.le_of_ble_eq_true rfl⟩) hP hD hS hA hK [0] [1, 2] [2, 0, 1] rfl (by decide) rfl (by decide) (by decide) (by decide) (fun _ => rfl) 0 8 rfl rfl rfl rfl hl.1 rfl (Nat.le_of_ble_eq_true rfl) dX8_rows_7 ⟨by omega, by omega⟩ (fun r_3 u H locs hq_2 hP hD hS => ?_)
    have hP : va_P D vwCl [(bd 0, .inr (8, [.ref (bd 1), .ref (bd 2), .ref (bd 3), .ref (bd 4), .ref (bd 5), .ref (bd 6), .ref (bd 7), .int (iI (cn)), .ref (bd 8), .int (iI (mp)), .ref (bd 9), .int (iI (ty)), .int (iI (gkI 1 1 1)), .ref (bd 10), .ref (bd 11), .int (iI (sp)), .int (iI (ta)), .int (iI (ke)), .int (iI (on)), .int (iI (tw))])), (bd 1, .inl (cZ, 80, .inl (iA (Ir)))), (bd 2, .inl (cI, 160, .inl (iA (Vm))))] H := hP
    have hD : va_D AA [(bd 0, .inr (8, [.ref (bd 1), .ref (bd 2), .ref (bd 3), .ref (bd 4), .ref (bd 5), .ref (bd 6), .ref (bd 7), .int (iI (cn)), .ref (bd 8), .int (iI (mp)), .ref (bd 9), .int (iI (ty)), .int (iI (gkI 1 1 1)), .ref (bd 10), .ref (bd 11), .int (iI (sp)), .int (iI (ta)), .int (iI (ke)), .int (iI (on)), .int (iI (tw))])), (bd 1, .inl (cZ, 80, .inl (iA (Ir)))), (bd 2, .inl (cI, 160, .inl (iA (Vm))))] := hD
    try dsimp only at hq_2
    obtain ⟨hv9, hq_2⟩ := hq_2
    have hv9 := hv9.symm
    subst hv9
    have hth : gkI (1) (1) (1) = 0 := rfl
    rw [hth] at hP hD
    have hP : va_P D vwCl [(bd 0, .inr (8, [.ref (bd 1), .ref (bd 2), .ref (bd 3), .ref (bd 4), .ref (bd 5), .ref (bd 6), .ref (bd 7), .int (iI (cn)), .ref (bd 8), .int (iI (mp)), .ref (bd 9), .int (iI (ty)), .int (iI (0)), .ref (bd 10), .ref (bd 11), .int (iI (sp)), .int (iI (ta)), .int (iI (ke)), .int (iI (on)), .int (iI (tw))])), (bd 1, .inl (cZ, 80, .inl (iA (Ir)))), (bd 2, .inl (cI, 160, .inl (iA (Vm))))] H := hP
    have hD : va_D AA [(bd 0, .inr (8, [.ref (bd 1), .ref (bd 2), .ref (bd 3), .ref (bd 4), .ref (bd 5), .ref (bd 6), .ref (bd 7), .int (iI (cn)), .ref (bd 8), .int (iI (mp)), .ref (bd 9), .int (iI (ty)), .int (iI (0)), .ref (bd 10), .ref (bd 11), .int (iI (sp)), .int (iI (ta)), .int (iI (ke)), .int (iI (on)), .int (iI (tw))])), (bd 1, .inl (cZ, 80, .inl (iA (Ir)))), (bd 2, .inl (cI, 160, .inl (iA (Vm))))] := hD
    rw [show bI (gkI (1) (1) (1) = 0) = 1 from bI_t hth]
    refine z_if_ne (tgt := 15) hx hb dX8_rows_10 (by decide) ⟨by omega, by omega⟩ (fun c_4 => ?_) (fun c_4 => ?_)
    · refine lv_iconst (v := iI (0)) hx hb dX8_rows_15 rfl ?_
      refine lv_istore_n (lv' := [(2, .int (iI (0))), (0, .ref (bd 0)), (1, .int (iI (t)))]) hx hb dX8_rows_16 rfl hl (by decide) rfl (fun ls hl => ?_)
      refine lv_iconst (v := iI (0)) hx hb dX8_rows_17 rfl ?_
      refine lv_istore_n (lv' := [(3, .int (iI (0))), (2, .int (iI (0))), (0, .ref (bd 0)), (1, .int (iI (t)))]) hx hb dX8_rows_18 rfl hl (by decide) rfl (fun ls hl => ?_)
      have loop19 : ∀ (fu : Nat) (i : Nat) (cnt : Int), (g_i : i ≤ 20) → (g_n : 20 < i + fu) → (g_c : cnt = sumN (fun k => bI (hasR V (t * 20 + k))) i) → (g_ci : 0 ≤ cnt ∧ cnt ≤ (i : Int)) → ∀ (H : Heap) (locs : List Loc), va_P D vwCl [(bd 0, .inr (8, [.ref (bd 1), .ref (bd 2), .ref (bd 3), .ref (bd 4), .ref (bd 5), .ref (bd 6), .ref (bd 7), .int (iI (cn)), .ref (bd 8), .int (iI (mp)), .ref (bd 9), .int (iI (ty)), .int (iI (0)), .ref (bd 10), .ref (bd 11), .int (iI (sp)), .int (iI (ta)), .int (iI (ke)), .int (iI (on)), .int (iI (tw))])), (bd 1, .inl (cZ, 80, .inl (iA (Ir)))), (bd 2, .inl (cI, 160, .inl (iA (Vm))))] H → va_D AA [(bd 0, .inr (8, [.ref (bd 1), .ref (bd 2), .ref (bd 3), .ref (bd 4), .ref (bd 5), .ref (bd 6), .ref (bd 7), .int (iI (cn)), .ref (bd 8), .int (iI (mp)), .ref (bd 9), .int (iI (ty)), .int (iI (0)), .ref (bd 10), .ref (bd 11), .int (iI (sp)), .int (iI (ta)), .int (iI (ke)), .int (iI (on)), .int (iI (tw))])), (bd 1, .inl (cZ, 80, .inl (iA (Ir)))), (bd 2, .inl (cI, 160, .inl (iA (Vm))))] → va_S AA s0.heap H locs → ∀ ls : Array Slot, lv_has ls 4 [(3, .int (iI ((i : Int)))), (2, .int (iI (cnt))), (0, .ref (bd 0)), (1, .int (iI (t)))] → W p0 l en0 (headSpec wsX8_rows ({ frames := 2, cells := 0, slots := 0, locals := 42 })).room s0 m0 args0 below0 meth0 c0 H locs 0 0 (QMi below0 D ((fun (u : Int) => [(bd 0, .inr (8, [.ref (bd 1), .ref (bd 2), .ref (bd 3), .ref (bd 4), .ref (bd 5), .ref (bd 6), .ref (bd 7), .int (iI (cn)), .ref (bd 8), .int (iI (mp)), .ref (bd 9), .int (iI (ty)), .int (iI (u)), .ref (bd 10), .ref (bd 11), .int (iI (sp)), .int (iI (ta)), .int (iI (ke)), .int (iI (on)), .int (iI (tw))])), (bd 1, .inl (cZ, 80, .inl (iA (Ir)))), (bd 2, .inl (cI, 160, .inl (iA (Vm))))])) (fun v (u : Int) => u = goK (0 ≤ t ∧ t < 4) (True) (True) ∧ ib v ∧ (u = 0 → v = sumN (fun k => bI (hasR V (t * 20 + k))) 20)) AA args0 s0 (0) (0)) (F0 m0 19 ls []) := by
        intro fu
        induction fu with
        | zero => intro i cnt g_i g_n g_c g_ci H locs hP hD hS ls hl; exfalso; omega
        | succ fu ih19 =>
          intro i cnt g_i g_n g_c g_ci H locs hP hD hS ls hl
          refine lv_iload_n hx hb dX8_rows_19 rfl (lv_at hl 0 rfl) ?_
          refine lv_bipush (v := iI (20)) hx hb dX8_rows_20 (by decide) ?_
          refine z_icmp_ge (tgt := 52) hx hb dX8_rows_22 (by decide) ⟨⟨by omega, by omega⟩, ⟨by omega, by omega⟩⟩ (fun c_5 => ?_) (fun c_5 => ?_)
          · refine lv_iload_n hx hb dX8_rows_52 rfl (lv_at hl 1 rfl) ?_
            refine z_mret (0) hx hb hr hlocks dX8_rows_53 hP hD hS ?_
            refine ⟨by symm; first | (rw [goK_1 (by omega)]; done) | (rw [goK_2 (by omega) (by omega)]; done) | (rw [goK_3 (by omega) (by omega) (by omega)]; done) | (rw [goK_0 (by omega) (by omega) (by omega)]; done) | (rw [goK_0 (by omega) (by omega) trivial]; done) | (rw [goK_0 (by omega) trivial trivial]; done), ⟨by omega, by omega⟩, fun h => ?_⟩
            rw [g_c, show i = 20 by omega]
          · refine lv_iload_n hx hb dX8_rows_25 rfl (lv_at hl 1 rfl) ?_
            refine lv_aload_n hx hb dX8_rows_26 rfl (lv_at hl 2 rfl) ?_
            refine va_get (D := D) (ci := 8) (v := .ref (bd 1)) (C := RX8) (T := TX8) (N := 20) hx hb hts (fun _ h => List.mem_cons_of_mem _ (List.mem_append_right _ (h))) hown hK.1 hP 0 rfl rfl 0 (by decide) (hts (.fieldLink RX8 7 "ForeignKeyStoreModel" "isRow" "[Z") (List.mem_of_getElem? (i := 1) rfl)) (fun _ h9 => h9) rfl dX8_rows_27 ?_
            refine lv_iload_n hx hb dX8_rows_30 rfl (lv_at hl 3 rfl) ?_
            refine lv_iload_n hx hb dX8_rows_31 rfl (lv_at hl 0 rfl) ?_
            refine z_roS (As := [.int (iI (t)), .int (iI ((i : Int)))]) (rest := [.ref (bd 1), .int (iI (cnt))]) ⟨hx, hb, hml, hown, hts⟩ (c_X8_row l D cI cZ cC (t) ((i : Int)) ) (va_cwS 2 hts gX8_rows_X8_row rfl rfl rfl (by decide +kernel) ⟨Nat.le_of_ble_eq_true rfl, Nat.le_of_ble_eq_true rfl⟩) hP hK [] rfl rfl hl.1 rfl (Nat.le_of_ble_eq_true rfl) dX8_rows_32 ⟨by omega, by omega⟩ ?_
            refine z_zald hx hb hK.1 hP 1 1 rfl rfl (by omega) (by decide) dX8_rows_35 ?_
            have hb_6 := g_Ir ((20 * t + ((i : Int)))) (by omega) (by omega)
            refine z_if_eq (tgt := 43) hx hb dX8_rows_36 (by decide) ⟨by omega, by omega⟩ (fun c_7 => ?_) (fun c_7 => ?_)
            · refine lv_iconst (v := iI (0)) hx hb dX8_rows_43 rfl ?_
              refine z_iadd hx hb dX8_rows_44 ?_
              refine lv_istore_n (lv' := [(2, .int (iI ((cnt + 0)))), (3, .int (iI ((i : Int)))), (0, .ref (bd 0)), (1, .int (iI (t)))]) hx hb dX8_rows_45 rfl hl (by decide) rfl (fun ls hl => ?_)
              refine lv_iinc (v := iI ((i : Int) + 1)) (lv' := [(3, .int (iI ((i : Int) + 1))), (2, .int (iI ((cnt + 0)))), (0, .ref (bd 0)), (1, .int (iI (t)))]) hx hb dX8_rows_46 hl (k := 1) rfl (iI_add ((i : Int)) (1)) (by decide) rfl (fun ls hl => ?_)
              refine lv_goto (tgt := 19) hx hb dX8_rows_49 (by decide) ?_
              exact ih19 (i + 1) _ (by omega) (by omega) (by rw [sumN, ← g_c, bI_f (fun q => by have := (rV_has g_R (r := t * 20 + (i : Int)) (by omega)).1 q; rw [show t * 20 + (i : Int) = 20 * t + (i : Int) by omega] at this; omega)]; try omega) (by omega) _ _ hP hD hS _ (lv_sub hl [0, 1, 2, 3] rfl)
            · refine lv_iconst (v := iI (1)) hx hb dX8_rows_39 rfl ?_
              refine lv_goto (tgt := 44) hx hb dX8_rows_40 (by decide) ?_
              refine z_iadd hx hb dX8_rows_44 ?_
              refine lv_istore_n (lv' := [(2, .int (iI ((cnt + 1)))), (3, .int (iI ((i : Int)))), (0, .ref (bd 0)), (1, .int (iI (t)))]) hx hb dX8_rows_45 rfl hl (by decide) rfl (fun ls hl => ?_)
              refine lv_iinc (v := iI ((i : Int) + 1)) (lv' := [(3, .int (iI ((i : Int) + 1))), (2, .int (iI ((cnt + 1)))), (0, .ref (bd 0)), (1, .int (iI (t)))]) hx hb dX8_rows_46 hl (k := 1) rfl (iI_add ((i : Int)) (1)) (by decide) rfl (fun ls hl => ?_)
              refine lv_goto (tgt := 19) hx hb dX8_rows_49 (by decide) ?_
              exact ih19 (i + 1) _ (by omega) (by omega) (by rw [sumN, ← g_c, bI_t ((rV_has g_R (r := t * 20 + (i : Int)) (by omega)).2 (by rw [show t * 20 + (i : Int) = 20 * t + (i : Int) by omega]; have := rV_01 g_R (20 * t + (i : Int)) (by omega) (by omega); omega))]; try omega) (by omega) _ _ hP hD hS _ (lv_sub hl [0, 1, 2, 3] rfl)
      exact loop19 21 0 0 (by omega) (by omega) rfl (by omega) _ _ hP hD hS _ (lv_sub hl [0, 1, 2, 3] rfl)
    · exfalso
      omega
  · rw [bI_f c_1]
    refine z_muV (As := [.int (iI (0)), .int (iI (1)), .int (iI (1))]) (rest := []) (wr := [(bd 1, .inl (cZ, 80, .inl (iA (Ir)))), (bd 2, .inl (cI, 160, .inl (iA (Vm))))]) (ws2 := (fun (u : Unit) => [(bd 0, .inr (8, [.ref (bd 1), .ref (bd 2), .ref (bd 3), .ref (bd 4), .ref (bd 5), .ref (bd 6), .ref (bd 7), .int (iI (cn)), .ref (bd 8), .int (iI (mp)), .ref (bd 9), .int (iI (ty)), .int (iI (gkI 0 1 1)), .ref (bd 10), .ref (bd 11), .int (iI (sp)), .int (iI (ta)), .int (iI (ke)), .int (iI (on)), .int (iI (tw))])), (bd 1, .inl (cZ, 80, .inl (iA (Ir)))), (bd 2, .inl (cI, 160, .inl (iA (Vm))))])) ⟨hx, hb, hml, hown, hts⟩ (c_X8_goes l D cI cZ cC H.size (bd) (cn) (mp) (ty) (th) (sp) (ta) (ke) (on) (tw) (0) (1) (1) (by first | assumption | omega) (by first | assumption | omega) (by first | assumption | omega)) (cwV 3 hts gX8_rows_X8_goes rfl rfl rfl (by decide +kernel) ⟨Nat.le_of_ble_eq_true rfl, Nat.le_of_ble_eq_true rfl⟩) hP hD hS hA hK [0] [1, 2] [2, 0, 1] rfl (by decide) rfl (by decide) (by decide) (by decide) (fun _ => rfl) 0 8 rfl rfl rfl rfl hl.1 rfl (Nat.le_of_ble_eq_true rfl) dX8_rows_7 ⟨by omega, by omega⟩ (fun r_9 u H locs hq_8 hP hD hS => ?_)
    have hP : va_P D vwCl [(bd 0, .inr (8, [.ref (bd 1), .ref (bd 2), .ref (bd 3), .ref (bd 4), .ref (bd 5), .ref (bd 6), .ref (bd 7), .int (iI (cn)), .ref (bd 8), .int (iI (mp)), .ref (bd 9), .int (iI (ty)), .int (iI (gkI 0 1 1)), .ref (bd 10), .ref (bd 11), .int (iI (sp)), .int (iI (ta)), .int (iI (ke)), .int (iI (on)), .int (iI (tw))])), (bd 1, .inl (cZ, 80, .inl (iA (Ir)))), (bd 2, .inl (cI, 160, .inl (iA (Vm))))] H := hP
    have hD : va_D AA [(bd 0, .inr (8, [.ref (bd 1), .ref (bd 2), .ref (bd 3), .ref (bd 4), .ref (bd 5), .ref (bd 6), .ref (bd 7), .int (iI (cn)), .ref (bd 8), .int (iI (mp)), .ref (bd 9), .int (iI (ty)), .int (iI (gkI 0 1 1)), .ref (bd 10), .ref (bd 11), .int (iI (sp)), .int (iI (ta)), .int (iI (ke)), .int (iI (on)), .int (iI (tw))])), (bd 1, .inl (cZ, 80, .inl (iA (Ir)))), (bd 2, .inl (cI, 160, .inl (iA (Vm))))] := hD
    try dsimp only at hq_8
    obtain ⟨hv9, hq_8⟩ := hq_8
    have hv9 := hv9.symm
    subst hv9
    have hth : gkI (0) (1) (1) = 1 := rfl
    rw [hth] at hP hD
    have hP : va_P D vwCl [(bd 0, .inr (8, [.ref (bd 1), .ref (bd 2), .ref (bd 3), .ref (bd 4), .ref (bd 5), .ref (bd 6), .ref (bd 7), .int (iI (cn)), .ref (bd 8), .int (iI (mp)), .ref (bd 9), .int (iI (ty)), .int (iI (1)), .ref (bd 10), .ref (bd 11), .int (iI (sp)), .int (iI (ta)), .int (iI (ke)), .int (iI (on)), .int (iI (tw))])), (bd 1, .inl (cZ, 80, .inl (iA (Ir)))), (bd 2, .inl (cI, 160, .inl (iA (Vm))))] H := hP
    have hD : va_D AA [(bd 0, .inr (8, [.ref (bd 1), .ref (bd 2), .ref (bd 3), .ref (bd 4), .ref (bd 5), .ref (bd 6), .ref (bd 7), .int (iI (cn)), .ref (bd 8), .int (iI (mp)), .ref (bd 9), .int (iI (ty)), .int (iI (1)), .ref (bd 10), .ref (bd 11), .int (iI (sp)), .int (iI (ta)), .int (iI (ke)), .int (iI (on)), .int (iI (tw))])), (bd 1, .inl (cZ, 80, .inl (iA (Ir)))), (bd 2, .inl (cI, 160, .inl (iA (Vm))))] := hD
    rw [show bI (gkI (0) (1) (1) = 0) = 0 from bI_f (by rw [hth]; decide)]
    refine z_if_ne (tgt := 15) hx hb dX8_rows_10 (by decide) ⟨by omega, by omega⟩ (fun c_10 => ?_) (fun c_10 => ?_)
    · exfalso
      omega
    · refine lv_iconst (v := iI (0)) hx hb dX8_rows_13 rfl ?_
      refine z_mret (1) hx hb hr hlocks dX8_rows_14 hP hD hS ?_
      refine ⟨by symm; first | (rw [goK_1 (by omega)]; done) | (rw [goK_2 (by omega) (by omega)]; done) | (rw [goK_3 (by omega) (by omega) (by omega)]; done) | (rw [goK_0 (by omega) (by omega) (by omega)]; done) | (rw [goK_0 (by omega) (by omega) trivial]; done) | (rw [goK_0 (by omega) trivial trivial]; done), ⟨by omega, by omega⟩, fun h => ?_⟩
      exact absurd h (by decide)

