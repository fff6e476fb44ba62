set_option maxHeartbeats 600000 in
set_option maxRecDepth 100000 in
theorem c_X8_readsInsert (l : Launch) (D : va_G) (cI cZ cC : ClassId) (sz : Nat) (bd : Nat → Nat) (cn mp ty th sp ta ke on tw : Int) (Tx : Int → Int) (g_Tx : ∀ j : Int, 0 ≤ j → j < 80 → 0 ≤ Tx j ∧ Tx j < 128) (g_ty : 0 ≤ ty ∧ ty ≤ 80) (g_sp : 0 ≤ sp ∧ sp ≤ ty) : zMi l yX8_readsInsert wsX8_readsInsert ({ frames := 5, cells := 0, slots := 0, locals := 107 }) D cI cZ cC [(bd 0, .inr (8, [.ref (bd 1), .ref (bd 2), .ref (bd 3), .ref (bd 4), .ref (bd 5), .ref (bd 6), .ref (bd 7), .int (iI (cn)), .ref (bd 8), .int (iI (mp)), .ref (bd 9), .int (iI (ty)), .int (iI (th)), .ref (bd 10), .ref (bd 11), .int (iI (sp)), .int (iI (ta)), .int (iI (ke)), .int (iI (on)), .int (iI (tw))])), (bd 9, .inl (cC, 80, .inl (iA (Tx))))] sz [.ref (bd 0)] (0) (0) (fun (u : Int × Int × Int × Int × Int) => [(bd 0, .inr (8, [.ref (bd 1), .ref (bd 2), .ref (bd 3), .ref (bd 4), .ref (bd 5), .ref (bd 6), .ref (bd 7), .int (iI (cn)), .ref (bd 8), .int (iI (mp)), .ref (bd 9), .int (iI (ty)), .int (iI (th)), .ref (bd 10), .ref (bd 11), .int (iI (u.1)), .int (iI (u.2.1)), .int (iI (u.2.2.1)), .int (iI (u.2.2.2.1)), .int (iI (u.2.2.2.2))])), (bd 9, .inl (cC, 80, .inl (iA (Tx))))]) (fun v (u : Int × Int × Int × Int × Int) => v = (rG Tx ty [116, 44, 107, 44, 118, 44, 118] sp []).1 ∧ u.1 = (rG Tx ty [116, 44, 107, 44, 118, 44, 118] sp []).2.1 ∧ (v = 0 ∨ v = 1) ∧ (0 ≤ u.1 ∧ u.1 ≤ ty) ∧ (v = 1 → (rG Tx ty [116, 44, 107, 44, 118, 44, 118] sp []).2.2 = [u.2.1, u.2.2.1, u.2.2.2.1, u.2.2.2.2] ∧ 0 ≤ u.2.1 ∧ u.2.1 ≤ 3 ∧ 0 ≤ u.2.2.1 ∧ u.2.2.1 ≤ 19 ∧ -1 ≤ u.2.2.2.1 ∧ u.2.2.2.1 ≤ 19 ∧ -1 ≤ u.2.2.2.2 ∧ u.2.2.2.2 ≤ 19)) := by
  refine z_ofMi (cc := cX8_readsInsert) (maxL := 1) (ret := (some .boolean)) RX8 (by decide +kernel) rfl rfl (Nat.le_of_ble_eq_true rfl) ?_
  intro p0 en0 s0 m0 args0 below0 meth0 c0 ls AA hx hb hr hlocks hml hown hts hP hD hS hA hK hl
  have hl : lv_has ls 1 [(0, .ref (bd 0))] := hl
  obtain ⟨H, hH⟩ : ∃ H, H = s0.heap := ⟨_, rfl⟩
  obtain ⟨locs, hlo⟩ : ∃ locs : List Loc, locs = [] := ⟨_, rfl⟩
  have hP : va_P D vwCl [(bd 0, .inr (8, [.ref (bd 1), .ref (bd 2), .ref (bd 3), .ref (bd 4), .ref (bd 5), .ref (bd 6), .ref (bd 7), .int (iI (cn)), .ref (bd 8), .int (iI (mp)), .ref (bd 9), .int (iI (ty)), .int (iI (th)), .ref (bd 10), .ref (bd 11), .int (iI (sp)), .int (iI (ta)), .int (iI (ke)), .int (iI (on)), .int (iI (tw))])), (bd 9, .inl (cC, 80, .inl (iA (Tx))))] H := by rw [hH]; exact hP
  have hS : va_S AA s0.heap H locs := by rw [hH, hlo]; exact hS
  suffices hW : W p0 l en0 (headSpec wsX8_readsInsert ({ frames := 5, cells := 0, slots := 0, locals := 107 })).room s0 m0 args0 below0 meth0 c0 H locs 0 0 (QMi below0 D ((fun (u : Int × Int × Int × Int × Int) => [(bd 0, .inr (8, [.ref (bd 1), .ref (bd 2), .ref (bd 3), .ref (bd 4), .ref (bd 5), .ref (bd 6), .ref (bd 7), .int (iI (cn)), .ref (bd 8), .int (iI (mp)), .ref (bd 9), .int (iI (ty)), .int (iI (th)), .ref (bd 10), .ref (bd 11), .int (iI (u.1)), .int (iI (u.2.1)), .int (iI (u.2.2.1)), .int (iI (u.2.2.2.1)), .int (iI (u.2.2.2.2))])), (bd 9, .inl (cC, 80, .inl (iA (Tx))))])) (fun v (u : Int × Int × Int × Int × Int) => v = (rG Tx ty [116, 44, 107, 44, 118, 44, 118] sp []).1 ∧ u.1 = (rG Tx ty [116, 44, 107, 44, 118, 44, 118] sp []).2.1 ∧ (v = 0 ∨ v = 1) ∧ (0 ≤ u.1 ∧ u.1 ≤ ty) ∧ (v = 1 → (rG Tx ty [116, 44, 107, 44, 118, 44, 118] sp []).2.2 = [u.2.1, u.2.2.1, u.2.2.2.1, u.2.2.2.2] ∧ 0 ≤ u.2.1 ∧ u.2.1 ≤ 3 ∧ 0 ≤ u.2.2.1 ∧ u.2.2.1 ≤ 19 ∧ -1 ≤ u.2.2.2.1 ∧ u.2.2.2.1 ≤ 19 ∧ -1 ≤ u.2.2.2.2 ∧ u.2.2.2.2 ≤ 19)) AA args0 s0 (0) (0)) (F0 m0 0 ls []) by rw [hH, hlo] at hW; exact hW
  have e_a : rG Tx ty [116, 44, 107, 44, 118, 44, 118] sp [] = if (rG Tx ty [116, 44, 107] sp []).1 = 0 then rG Tx ty [116, 44, 107] sp [] else rG Tx ty [44, 118, 44, 118] (rG Tx ty [116, 44, 107] sp []).2.1 (rG Tx ty [116, 44, 107] sp []).2.2 := rG_app Tx ty [44, 118, 44, 118] [116, 44, 107] sp []
  have e_c : ∀ p : Int, vP Tx ty 99 p = rD Tx ty 1 p := fun _ => rfl
  refine lv_aload_n hx hb dX8_readsInsert_0 rfl (lv_at hl 0 rfl) ?_
  refine lv_aload_n hx hb dX8_readsInsert_1 rfl (lv_at hl 0 rfl) ?_
  refine z_muV (As := []) (rest := [.ref (bd 0)]) (wr := []) (ws2 := (fun (u : Int × Int × Int) => [(bd 0, .inr (8, [.ref (bd 1), .ref (bd 2), .ref (bd 3), .ref (bd 4), .ref (bd 5), .ref (bd 6), .ref (bd 7), .int (iI (cn)), .ref (bd 8), .int (iI (mp)), .ref (bd 9), .int (iI (ty)), .int (iI (th)), .ref (bd 10), .ref (bd 11), .int (iI (u.1)), .int (iI (u.2.1)), .int (iI (u.2.2)), .int (iI (on)), .int (iI (tw))])), (bd 9, .inl (cC, 80, .inl (iA (Tx))))])) ⟨hx, hb, hml, hown, hts⟩ (c_X8_readsRow l D cI cZ cC H.size (bd) (cn) (mp) (ty) (th) (sp) (ta) (ke) (on) (tw) (Tx) (by first | assumption | omega) (by first | assumption | omega) (by first | assumption | omega)) (cwV 0 hts gX8_readsInsert_X8_readsRow rfl rfl rfl (by decide +kernel) ⟨Nat.le_of_ble_eq_true rfl, Nat.le_of_ble_eq_true rfl⟩) hP hD hS hA hK [0, 1] [] [0, 1] rfl (by decide) rfl (by decide) (by decide) (by decide) (fun _ => rfl) 0 8 rfl rfl rfl rfl hl.1 rfl (Nat.le_of_ble_eq_true rfl) dX8_readsInsert_2 ⟨by omega, by omega⟩ (fun r_2 u H locs hq_1 hP hD hS => ?_)
  obtain ⟨sp_3, ta_4, ke_5⟩ := u
  have hP : va_P D vwCl [(bd 0, .inr (8, [.ref (bd 1), .ref (bd 2), .ref (bd 3), .ref (bd 4), .ref (bd 5), .ref (bd 6), .ref (bd 7), .int (iI (cn)), .ref (bd 8), .int (iI (mp)), .ref (bd 9), .int (iI (ty)), .int (iI (th)), .ref (bd 10), .ref (bd 11), .int (iI (sp_3)), .int (iI (ta_4)), .int (iI (ke_5)), .int (iI (on)), .int (iI (tw))])), (bd 9, .inl (cC, 80, .inl (iA (Tx))))] H := hP
  have hD : va_D AA [(bd 0, .inr (8, [.ref (bd 1), .ref (bd 2), .ref (bd 3), .ref (bd 4), .ref (bd 5), .ref (bd 6), .ref (bd 7), .int (iI (cn)), .ref (bd 8), .int (iI (mp)), .ref (bd 9), .int (iI (ty)), .int (iI (th)), .ref (bd 10), .ref (bd 11), .int (iI (sp_3)), .int (iI (ta_4)), .int (iI (ke_5)), .int (iI (on)), .int (iI (tw))])), (bd 9, .inl (cC, 80, .inl (iA (Tx))))] := hD
  try dsimp only at hq_1
  obtain ⟨h_r1, h_r2, h_r3, h_r4, h_r5⟩ := hq_1
  refine z_if_eq (tgt := 24) hx hb dX8_readsInsert_5 (by decide) ⟨by omega, by omega⟩ (fun c_6 => ?_) (fun c_6 => ?_)
  · refine lv_bipush (v := iI (-2)) hx hb dX8_readsInsert_24 (by decide) ?_
    refine va_put (D := D) (ci := 8) (v := .int (iI ((-2)))) (ty := .int) (C := RX8) (T := TX8) (N := 20) hx hb hts (fun _ h => List.mem_cons_of_mem _ (List.mem_append_right _ (h))) tyX8 tyX8_ok nmX8 hown hK.1 hP hD hS 0 rfl rfl 18 (by decide) (hts (.fieldLink RX8 173 "ForeignKeyStoreModel" "one" "I") (List.mem_of_getElem? (i := 1) rfl)) (fun _ h9 => h9) rfl (by decide +kernel) rfl rfl (Nat.le_of_ble_eq_true rfl) dX8_readsInsert_26 (fun H locs hP hD hS => ?_)
    have hP : va_P D vwCl [(bd 0, .inr (8, [.ref (bd 1), .ref (bd 2), .ref (bd 3), .ref (bd 4), .ref (bd 5), .ref (bd 6), .ref (bd 7), .int (iI (cn)), .ref (bd 8), .int (iI (mp)), .ref (bd 9), .int (iI (ty)), .int (iI (th)), .ref (bd 10), .ref (bd 11), .int (iI (sp_3)), .int (iI (ta_4)), .int (iI (ke_5)), .int (iI ((-2))), .int (iI (tw))])), (bd 9, .inl (cC, 80, .inl (iA (Tx))))] H := hP
    have hD : va_D AA [(bd 0, .inr (8, [.ref (bd 1), .ref (bd 2), .ref (bd 3), .ref (bd 4), .ref (bd 5), .ref (bd 6), .ref (bd 7), .int (iI (cn)), .ref (bd 8), .int (iI (mp)), .ref (bd 9), .int (iI (ty)), .int (iI (th)), .ref (bd 10), .ref (bd 11), .int (iI (sp_3)), .int (iI (ta_4)), .int (iI (ke_5)), .int (iI ((-2))), .int (iI (tw))])), (bd 9, .inl (cC, 80, .inl (iA (Tx))))] := hD
    refine lv_aload_n hx hb dX8_readsInsert_29 rfl (lv_at hl 0 rfl) ?_
    refine lv_aload_n hx hb dX8_readsInsert_30 rfl (lv_at hl 0 rfl) ?_
    refine va_get (D := D) (ci := 8) (v := .int (iI ((-2)))) (C := RX8) (T := TX8) (N := 20) hx hb hts (fun _ h => List.mem_cons_of_mem _ (List.mem_append_right _ (h))) hown hK.1 hP 0 rfl rfl 18 (by decide) (hts (.fieldLink RX8 173 "ForeignKeyStoreModel" "one" "I") (List.mem_of_getElem? (i := 1) rfl)) (fun _ h9 => h9) rfl dX8_readsInsert_31 ?_
    refine lv_bipush (v := iI (-2)) hx hb dX8_readsInsert_34 (by decide) ?_
    refine z_icmp_eq (tgt := 55) hx hb dX8_readsInsert_36 (by decide) ⟨⟨by omega, by omega⟩, ⟨by omega, by omega⟩⟩ (fun c_7 => ?_) (fun c_7 => ?_)
    · refine lv_bipush (v := iI (-2)) hx hb dX8_readsInsert_55 (by decide) ?_
      refine va_put (D := D) (ci := 8) (v := .int (iI ((-2)))) (ty := .int) (C := RX8) (T := TX8) (N := 20) hx hb hts (fun _ h => List.mem_cons_of_mem _ (List.mem_append_right _ (h))) tyX8 tyX8_ok nmX8 hown hK.1 hP hD hS 0 rfl rfl 19 (by decide) (hts (.fieldLink RX8 176 "ForeignKeyStoreModel" "two" "I") (List.mem_of_getElem? (i := 2) rfl)) (fun _ h9 => h9) rfl (by decide +kernel) rfl rfl (Nat.le_of_ble_eq_true rfl) dX8_readsInsert_57 (fun H locs hP hD hS => ?_)
      have hP : va_P D vwCl [(bd 0, .inr (8, [.ref (bd 1), .ref (bd 2), .ref (bd 3), .ref (bd 4), .ref (bd 5), .ref (bd 6), .ref (bd 7), .int (iI (cn)), .ref (bd 8), .int (iI (mp)), .ref (bd 9), .int (iI (ty)), .int (iI (th)), .ref (bd 10), .ref (bd 11), .int (iI (sp_3)), .int (iI (ta_4)), .int (iI (ke_5)), .int (iI ((-2))), .int (iI ((-2)))])), (bd 9, .inl (cC, 80, .inl (iA (Tx))))] H := hP
      have hD : va_D AA [(bd 0, .inr (8, [.ref (bd 1), .ref (bd 2), .ref (bd 3), .ref (bd 4), .ref (bd 5), .ref (bd 6), .ref (bd 7), .int (iI (cn)), .ref (bd 8), .int (iI (mp)), .ref (bd 9), .int (iI (ty)), .int (iI (th)), .ref (bd 10), .ref (bd 11), .int (iI (sp_3)), .int (iI (ta_4)), .int (iI (ke_5)), .int (iI ((-2))), .int (iI ((-2)))])), (bd 9, .inl (cC, 80, .inl (iA (Tx))))] := hD
      refine lv_aload_n hx hb dX8_readsInsert_60 rfl (lv_at hl 0 rfl) ?_
      refine va_get (D := D) (ci := 8) (v := .int (iI ((-2)))) (C := RX8) (T := TX8) (N := 20) hx hb hts (fun _ h => List.mem_cons_of_mem _ (List.mem_append_right _ (h))) hown hK.1 hP 0 rfl rfl 19 (by decide) (hts (.fieldLink RX8 176 "ForeignKeyStoreModel" "two" "I") (List.mem_of_getElem? (i := 2) rfl)) (fun _ h9 => h9) rfl dX8_readsInsert_61 ?_
      refine lv_bipush (v := iI (-2)) hx hb dX8_readsInsert_64 (by decide) ?_
      refine z_icmp_eq (tgt := 73) hx hb dX8_readsInsert_66 (by decide) ⟨⟨by omega, by omega⟩, ⟨by omega, by omega⟩⟩ (fun c_8 => ?_) (fun c_8 => ?_)
      · refine lv_iconst (v := iI (0)) hx hb dX8_readsInsert_73 rfl ?_
        refine z_mretZ ((sp_3, ta_4, ke_5, (-2), (-2))) hx hb hr hlocks dX8_readsInsert_74 (by omega) hP hD hS ?_
        rw [e_a, if_pos (by omega)]
        exact ⟨by omega, h_r2, Or.inl rfl, ⟨by omega, by omega⟩, fun h => absurd h (by decide)⟩
      · exfalso
        omega
    · exfalso
      omega
  · refine lv_aload_n hx hb dX8_readsInsert_8 rfl (lv_at hl 0 rfl) ?_
    refine lv_bipush (v := iI (44)) hx hb dX8_readsInsert_9 (by decide) ?_
    refine z_muV (As := [.int (iI (44))]) (rest := [.ref (bd 0)]) (wr := []) (ws2 := (fun (u : Int) => [(bd 0, .inr (8, [.ref (bd 1), .ref (bd 2), .ref (bd 3), .ref (bd 4), .ref (bd 5), .ref (bd 6), .ref (bd 7), .int (iI (cn)), .ref (bd 8), .int (iI (mp)), .ref (bd 9), .int (iI (ty)), .int (iI (th)), .ref (bd 10), .ref (bd 11), .int (iI (u)), .int (iI (ta_4)), .int (iI (ke_5)), .int (iI (on)), .int (iI (tw))])), (bd 9, .inl (cC, 80, .inl (iA (Tx))))])) ⟨hx, hb, hml, hown, hts⟩ (c_X8_takes l D cI cZ cC H.size (bd) (cn) (mp) (ty) (th) (sp_3) (ta_4) (ke_5) (on) (tw) (Tx) (44) (by first | assumption | omega) (by first | assumption | omega) (by first | assumption | omega) (by first | assumption | omega)) (cwV 1 hts gX8_readsInsert_X8_takes rfl rfl rfl (by decide +kernel) ⟨Nat.le_of_ble_eq_true rfl, Nat.le_of_ble_eq_true rfl⟩) hP hD hS hA hK [0, 1] [] [0, 1] rfl (by decide) rfl (by decide) (by decide) (by decide) (fun _ => rfl) 0 8 rfl rfl rfl rfl hl.1 rfl (Nat.le_of_ble_eq_true rfl) dX8_readsInsert_11 ⟨by omega, by omega⟩ (fun r_10 u H locs hq_9 hP hD hS => ?_)
    obtain ⟨sp_11, rfl⟩ : ∃ z, z = u := ⟨_, rfl⟩
    have hP : va_P D vwCl [(bd 0, .inr (8, [.ref (bd 1), .ref (bd 2), .ref (bd 3), .ref (bd 4), .ref (bd 5), .ref (bd 6), .ref (bd 7), .int (iI (cn)), .ref (bd 8), .int (iI (mp)), .ref (bd 9), .int (iI (ty)), .int (iI (th)), .ref (bd 10), .ref (bd 11), .int (iI (sp_11)), .int (iI (ta_4)), .int (iI (ke_5)), .int (iI (on)), .int (iI (tw))])), (bd 9, .inl (cC, 80, .inl (iA (Tx))))] H := hP
    have hD : va_D AA [(bd 0, .inr (8, [.ref (bd 1), .ref (bd 2), .ref (bd 3), .ref (bd 4), .ref (bd 5), .ref (bd 6), .ref (bd 7), .int (iI (cn)), .ref (bd 8), .int (iI (mp)), .ref (bd 9), .int (iI (ty)), .int (iI (th)), .ref (bd 10), .ref (bd 11), .int (iI (sp_11)), .int (iI (ta_4)), .int (iI (ke_5)), .int (iI (on)), .int (iI (tw))])), (bd 9, .inl (cC, 80, .inl (iA (Tx))))] := hD
    try dsimp only at hq_9
    obtain ⟨h_c, h_cv, h_cu⟩ := hq_9
    have h_c1 : r_10 = (rS Tx ty 44 sp_3).1 := congrArg Prod.fst h_c
    have h_c2 : sp_11 = (rS Tx ty 44 sp_3).2 := congrArg Prod.snd h_c
    refine z_if_eq (tgt := 24) hx hb dX8_readsInsert_14 (by decide) ⟨by omega, by omega⟩ (fun c_12 => ?_) (fun c_12 => ?_)
    · refine lv_bipush (v := iI (-2)) hx hb dX8_readsInsert_24 (by decide) ?_
      refine va_put (D := D) (ci := 8) (v := .int (iI ((-2)))) (ty := .int) (C := RX8) (T := TX8) (N := 20) hx hb hts (fun _ h => List.mem_cons_of_mem _ (List.mem_append_right _ (h))) tyX8 tyX8_ok nmX8 hown hK.1 hP hD hS 0 rfl rfl 18 (by decide) (hts (.fieldLink RX8 173 "ForeignKeyStoreModel" "one" "I") (List.mem_of_getElem? (i := 1) rfl)) (fun _ h9 => h9) rfl (by decide +kernel) rfl rfl (Nat.le_of_ble_eq_true rfl) dX8_readsInsert_26 (fun H locs hP hD hS => ?_)
      have hP : va_P D vwCl [(bd 0, .inr (8, [.ref (bd 1), .ref (bd 2), .ref (bd 3), .ref (bd 4), .ref (bd 5), .ref (bd 6), .ref (bd 7), .int (iI (cn)), .ref (bd 8), .int (iI (mp)), .ref (bd 9), .int (iI (ty)), .int (iI (th)), .ref (bd 10), .ref (bd 11), .int (iI (sp_11)), .int (iI (ta_4)), .int (iI (ke_5)), .int (iI ((-2))), .int (iI (tw))])), (bd 9, .inl (cC, 80, .inl (iA (Tx))))] H := hP
      have hD : va_D AA [(bd 0, .inr (8, [.ref (bd 1), .ref (bd 2), .ref (bd 3), .ref (bd 4), .ref (bd 5), .ref (bd 6), .ref (bd 7), .int (iI (cn)), .ref (bd 8), .int (iI (mp)), .ref (bd 9), .int (iI (ty)), .int (iI (th)), .ref (bd 10), .ref (bd 11), .int (iI (sp_11)), .int (iI (ta_4)), .int (iI (ke_5)), .int (iI ((-2))), .int (iI (tw))])), (bd 9, .inl (cC, 80, .inl (iA (Tx))))] := hD
      refine lv_aload_n hx hb dX8_readsInsert_29 rfl (lv_at hl 0 rfl) ?_
      refine lv_aload_n hx hb dX8_readsInsert_30 rfl (lv_at hl 0 rfl) ?_
      refine va_get (D := D) (ci := 8) (v := .int (iI ((-2)))) (C := RX8) (T := TX8) (N := 20) hx hb hts (fun _ h => List.mem_cons_of_mem _ (List.mem_append_right _ (h))) hown hK.1 hP 0 rfl rfl 18 (by decide) (hts (.fieldLink RX8 173 "ForeignKeyStoreModel" "one" "I") (List.mem_of_getElem? (i := 1) rfl)) (fun _ h9 => h9) rfl dX8_readsInsert_31 ?_
      refine lv_bipush (v := iI (-2)) hx hb dX8_readsInsert_34 (by decide) ?_
      refine z_icmp_eq (tgt := 55) hx hb dX8_readsInsert_36 (by decide) ⟨⟨by omega, by omega⟩, ⟨by omega, by omega⟩⟩ (fun c_13 => ?_) (fun c_13 => ?_)
      · refine lv_bipush (v := iI (-2)) hx hb dX8_readsInsert_55 (by decide) ?_
        refine va_put (D := D) (ci := 8) (v := .int (iI ((-2)))) (ty := .int) (C := RX8) (T := TX8) (N := 20) hx hb hts (fun _ h => List.mem_cons_of_mem _ (List.mem_append_right _ (h))) tyX8 tyX8_ok nmX8 hown hK.1 hP hD hS 0 rfl rfl 19 (by decide) (hts (.fieldLink RX8 176 "ForeignKeyStoreModel" "two" "I") (List.mem_of_getElem? (i := 2) rfl)) (fun _ h9 => h9) rfl (by decide +kernel) rfl rfl (Nat.le_of_ble_eq_true rfl) dX8_readsInsert_57 (fun H locs hP hD hS => ?_)
        have hP : va_P D vwCl [(bd 0, .inr (8, [.ref (bd 1), .ref (bd 2), .ref (bd 3), .ref (bd 4), .ref (bd 5), .ref (bd 6), .ref (bd 7), .int (iI (cn)), .ref (bd 8), .int (iI (mp)), .ref (bd 9), .int (iI (ty)), .int (iI (th)), .ref (bd 10), .ref (bd 11), .int (iI (sp_11)), .int (iI (ta_4)), .int (iI (ke_5)), .int (iI ((-2))), .int (iI ((-2)))])), (bd 9, .inl (cC, 80, .inl (iA (Tx))))] H := hP
        have hD : va_D AA [(bd 0, .inr (8, [.ref (bd 1), .ref (bd 2), .ref (bd 3), .ref (bd 4), .ref (bd 5), .ref (bd 6), .ref (bd 7), .int (iI (cn)), .ref (bd 8), .int (iI (mp)), .ref (bd 9), .int (iI (ty)), .int (iI (th)), .ref (bd 10), .ref (bd 11), .int (iI (sp_11)), .int (iI (ta_4)), .int (iI (ke_5)), .int (iI ((-2))), .int (iI ((-2)))])), (bd 9, .inl (cC, 80, .inl (iA (Tx))))] := hD
        refine lv_aload_n hx hb dX8_readsInsert_60 rfl (lv_at hl 0 rfl) ?_
        refine va_get (D := D) (ci := 8) (v := .int (iI ((-2)))) (C := RX8) (T := TX8) (N := 20) hx hb hts (fun _ h => List.mem_cons_of_mem _ (List.mem_append_right _ (h))) hown hK.1 hP 0 rfl rfl 19 (by decide) (hts (.fieldLink RX8 176 "ForeignKeyStoreModel" "two" "I") (List.mem_of_getElem? (i := 2) rfl)) (fun _ h9 => h9) rfl dX8_readsInsert_61 ?_
        refine lv_bipush (v := iI (-2)) hx hb dX8_readsInsert_64 (by decide) ?_
        refine z_icmp_eq (tgt := 73) hx hb dX8_readsInsert_66 (by decide) ⟨⟨by omega, by omega⟩, ⟨by omega, by omega⟩⟩ (fun c_14 => ?_) (fun c_14 => ?_)
        · refine lv_iconst (v := iI (0)) hx hb dX8_readsInsert_73 rfl ?_
          refine z_mretZ ((sp_11, ta_4, ke_5, (-2), (-2))) hx hb hr hlocks dX8_readsInsert_74 (by omega) hP hD hS ?_
          obtain ⟨h_as, h_n1, h_n2, h_n3, h_n4⟩ := h_r5 (by omega)
          rw [e_a, if_neg (by omega), ← h_r2, h_as]
          rw [rG_s0 (by decide) (show (rS Tx ty 44 _).1 = 0 by rw [← h_c1]; omega), ← h_c2]
          exact ⟨rfl, rfl, Or.inl rfl, ⟨by omega, by omega⟩, fun h => absurd h (by decide)⟩
        · exfalso
          omega
      · exfalso
        omega
    · refine lv_aload_n hx hb dX8_readsInsert_17 rfl (lv_at hl 0 rfl) ?_
      refine z_muV (As := []) (rest := [.ref (bd 0)]) (wr := []) (ws2 := (fun (u : Int) => [(bd 0, .inr (8, [.ref (bd 1), .ref (bd 2), .ref (bd 3), .ref (bd 4), .ref (bd 5), .ref (bd 6), .ref (bd 7), .int (iI (cn)), .ref (bd 8), .int (iI (mp)), .ref (bd 9), .int (iI (ty)), .int (iI (th)), .ref (bd 10), .ref (bd 11), .int (iI (u)), .int (iI (ta_4)), .int (iI (ke_5)), .int (iI (on)), .int (iI (tw))])), (bd 9, .inl (cC, 80, .inl (iA (Tx))))])) ⟨hx, hb, hml, hown, hts⟩ (c_X8_readsValue l D cI cZ cC H.size (bd) (cn) (mp) (ty) (th) (sp_11) (ta_4) (ke_5) (on) (tw) (Tx) (by first | assumption | omega) (by first | assumption | omega) (by first | assumption | omega)) (cwV 0 hts gX8_readsInsert_X8_readsValue rfl rfl rfl (by decide +kernel) ⟨Nat.le_of_ble_eq_true rfl, Nat.le_of_ble_eq_true rfl⟩) hP hD hS hA hK [0, 1] [] [0, 1] rfl (by decide) rfl (by decide) (by decide) (by decide) (fun _ => rfl) 0 8 rfl rfl rfl rfl hl.1 rfl (Nat.le_of_ble_eq_true rfl) dX8_readsInsert_18 ⟨by omega, by omega⟩ (fun r_16 u H locs hq_15 hP hD hS => ?_)
      obtain ⟨sp_17, rfl⟩ : ∃ z, z = u := ⟨_, rfl⟩
      have hP : va_P D vwCl [(bd 0, .inr (8, [.ref (bd 1), .ref (bd 2), .ref (bd 3), .ref (bd 4), .ref (bd 5), .ref (bd 6), .ref (bd 7), .int (iI (cn)), .ref (bd 8), .int (iI (mp)), .ref (bd 9), .int (iI (ty)), .int (iI (th)), .ref (bd 10), .ref (bd 11), .int (iI (sp_17)), .int (iI (ta_4)), .int (iI (ke_5)), .int (iI (on)), .int (iI (tw))])), (bd 9, .inl (cC, 80, .inl (iA (Tx))))] H := hP
      have hD : va_D AA [(bd 0, .inr (8, [.ref (bd 1), .ref (bd 2), .ref (bd 3), .ref (bd 4), .ref (bd 5), .ref (bd 6), .ref (bd 7), .int (iI (cn)), .ref (bd 8), .int (iI (mp)), .ref (bd 9), .int (iI (ty)), .int (iI (th)), .ref (bd 10), .ref (bd 11), .int (iI (sp_17)), .int (iI (ta_4)), .int (iI (ke_5)), .int (iI (on)), .int (iI (tw))])), (bd 9, .inl (cC, 80, .inl (iA (Tx))))] := hD
      try dsimp only at hq_15
      obtain ⟨h_v, h_vv, h_vu⟩ := hq_15
      have h_v1 : r_16 = (vP Tx ty 118 sp_11).1 := congrArg Prod.fst h_v
      have h_v2 : sp_17 = (vP Tx ty 118 sp_11).2 := congrArg Prod.snd h_v
      refine lv_goto (tgt := 26) hx hb dX8_readsInsert_21 (by decide) ?_
      refine va_put (D := D) (ci := 8) (v := .int (iI (r_16))) (ty := .int) (C := RX8) (T := TX8) (N := 20) hx hb hts (fun _ h => List.mem_cons_of_mem _ (List.mem_append_right _ (h))) tyX8 tyX8_ok nmX8 hown hK.1 hP hD hS 0 rfl rfl 18 (by decide) (hts (.fieldLink RX8 173 "ForeignKeyStoreModel" "one" "I") (List.mem_of_getElem? (i := 1) rfl)) (fun _ h9 => h9) rfl (by decide +kernel) rfl rfl (Nat.le_of_ble_eq_true rfl) dX8_readsInsert_26 (fun H locs hP hD hS => ?_)
      have hP : va_P D vwCl [(bd 0, .inr (8, [.ref (bd 1), .ref (bd 2), .ref (bd 3), .ref (bd 4), .ref (bd 5), .ref (bd 6), .ref (bd 7), .int (iI (cn)), .ref (bd 8), .int (iI (mp)), .ref (bd 9), .int (iI (ty)), .int (iI (th)), .ref (bd 10), .ref (bd 11), .int (iI (sp_17)), .int (iI (ta_4)), .int (iI (ke_5)), .int (iI (r_16)), .int (iI (tw))])), (bd 9, .inl (cC, 80, .inl (iA (Tx))))] H := hP
      have hD : va_D AA [(bd 0, .inr (8, [.ref (bd 1), .ref (bd 2), .ref (bd 3), .ref (bd 4), .ref (bd 5), .ref (bd 6), .ref (bd 7), .int (iI (cn)), .ref (bd 8), .int (iI (mp)), .ref (bd 9), .int (iI (ty)), .int (iI (th)), .ref (bd 10), .ref (bd 11), .int (iI (sp_17)), .int (iI (ta_4)), .int (iI (ke_5)), .int (iI (r_16)), .int (iI (tw))])), (bd 9, .inl (cC, 80, .inl (iA (Tx))))] := hD
      refine lv_aload_n hx hb dX8_readsInsert_29 rfl (lv_at hl 0 rfl) ?_
      refine lv_aload_n hx hb dX8_readsInsert_30 rfl (lv_at hl 0 rfl) ?_
      refine va_get (D := D) (ci := 8) (v := .int (iI (r_16))) (C := RX8) (T := TX8) (N := 20) hx hb hts (fun _ h => List.mem_cons_of_mem _ (List.mem_append_right _ (h))) hown hK.1 hP 0 rfl rfl 18 (by decide) (hts (.fieldLink RX8 173 "ForeignKeyStoreModel" "one" "I") (List.mem_of_getElem? (i := 1) rfl)) (fun _ h9 => h9) rfl dX8_readsInsert_31 ?_
      refine lv_bipush (v := iI (-2)) hx hb dX8_readsInsert_34 (by decide) ?_
      refine z_icmp_eq (tgt := 55) hx hb dX8_readsInsert_36 (by decide) ⟨⟨by omega, by omega⟩, ⟨by omega, by omega⟩⟩ (fun c_18 => ?_) (fun c_18 => ?_)
      · refine lv_bipush (v := iI (-2)) hx hb dX8_readsInsert_55 (by decide) ?_
        refine va_put (D := D) (ci := 8) (v := .int (iI ((-2)))) (ty := .int) (C := RX8) (T := TX8) (N := 20) hx hb hts (fun _ h => List.mem_cons_of_mem _ (List.mem_append_right _ (h))) tyX8 tyX8_ok nmX8 hown hK.1 hP hD hS 0 rfl rfl 19 (by decide) (hts (.fieldLink RX8 176 "ForeignKeyStoreModel" "two" "I") (List.mem_of_getElem? (i := 2) rfl)) (fun _ h9 => h9) rfl (by decide +kernel) rfl rfl (Nat.le_of_ble_eq_true rfl) dX8_readsInsert_57 (fun H locs hP hD hS => ?_)
        have hP : va_P D vwCl [(bd 0, .inr (8, [.ref (bd 1), .ref (bd 2), .ref (bd 3), .ref (bd 4), .ref (bd 5), .ref (bd 6), .ref (bd 7), .int (iI (cn)), .ref (bd 8), .int (iI (mp)), .ref (bd 9), .int (iI (ty)), .int (iI (th)), .ref (bd 10), .ref (bd 11), .int (iI (sp_17)), .int (iI (ta_4)), .int (iI (ke_5)), .int (iI (r_16)), .int (iI ((-2)))])), (bd 9, .inl (cC, 80, .inl (iA (Tx))))] H := hP
        have hD : va_D AA [(bd 0, .inr (8, [.ref (bd 1), .ref (bd 2), .ref (bd 3), .ref (bd 4), .ref (bd 5), .ref (bd 6), .ref (bd 7), .int (iI (cn)), .ref (bd 8), .int (iI (mp)), .ref (bd 9), .int (iI (ty)), .int (iI (th)), .ref (bd 10), .ref (bd 11), .int (iI (sp_17)), .int (iI (ta_4)), .int (iI (ke_5)), .int (iI (r_16)), .int (iI ((-2)))])), (bd 9, .inl (cC, 80, .inl (iA (Tx))))] := hD
        refine lv_aload_n hx hb dX8_readsInsert_60 rfl (lv_at hl 0 rfl) ?_
        refine va_get (D := D) (ci := 8) (v := .int (iI ((-2)))) (C := RX8) (T := TX8) (N := 20) hx hb hts (fun _ h => List.mem_cons_of_mem _ (List.mem_append_right _ (h))) hown hK.1 hP 0 rfl rfl 19 (by decide) (hts (.fieldLink RX8 176 "ForeignKeyStoreModel" "two" "I") (List.mem_of_getElem? (i := 2) rfl)) (fun _ h9 => h9) rfl dX8_readsInsert_61 ?_
        refine lv_bipush (v := iI (-2)) hx hb dX8_readsInsert_64 (by decide) ?_
        refine z_icmp_eq (tgt := 73) hx hb dX8_readsInsert_66 (by decide) ⟨⟨by omega, by omega⟩, ⟨by omega, by omega⟩⟩ (fun c_19 => ?_) (fun c_19 => ?_)
        · refine lv_iconst (v := iI (0)) hx hb dX8_readsInsert_73 rfl ?_
          refine z_mretZ ((sp_17, ta_4, ke_5, r_16, (-2))) hx hb hr hlocks dX8_readsInsert_74 (by omega) hP hD hS ?_
          obtain ⟨h_as, h_n1, h_n2, h_n3, h_n4⟩ := h_r5 (by omega)
          rw [e_a, if_neg (by omega), ← h_r2, h_as]
          rw [rG_s1 (by decide) (show ¬ (rS Tx ty 44 _).1 = 0 by rw [← h_c1]; omega), ← h_c2]
          rw [rG_v0 (by decide) (show (vP Tx ty 118 _).1 = -2 by rw [← h_v1]; omega), ← h_v2]
          exact ⟨rfl, rfl, Or.inl rfl, ⟨by omega, by omega⟩, fun h => absurd h (by decide)⟩
        · exfalso
          omega
      · refine lv_aload_n hx hb dX8_readsInsert_39 rfl (lv_at hl 0 rfl) ?_
        refine lv_bipush (v := iI (44)) hx hb dX8_readsInsert_40 (by decide) ?_
        refine z_muV (As := [.int (iI (44))]) (rest := [.ref (bd 0)]) (wr := []) (ws2 := (fun (u : Int) => [(bd 0, .inr (8, [.ref (bd 1), .ref (bd 2), .ref (bd 3), .ref (bd 4), .ref (bd 5), .ref (bd 6), .ref (bd 7), .int (iI (cn)), .ref (bd 8), .int (iI (mp)), .ref (bd 9), .int (iI (ty)), .int (iI (th)), .ref (bd 10), .ref (bd 11), .int (iI (u)), .int (iI (ta_4)), .int (iI (ke_5)), .int (iI (r_16)), .int (iI (tw))])), (bd 9, .inl (cC, 80, .inl (iA (Tx))))])) ⟨hx, hb, hml, hown, hts⟩ (c_X8_takes l D cI cZ cC H.size (bd) (cn) (mp) (ty) (th) (sp_17) (ta_4) (ke_5) (r_16) (tw) (Tx) (44) (by first | assumption | omega) (by first | assumption | omega) (by first | assumption | omega) (by first | assumption | omega)) (cwV 1 hts gX8_readsInsert_X8_takes rfl rfl rfl (by decide +kernel) ⟨Nat.le_of_ble_eq_true rfl, Nat.le_of_ble_eq_true rfl⟩) hP hD hS hA hK [0, 1] [] [0, 1] rfl (by decide) rfl (by decide) (by decide) (by decide) (fun _ => rfl) 0 8 rfl rfl rfl rfl hl.1 rfl (Nat.le_of_ble_eq_true rfl) dX8_readsInsert_42 ⟨by omega, by omega⟩ (fun r_21 u H locs hq_20 hP hD hS => ?_)
        obtain ⟨sp_22, rfl⟩ : ∃ z, z = u := ⟨_, rfl⟩
        have hP : va_P D vwCl [(bd 0, .inr (8, [.ref (bd 1), .ref (bd 2), .ref (bd 3), .ref (bd 4), .ref (bd 5), .ref (bd 6), .ref (bd 7), .int (iI (cn)), .ref (bd 8), .int (iI (mp)), .ref (bd 9), .int (iI (ty)), .int (iI (th)), .ref (bd 10), .ref (bd 11), .int (iI (sp_22)), .int (iI (ta_4)), .int (iI (ke_5)), .int (iI (r_16)), .int (iI (tw))])), (bd 9, .inl (cC, 80, .inl (iA (Tx))))] H := hP
        have hD : va_D AA [(bd 0, .inr (8, [.ref (bd 1), .ref (bd 2), .ref (bd 3), .ref (bd 4), .ref (bd 5), .ref (bd 6), .ref (bd 7), .int (iI (cn)), .ref (bd 8), .int (iI (mp)), .ref (bd 9), .int (iI (ty)), .int (iI (th)), .ref (bd 10), .ref (bd 11), .int (iI (sp_22)), .int (iI (ta_4)), .int (iI (ke_5)), .int (iI (r_16)), .int (iI (tw))])), (bd 9, .inl (cC, 80, .inl (iA (Tx))))] := hD
        try dsimp only at hq_20
        obtain ⟨h_e, h_ev, h_eu⟩ := hq_20
        have h_e1 : r_21 = (rS Tx ty 44 sp_17).1 := congrArg Prod.fst h_e
        have h_e2 : sp_22 = (rS Tx ty 44 sp_17).2 := congrArg Prod.snd h_e
        refine z_if_eq (tgt := 55) hx hb dX8_readsInsert_45 (by decide) ⟨by omega, by omega⟩ (fun c_23 => ?_) (fun c_23 => ?_)
        · refine lv_bipush (v := iI (-2)) hx hb dX8_readsInsert_55 (by decide) ?_
          refine va_put (D := D) (ci := 8) (v := .int (iI ((-2)))) (ty := .int) (C := RX8) (T := TX8) (N := 20) hx hb hts (fun _ h => List.mem_cons_of_mem _ (List.mem_append_right _ (h))) tyX8 tyX8_ok nmX8 hown hK.1 hP hD hS 0 rfl rfl 19 (by decide) (hts (.fieldLink RX8 176 "ForeignKeyStoreModel" "two" "I") (List.mem_of_getElem? (i := 2) rfl)) (fun _ h9 => h9) rfl (by decide +kernel) rfl rfl (Nat.le_of_ble_eq_true rfl) dX8_readsInsert_57 (fun H locs hP hD hS => ?_)
          have hP : va_P D vwCl [(bd 0, .inr (8, [.ref (bd 1), .ref (bd 2), .ref (bd 3), .ref (bd 4), .ref (bd 5), .ref (bd 6), .ref (bd 7), .int (iI (cn)), .ref (bd 8), .int (iI (mp)), .ref (bd 9), .int (iI (ty)), .int (iI (th)), .ref (bd 10), .ref (bd 11), .int (iI (sp_22)), .int (iI (ta_4)), .int (iI (ke_5)), .int (iI (r_16)), .int (iI ((-2)))])), (bd 9, .inl (cC, 80, .inl (iA (Tx))))] H := hP
          have hD : va_D AA [(bd 0, .inr (8, [.ref (bd 1), .ref (bd 2), .ref (bd 3), .ref (bd 4), .ref (bd 5), .ref (bd 6), .ref (bd 7), .int (iI (cn)), .ref (bd 8), .int (iI (mp)), .ref (bd 9), .int (iI (ty)), .int (iI (th)), .ref (bd 10), .ref (bd 11), .int (iI (sp_22)), .int (iI (ta_4)), .int (iI (ke_5)), .int (iI (r_16)), .int (iI ((-2)))])), (bd 9, .inl (cC, 80, .inl (iA (Tx))))] := hD
          refine lv_aload_n hx hb dX8_readsInsert_60 rfl (lv_at hl 0 rfl) ?_
          refine va_get (D := D) (ci := 8) (v := .int (iI ((-2)))) (C := RX8) (T := TX8) (N := 20) hx hb hts (fun _ h => List.mem_cons_of_mem _ (List.mem_append_right _ (h))) hown hK.1 hP 0 rfl rfl 19 (by decide) (hts (.fieldLink RX8 176 "ForeignKeyStoreModel" "two" "I") (List.mem_of_getElem? (i := 2) rfl)) (fun _ h9 => h9) rfl dX8_readsInsert_61 ?_
          refine lv_bipush (v := iI (-2)) hx hb dX8_readsInsert_64 (by decide) ?_
          refine z_icmp_eq (tgt := 73) hx hb dX8_readsInsert_66 (by decide) ⟨⟨by omega, by omega⟩, ⟨by omega, by omega⟩⟩ (fun c_24 => ?_) (fun c_24 => ?_)
          · refine lv_iconst (v := iI (0)) hx hb dX8_readsInsert_73 rfl ?_
            refine z_mretZ ((sp_22, ta_4, ke_5, r_16, (-2))) hx hb hr hlocks dX8_readsInsert_74 (by omega) hP hD hS ?_
            obtain ⟨h_as, h_n1, h_n2, h_n3, h_n4⟩ := h_r5 (by omega)
            rw [e_a, if_neg (by omega), ← h_r2, h_as]
            rw [rG_s1 (by decide) (show ¬ (rS Tx ty 44 _).1 = 0 by rw [← h_c1]; omega), ← h_c2]
            rw [rG_v1 (by decide) (show ¬ (vP Tx ty 118 _).1 = -2 by rw [← h_v1]; omega), ← h_v2, ← h_v1]
            rw [rG_s0 (by decide) (show (rS Tx ty 44 _).1 = 0 by rw [← h_e1]; omega), ← h_e2]
            exact ⟨rfl, rfl, Or.inl rfl, ⟨by omega, by omega⟩, fun h => absurd h (by decide)⟩
          · exfalso
            omega
        · refine lv_aload_n hx hb dX8_readsInsert_48 rfl (lv_at hl 0 rfl) ?_
          refine z_muV (As := []) (rest := [.ref (bd 0)]) (wr := []) (ws2 := (fun (u : Int) => [(bd 0, .inr (8, [.ref (bd 1), .ref (bd 2), .ref (bd 3), .ref (bd 4), .ref (bd 5), .ref (bd 6), .ref (bd 7), .int (iI (cn)), .ref (bd 8), .int (iI (mp)), .ref (bd 9), .int (iI (ty)), .int (iI (th)), .ref (bd 10), .ref (bd 11), .int (iI (u)), .int (iI (ta_4)), .int (iI (ke_5)), .int (iI (r_16)), .int (iI (tw))])), (bd 9, .inl (cC, 80, .inl (iA (Tx))))])) ⟨hx, hb, hml, hown, hts⟩ (c_X8_readsValue l D cI cZ cC H.size (bd) (cn) (mp) (ty) (th) (sp_22) (ta_4) (ke_5) (r_16) (tw) (Tx) (by first | assumption | omega) (by first | assumption | omega) (by first | assumption | omega)) (cwV 0 hts gX8_readsInsert_X8_readsValue rfl rfl rfl (by decide +kernel) ⟨Nat.le_of_ble_eq_true rfl, Nat.le_of_ble_eq_true rfl⟩) hP hD hS hA hK [0, 1] [] [0, 1] rfl (by decide) rfl (by decide) (by decide) (by decide) (fun _ => rfl) 0 8 rfl rfl rfl rfl hl.1 rfl (Nat.le_of_ble_eq_true rfl) dX8_readsInsert_49 ⟨by omega, by omega⟩ (fun r_26 u H locs hq_25 hP hD hS => ?_)
          obtain ⟨sp_27, rfl⟩ : ∃ z, z = u := ⟨_, rfl⟩
          have hP : va_P D vwCl [(bd 0, .inr (8, [.ref (bd 1), .ref (bd 2), .ref (bd 3), .ref (bd 4), .ref (bd 5), .ref (bd 6), .ref (bd 7), .int (iI (cn)), .ref (bd 8), .int (iI (mp)), .ref (bd 9), .int (iI (ty)), .int (iI (th)), .ref (bd 10), .ref (bd 11), .int (iI (sp_27)), .int (iI (ta_4)), .int (iI (ke_5)), .int (iI (r_16)), .int (iI (tw))])), (bd 9, .inl (cC, 80, .inl (iA (Tx))))] H := hP
          have hD : va_D AA [(bd 0, .inr (8, [.ref (bd 1), .ref (bd 2), .ref (bd 3), .ref (bd 4), .ref (bd 5), .ref (bd 6), .ref (bd 7), .int (iI (cn)), .ref (bd 8), .int (iI (mp)), .ref (bd 9), .int (iI (ty)), .int (iI (th)), .ref (bd 10), .ref (bd 11), .int (iI (sp_27)), .int (iI (ta_4)), .int (iI (ke_5)), .int (iI (r_16)), .int (iI (tw))])), (bd 9, .inl (cC, 80, .inl (iA (Tx))))] := hD
          try dsimp only at hq_25
          obtain ⟨h_w, h_wv, h_wu⟩ := hq_25
          have h_w1 : r_26 = (vP Tx ty 118 sp_22).1 := congrArg Prod.fst h_w
          have h_w2 : sp_27 = (vP Tx ty 118 sp_22).2 := congrArg Prod.snd h_w
          refine lv_goto (tgt := 57) hx hb dX8_readsInsert_52 (by decide) ?_
          refine va_put (D := D) (ci := 8) (v := .int (iI (r_26))) (ty := .int) (C := RX8) (T := TX8) (N := 20) hx hb hts (fun _ h => List.mem_cons_of_mem _ (List.mem_append_right _ (h))) tyX8 tyX8_ok nmX8 hown hK.1 hP hD hS 0 rfl rfl 19 (by decide) (hts (.fieldLink RX8 176 "ForeignKeyStoreModel" "two" "I") (List.mem_of_getElem? (i := 2) rfl)) (fun _ h9 => h9) rfl (by decide +kernel) rfl rfl (Nat.le_of_ble_eq_true rfl) dX8_readsInsert_57 (fun H locs hP hD hS => ?_)
          have hP : va_P D vwCl [(bd 0, .inr (8, [.ref (bd 1), .ref (bd 2), .ref (bd 3), .ref (bd 4), .ref (bd 5), .ref (bd 6), .ref (bd 7), .int (iI (cn)), .ref (bd 8), .int (iI (mp)), .ref (bd 9), .int (iI (ty)), .int (iI (th)), .ref (bd 10), .ref (bd 11), .int (iI (sp_27)), .int (iI (ta_4)), .int (iI (ke_5)), .int (iI (r_16)), .int (iI (r_26))])), (bd 9, .inl (cC, 80, .inl (iA (Tx))))] H := hP
          have hD : va_D AA [(bd 0, .inr (8, [.ref (bd 1), .ref (bd 2), .ref (bd 3), .ref (bd 4), .ref (bd 5), .ref (bd 6), .ref (bd 7), .int (iI (cn)), .ref (bd 8), .int (iI (mp)), .ref (bd 9), .int (iI (ty)), .int (iI (th)), .ref (bd 10), .ref (bd 11), .int (iI (sp_27)), .int (iI (ta_4)), .int (iI (ke_5)), .int (iI (r_16)), .int (iI (r_26))])), (bd 9, .inl (cC, 80, .inl (iA (Tx))))] := hD
          refine lv_aload_n hx hb dX8_readsInsert_60 rfl (lv_at hl 0 rfl) ?_
          refine va_get (D := D) (ci := 8) (v := .int (iI (r_26))) (C := RX8) (T := TX8) (N := 20) hx hb hts (fun _ h => List.mem_cons_of_mem _ (List.mem_append_right _ (h))) hown hK.1 hP 0 rfl rfl 19 (by decide) (hts (.fieldLink RX8 176 "ForeignKeyStoreModel" "two" "I") (List.mem_of_getElem? (i := 2) rfl)) (fun _ h9 => h9) rfl dX8_readsInsert_61 ?_
          refine lv_bipush (v := iI (-2)) hx hb dX8_readsInsert_64 (by decide) ?_
          refine z_icmp_eq (tgt := 73) hx hb dX8_readsInsert_66 (by decide) ⟨⟨by omega, by omega⟩, ⟨by omega, by omega⟩⟩ (fun c_28 => ?_) (fun c_28 => ?_)
          · refine lv_iconst (v := iI (0)) hx hb dX8_readsInsert_73 rfl ?_
            refine z_mretZ ((sp_27, ta_4, ke_5, r_16, r_26)) hx hb hr hlocks dX8_readsInsert_74 (by omega) hP hD hS ?_
            obtain ⟨h_as, h_n1, h_n2, h_n3, h_n4⟩ := h_r5 (by omega)
            rw [e_a, if_neg (by omega), ← h_r2, h_as]
            rw [rG_s1 (by decide) (show ¬ (rS Tx ty 44 _).1 = 0 by rw [← h_c1]; omega), ← h_c2]
            rw [rG_v1 (by decide) (show ¬ (vP Tx ty 118 _).1 = -2 by rw [← h_v1]; omega), ← h_v2, ← h_v1]
            rw [rG_s1 (by decide) (show ¬ (rS Tx ty 44 _).1 = 0 by rw [← h_e1]; omega), ← h_e2]
            rw [rG_v0 (by decide) (show (vP Tx ty 118 _).1 = -2 by rw [← h_w1]; omega), ← h_w2]
            exact ⟨rfl, rfl, Or.inl rfl, ⟨by omega, by omega⟩, fun h => absurd h (by decide)⟩
          · refine lv_iconst (v := iI (1)) hx hb dX8_readsInsert_69 rfl ?_
            refine lv_goto (tgt := 74) hx hb dX8_readsInsert_70 (by decide) ?_
            refine z_mretZ ((sp_27, ta_4, ke_5, r_16, r_26)) hx hb hr hlocks dX8_readsInsert_74 (by omega) hP hD hS ?_
            obtain ⟨h_as, h_n1, h_n2, h_n3, h_n4⟩ := h_r5 (by omega)
            rw [e_a, if_neg (by omega), ← h_r2, h_as]
            rw [rG_s1 (by decide) (show ¬ (rS Tx ty 44 _).1 = 0 by rw [← h_c1]; omega), ← h_c2]
            rw [rG_v1 (by decide) (show ¬ (vP Tx ty 118 _).1 = -2 by rw [← h_v1]; omega), ← h_v2, ← h_v1]
            rw [rG_s1 (by decide) (show ¬ (rS Tx ty 44 _).1 = 0 by rw [← h_e1]; omega), ← h_e2]
            rw [rG_v1 (by decide) (show ¬ (vP Tx ty 118 _).1 = -2 by rw [← h_w1]; omega), ← h_w2, ← h_w1]
            exact ⟨rfl, rfl, Or.inr rfl, ⟨by omega, by omega⟩, fun _ => ⟨rfl, by dsimp only; omega, by dsimp only; omega, by dsimp only; omega, by dsimp only; omega, by dsimp only; omega, by dsimp only; omega, by dsimp only; omega, by dsimp only; omega⟩⟩

set_option maxHeartbeats 600000 in
set_option maxRecDepth 100000 in
theorem c_X8_readsUpdate (l : Launch) (D : va_G) (cI cZ cC : ClassId) (sz : Nat) (bd : Nat → Nat) (cn mp ty th sp ta ke on tw : Int) (Tx : Int → Int) (g_Tx : ∀ j : Int, 0 ≤ j → j < 80 → 0 ≤ Tx j ∧ Tx j < 128) (g_ty : 0 ≤ ty ∧ ty ≤ 80) (g_sp : 0 ≤ sp ∧ sp ≤ ty) : zMi l yX8_readsUpdate wsX8_readsUpdate ({ frames := 5, cells := 0, slots := 0, locals := 107 }) D cI cZ cC [(bd 0, .inr (8, [.ref (bd 1), .ref (bd 2), .ref (bd 3), .ref (bd 4), .ref (bd 5), .ref (bd 6), .ref (bd 7), .int (iI (cn)), .ref (bd 8), .int (iI (mp)), .ref (bd 9), .int (iI (ty)), .int (iI (th)), .ref (bd 10), .ref (bd 11), .int (iI (sp)), .int (iI (ta)), .int (iI (ke)), .int (iI (on)), .int (iI (tw))])), (bd 9, .inl (cC, 80, .inl (iA (Tx))))] sz [.ref (bd 0)] (0) (0) (fun (u : Int × Int × Int × Int × Int) => [(bd 0, .inr (8, [.ref (bd 1), .ref (bd 2), .ref (bd 3), .ref (bd 4), .ref (bd 5), .ref (bd 6), .ref (bd 7), .int (iI (cn)), .ref (bd 8), .int (iI (mp)), .ref (bd 9), .int (iI (ty)), .int (iI (th)), .ref (bd 10), .ref (bd 11), .int (iI (u.1)), .int (iI (u.2.1)), .int (iI (u.2.2.1)), .int (iI (u.2.2.2.1)), .int (iI (u.2.2.2.2))])), (bd 9, .inl (cC, 80, .inl (iA (Tx))))]) (fun v (u : Int × Int × Int × Int × Int) => v = (rG Tx ty [116, 44, 107, 44, 99, 44, 118] sp []).1 ∧ u.1 = (rG Tx ty [116, 44, 107, 44, 99, 44, 118] sp []).2.1 ∧ (v = 0 ∨ v = 1) ∧ (0 ≤ u.1 ∧ u.1 ≤ ty) ∧ (v = 1 → (rG Tx ty [116, 44, 107, 44, 99, 44, 118] sp []).2.2 = [u.2.1, u.2.2.1, u.2.2.2.1, u.2.2.2.2] ∧ 0 ≤ u.2.1 ∧ u.2.1 ≤ 3 ∧ 0 ≤ u.2.2.1 ∧ u.2.2.1 ≤ 19 ∧ 0 ≤ u.2.2.2.1 ∧ u.2.2.2.1 ≤ 1 ∧ -1 ≤ u.2.2.2.2 ∧ u.2.2.2.2 ≤ 19)) := by
  refine z_ofMi (cc := cX8_readsUpdate) (maxL := 1) (ret := (some .boolean)) RX8 (by decide +kernel) rfl rfl (Nat.le_of_ble_eq_true rfl) ?_
  intro p0 en0 s0 m0 args0 below0 meth0 c0 ls AA hx hb hr hlocks hml hown hts hP hD hS hA hK hl
  have hl : lv_has ls 1 [(0, .ref (bd 0))] := hl
  obtain ⟨H, hH⟩ : ∃ H, H = s0.heap := ⟨_, rfl⟩
  obtain ⟨locs, hlo⟩ : ∃ locs : List Loc, locs = [] := ⟨_, rfl⟩
  have hP : va_P D vwCl [(bd 0, .inr (8, [.ref (bd 1), .ref (bd 2), .ref (bd 3), .ref (bd 4), .ref (bd 5), .ref (bd 6), .ref (bd 7), .int (iI (cn)), .ref (bd 8), .int (iI (mp)), .ref (bd 9), .int (iI (ty)), .int (iI (th)), .ref (bd 10), .ref (bd 11), .int (iI (sp)), .int (iI (ta)), .int (iI (ke)), .int (iI (on)), .int (iI (tw))])), (bd 9, .inl (cC, 80, .inl (iA (Tx))))] H := by rw [hH]; exact hP
  have hS : va_S AA s0.heap H locs := by rw [hH, hlo]; exact hS
  suffices hW : W p0 l en0 (headSpec wsX8_readsUpdate ({ frames := 5, cells := 0, slots := 0, locals := 107 })).room s0 m0 args0 below0 meth0 c0 H locs 0 0 (QMi below0 D ((fun (u : Int × Int × Int × Int × Int) => [(bd 0, .inr (8, [.ref (bd 1), .ref (bd 2), .ref (bd 3), .ref (bd 4), .ref (bd 5), .ref (bd 6), .ref (bd 7), .int (iI (cn)), .ref (bd 8), .int (iI (mp)), .ref (bd 9), .int (iI (ty)), .int (iI (th)), .ref (bd 10), .ref (bd 11), .int (iI (u.1)), .int (iI (u.2.1)), .int (iI (u.2.2.1)), .int (iI (u.2.2.2.1)), .int (iI (u.2.2.2.2))])), (bd 9, .inl (cC, 80, .inl (iA (Tx))))])) (fun v (u : Int × Int × Int × Int × Int) => v = (rG Tx ty [116, 44, 107, 44, 99, 44, 118] sp []).1 ∧ u.1 = (rG Tx ty [116, 44, 107, 44, 99, 44, 118] sp []).2.1 ∧ (v = 0 ∨ v = 1) ∧ (0 ≤ u.1 ∧ u.1 ≤ ty) ∧ (v = 1 → (rG Tx ty [116, 44, 107, 44, 99, 44, 118] sp []).2.2 = [u.2.1, u.2.2.1, u.2.2.2.1, u.2.2.2.2] ∧ 0 ≤ u.2.1 ∧ u.2.1 ≤ 3 ∧ 0 ≤ u.2.2.1 ∧ u.2.2.1 ≤ 19 ∧ 0 ≤ u.2.2.2.1 ∧ u.2.2.2.1 ≤ 1 ∧ -1 ≤ u.2.2.2.2 ∧ u.2.2.2.2 ≤ 19)) AA args0 s0 (0) (0)) (F0 m0 0 ls []) by rw [hH, hlo] at hW; exact hW
  have e_a : rG Tx ty [116, 44, 107, 44, 99, 44, 118] sp [] = if (rG Tx ty [116, 44, 107] sp []).1 = 0 then rG Tx ty [116, 44, 107] sp [] else rG Tx ty [44, 99, 44, 118] (rG Tx ty [116, 44, 107] sp []).2.1 (rG Tx ty [116, 44, 107] sp []).2.2 := rG_app Tx ty [44, 99, 44, 118] [116, 44, 107] sp []
  have e_c : ∀ p : Int, vP Tx ty 99 p = rD Tx ty 1 p := fun _ => rfl
  refine lv_aload_n hx hb dX8_readsUpdate_0 rfl (lv_at hl 0 rfl) ?_
  refine lv_aload_n hx hb dX8_readsUpdate_1 rfl (lv_at hl 0 rfl) ?_
  refine z_muV (As := []) (rest := [.ref (bd 0)]) (wr := []) (ws2 := (fun (u : Int × Int × Int) => [(bd 0, .inr (8, [.ref (bd 1), .ref (bd 2), .ref (bd 3), .ref (bd 4), .ref (bd 5), .ref (bd 6), .ref (bd 7), .int (iI (cn)), .ref (bd 8), .int (iI (mp)), .ref (bd 9), .int (iI (ty)), .int (iI (th)), .ref (bd 10), .ref (bd 11), .int (iI (u.1)), .int (iI (u.2.1)), .int (iI (u.2.2)), .int (iI (on)), .int (iI (tw))])), (bd 9, .inl (cC, 80, .inl (iA (Tx))))])) ⟨hx, hb, hml, hown, hts⟩ (c_X8_readsRow l D cI cZ cC H.size (bd) (cn) (mp) (ty) (th) (sp) (ta) (ke) (on) (tw) (Tx) (by first | assumption | omega) (by first | assumption | omega) (by first | assumption | omega)) (cwV 0 hts gX8_readsUpdate_X8_readsRow rfl rfl rfl (by decide +kernel) ⟨Nat.le_of_ble_eq_true rfl, Nat.le_of_ble_eq_true rfl⟩) hP hD hS hA hK [0, 1] [] [0, 1] rfl (by decide) rfl (by decide) (by decide) (by decide) (fun _ => rfl) 0 8 rfl rfl rfl rfl hl.1 rfl (Nat.le_of_ble_eq_true rfl) dX8_readsUpdate_2 ⟨by omega, by omega⟩ (fun r_2 u H locs hq_1 hP hD hS => ?_)
  obtain ⟨sp_3, ta_4, ke_5⟩ := u
  have hP : va_P D vwCl [(bd 0, .inr (8, [.ref (bd 1), .ref (bd 2), .ref (bd 3), .ref (bd 4), .ref (bd 5), .ref (bd 6), .ref (bd 7), .int (iI (cn)), .ref (bd 8), .int (iI (mp)), .ref (bd 9), .int (iI (ty)), .int (iI (th)), .ref (bd 10), .ref (bd 11), .int (iI (sp_3)), .int (iI (ta_4)), .int (iI (ke_5)), .int (iI (on)), .int (iI (tw))])), (bd 9, .inl (cC, 80, .inl (iA (Tx))))] H := hP
  have hD : va_D AA [(bd 0, .inr (8, [.ref (bd 1), .ref (bd 2), .ref (bd 3), .ref (bd 4), .ref (bd 5), .ref (bd 6), .ref (bd 7), .int (iI (cn)), .ref (bd 8), .int (iI (mp)), .ref (bd 9), .int (iI (ty)), .int (iI (th)), .ref (bd 10), .ref (bd 11), .int (iI (sp_3)), .int (iI (ta_4)), .int (iI (ke_5)), .int (iI (on)), .int (iI (tw))])), (bd 9, .inl (cC, 80, .inl (iA (Tx))))] := hD
  try dsimp only at hq_1
  obtain ⟨h_r1, h_r2, h_r3, h_r4, h_r5⟩ := hq_1
  refine z_if_eq (tgt := 26) hx hb dX8_readsUpdate_5 (by decide) ⟨by omega, by omega⟩ (fun c_6 => ?_) (fun c_6 => ?_)
  · refine lv_bipush (v := iI (-2)) hx hb dX8_readsUpdate_26 (by decide) ?_
    refine va_put (D := D) (ci := 8) (v := .int (iI ((-2)))) (ty := .int) (C := RX8) (T := TX8) (N := 20) hx hb hts (fun _ h => List.mem_cons_of_mem _ (List.mem_append_right _ (h))) tyX8 tyX8_ok nmX8 hown hK.1 hP hD hS 0 rfl rfl 18 (by decide) (hts (.fieldLink RX8 173 "ForeignKeyStoreModel" "one" "I") (List.mem_of_getElem? (i := 1) rfl)) (fun _ h9 => h9) rfl (by decide +kernel) rfl rfl (Nat.le_of_ble_eq_true rfl) dX8_readsUpdate_28 (fun H locs hP hD hS => ?_)
    have hP : va_P D vwCl [(bd 0, .inr (8, [.ref (bd 1), .ref (bd 2), .ref (bd 3), .ref (bd 4), .ref (bd 5), .ref (bd 6), .ref (bd 7), .int (iI (cn)), .ref (bd 8), .int (iI (mp)), .ref (bd 9), .int (iI (ty)), .int (iI (th)), .ref (bd 10), .ref (bd 11), .int (iI (sp_3)), .int (iI (ta_4)), .int (iI (ke_5)), .int (iI ((-2))), .int (iI (tw))])), (bd 9, .inl (cC, 80, .inl (iA (Tx))))] H := hP
    have hD : va_D AA [(bd 0, .inr (8, [.ref (bd 1), .ref (bd 2), .ref (bd 3), .ref (bd 4), .ref (bd 5), .ref (bd 6), .ref (bd 7), .int (iI (cn)), .ref (bd 8), .int (iI (mp)), .ref (bd 9), .int (iI (ty)), .int (iI (th)), .ref (bd 10), .ref (bd 11), .int (iI (sp_3)), .int (iI (ta_4)), .int (iI (ke_5)), .int (iI ((-2))), .int (iI (tw))])), (bd 9, .inl (cC, 80, .inl (iA (Tx))))] := hD
    refine lv_aload_n hx hb dX8_readsUpdate_31 rfl (lv_at hl 0 rfl) ?_
    refine lv_aload_n hx hb dX8_readsUpdate_32 rfl (lv_at hl 0 rfl) ?_
    refine va_get (D := D) (ci := 8) (v := .int (iI ((-2)))) (C := RX8) (T := TX8) (N := 20) hx hb hts (fun _ h => List.mem_cons_of_mem _ (List.mem_append_right _ (h))) hown hK.1 hP 0 rfl rfl 18 (by decide) (hts (.fieldLink RX8 173 "ForeignKeyStoreModel" "one" "I") (List.mem_of_getElem? (i := 1) rfl)) (fun _ h9 => h9) rfl dX8_readsUpdate_33 ?_
    refine lv_bipush (v := iI (-2)) hx hb dX8_readsUpdate_36 (by decide) ?_
    refine z_icmp_eq (tgt := 57) hx hb dX8_readsUpdate_38 (by decide) ⟨⟨by omega, by omega⟩, ⟨by omega, by omega⟩⟩ (fun c_7 => ?_) (fun c_7 => ?_)
    · refine lv_bipush (v := iI (-2)) hx hb dX8_readsUpdate_57 (by decide) ?_
      refine va_put (D := D) (ci := 8) (v := .int (iI ((-2)))) (ty := .int) (C := RX8) (T := TX8) (N := 20) hx hb hts (fun _ h => List.mem_cons_of_mem _ (List.mem_append_right _ (h))) tyX8 tyX8_ok nmX8 hown hK.1 hP hD hS 0 rfl rfl 19 (by decide) (hts (.fieldLink RX8 176 "ForeignKeyStoreModel" "two" "I") (List.mem_of_getElem? (i := 2) rfl)) (fun _ h9 => h9) rfl (by decide +kernel) rfl rfl (Nat.le_of_ble_eq_true rfl) dX8_readsUpdate_59 (fun H locs hP hD hS => ?_)
      have hP : va_P D vwCl [(bd 0, .inr (8, [.ref (bd 1), .ref (bd 2), .ref (bd 3), .ref (bd 4), .ref (bd 5), .ref (bd 6), .ref (bd 7), .int (iI (cn)), .ref (bd 8), .int (iI (mp)), .ref (bd 9), .int (iI (ty)), .int (iI (th)), .ref (bd 10), .ref (bd 11), .int (iI (sp_3)), .int (iI (ta_4)), .int (iI (ke_5)), .int (iI ((-2))), .int (iI ((-2)))])), (bd 9, .inl (cC, 80, .inl (iA (Tx))))] H := hP
      have hD : va_D AA [(bd 0, .inr (8, [.ref (bd 1), .ref (bd 2), .ref (bd 3), .ref (bd 4), .ref (bd 5), .ref (bd 6), .ref (bd 7), .int (iI (cn)), .ref (bd 8), .int (iI (mp)), .ref (bd 9), .int (iI (ty)), .int (iI (th)), .ref (bd 10), .ref (bd 11), .int (iI (sp_3)), .int (iI (ta_4)), .int (iI (ke_5)), .int (iI ((-2))), .int (iI ((-2)))])), (bd 9, .inl (cC, 80, .inl (iA (Tx))))] := hD
      refine lv_aload_n hx hb dX8_readsUpdate_62 rfl (lv_at hl 0 rfl) ?_
      refine va_get (D := D) (ci := 8) (v := .int (iI ((-2)))) (C := RX8) (T := TX8) (N := 20) hx hb hts (fun _ h => List.mem_cons_of_mem _ (List.mem_append_right _ (h))) hown hK.1 hP 0 rfl rfl 19 (by decide) (hts (.fieldLink RX8 176 "ForeignKeyStoreModel" "two" "I") (List.mem_of_getElem? (i := 2) rfl)) (fun _ h9 => h9) rfl dX8_readsUpdate_63 ?_
      refine lv_bipush (v := iI (-2)) hx hb dX8_readsUpdate_66 (by decide) ?_
      refine z_icmp_eq (tgt := 75) hx hb dX8_readsUpdate_68 (by decide) ⟨⟨by omega, by omega⟩, ⟨by omega, by omega⟩⟩ (fun c_8 => ?_) (fun c_8 => ?_)
      · refine lv_iconst (v := iI (0)) hx hb dX8_readsUpdate_75 rfl ?_
        refine z_mretZ ((sp_3, ta_4, ke_5, (-2), (-2))) hx hb hr hlocks dX8_readsUpdate_76 (by omega) hP hD hS ?_
        rw [e_a, if_pos (by omega)]
        exact ⟨by omega, h_r2, Or.inl rfl, ⟨by omega, by omega⟩, fun h => absurd h (by decide)⟩
      · exfalso
        omega
    · exfalso
      omega
  · refine lv_aload_n hx hb dX8_readsUpdate_8 rfl (lv_at hl 0 rfl) ?_
    refine lv_bipush (v := iI (44)) hx hb dX8_readsUpdate_9 (by decide) ?_
    refine z_muV (As := [.int (iI (44))]) (rest := [.ref (bd 0)]) (wr := []) (ws2 := (fun (u : Int) => [(bd 0, .inr (8, [.ref (bd 1), .ref (bd 2), .ref (bd 3), .ref (bd 4), .ref (bd 5), .ref (bd 6), .ref (bd 7), .int (iI (cn)), .ref (bd 8), .int (iI (mp)), .ref (bd 9), .int (iI (ty)), .int (iI (th)), .ref (bd 10), .ref (bd 11), .int (iI (u)), .int (iI (ta_4)), .int (iI (ke_5)), .int (iI (on)), .int (iI (tw))])), (bd 9, .inl (cC, 80, .inl (iA (Tx))))])) ⟨hx, hb, hml, hown, hts⟩ (c_X8_takes l D cI cZ cC H.size (bd) (cn) (mp) (ty) (th) (sp_3) (ta_4) (ke_5) (on) (tw) (Tx) (44) (by first | assumption | omega) (by first | assumption | omega) (by first | assumption | omega) (by first | assumption | omega)) (cwV 1 hts gX8_readsUpdate_X8_takes rfl rfl rfl (by decide +kernel) ⟨Nat.le_of_ble_eq_true rfl, Nat.le_of_ble_eq_true rfl⟩) hP hD hS hA hK [0, 1] [] [0, 1] rfl (by decide) rfl (by decide) (by decide) (by decide) (fun _ => rfl) 0 8 rfl rfl rfl rfl hl.1 rfl (Nat.le_of_ble_eq_true rfl) dX8_readsUpdate_11 ⟨by omega, by omega⟩ (fun r_10 u H locs hq_9 hP hD hS => ?_)
    obtain ⟨sp_11, rfl⟩ : ∃ z, z = u := ⟨_, rfl⟩
    have hP : va_P D vwCl [(bd 0, .inr (8, [.ref (bd 1), .ref (bd 2), .ref (bd 3), .ref (bd 4), .ref (bd 5), .ref (bd 6), .ref (bd 7), .int (iI (cn)), .ref (bd 8), .int (iI (mp)), .ref (bd 9), .int (iI (ty)), .int (iI (th)), .ref (bd 10), .ref (bd 11), .int (iI (sp_11)), .int (iI (ta_4)), .int (iI (ke_5)), .int (iI (on)), .int (iI (tw))])), (bd 9, .inl (cC, 80, .inl (iA (Tx))))] H := hP
    have hD : va_D AA [(bd 0, .inr (8, [.ref (bd 1), .ref (bd 2), .ref (bd 3), .ref (bd 4), .ref (bd 5), .ref (bd 6), .ref (bd 7), .int (iI (cn)), .ref (bd 8), .int (iI (mp)), .ref (bd 9), .int (iI (ty)), .int (iI (th)), .ref (bd 10), .ref (bd 11), .int (iI (sp_11)), .int (iI (ta_4)), .int (iI (ke_5)), .int (iI (on)), .int (iI (tw))])), (bd 9, .inl (cC, 80, .inl (iA (Tx))))] := hD
    try dsimp only at hq_9
    obtain ⟨h_c, h_cv, h_cu⟩ := hq_9
    have h_c1 : r_10 = (rS Tx ty 44 sp_3).1 := congrArg Prod.fst h_c
    have h_c2 : sp_11 = (rS Tx ty 44 sp_3).2 := congrArg Prod.snd h_c
    refine z_if_eq (tgt := 26) hx hb dX8_readsUpdate_14 (by decide) ⟨by omega, by omega⟩ (fun c_12 => ?_) (fun c_12 => ?_)
    · refine lv_bipush (v := iI (-2)) hx hb dX8_readsUpdate_26 (by decide) ?_
      refine va_put (D := D) (ci := 8) (v := .int (iI ((-2)))) (ty := .int) (C := RX8) (T := TX8) (N := 20) hx hb hts (fun _ h => List.mem_cons_of_mem _ (List.mem_append_right _ (h))) tyX8 tyX8_ok nmX8 hown hK.1 hP hD hS 0 rfl rfl 18 (by decide) (hts (.fieldLink RX8 173 "ForeignKeyStoreModel" "one" "I") (List.mem_of_getElem? (i := 1) rfl)) (fun _ h9 => h9) rfl (by decide +kernel) rfl rfl (Nat.le_of_ble_eq_true rfl) dX8_readsUpdate_28 (fun H locs hP hD hS => ?_)
      have hP : va_P D vwCl [(bd 0, .inr (8, [.ref (bd 1), .ref (bd 2), .ref (bd 3), .ref (bd 4), .ref (bd 5), .ref (bd 6), .ref (bd 7), .int (iI (cn)), .ref (bd 8), .int (iI (mp)), .ref (bd 9), .int (iI (ty)), .int (iI (th)), .ref (bd 10), .ref (bd 11), .int (iI (sp_11)), .int (iI (ta_4)), .int (iI (ke_5)), .int (iI ((-2))), .int (iI (tw))])), (bd 9, .inl (cC, 80, .inl (iA (Tx))))] H := hP
      have hD : va_D AA [(bd 0, .inr (8, [.ref (bd 1), .ref (bd 2), .ref (bd 3), .ref (bd 4), .ref (bd 5), .ref (bd 6), .ref (bd 7), .int (iI (cn)), .ref (bd 8), .int (iI (mp)), .ref (bd 9), .int (iI (ty)), .int (iI (th)), .ref (bd 10), .ref (bd 11), .int (iI (sp_11)), .int (iI (ta_4)), .int (iI (ke_5)), .int (iI ((-2))), .int (iI (tw))])), (bd 9, .inl (cC, 80, .inl (iA (Tx))))] := hD
      refine lv_aload_n hx hb dX8_readsUpdate_31 rfl (lv_at hl 0 rfl) ?_
      refine lv_aload_n hx hb dX8_readsUpdate_32 rfl (lv_at hl 0 rfl) ?_
      refine va_get (D := D) (ci := 8) (v := .int (iI ((-2)))) (C := RX8) (T := TX8) (N := 20) hx hb hts (fun _ h => List.mem_cons_of_mem _ (List.mem_append_right _ (h))) hown hK.1 hP 0 rfl rfl 18 (by decide) (hts (.fieldLink RX8 173 "ForeignKeyStoreModel" "one" "I") (List.mem_of_getElem? (i := 1) rfl)) (fun _ h9 => h9) rfl dX8_readsUpdate_33 ?_
      refine lv_bipush (v := iI (-2)) hx hb dX8_readsUpdate_36 (by decide) ?_
      refine z_icmp_eq (tgt := 57) hx hb dX8_readsUpdate_38 (by decide) ⟨⟨by omega, by omega⟩, ⟨by omega, by omega⟩⟩ (fun c_13 => ?_) (fun c_13 => ?_)
      · refine lv_bipush (v := iI (-2)) hx hb dX8_readsUpdate_57 (by decide) ?_
        refine va_put (D := D) (ci := 8) (v := .int (iI ((-2)))) (ty := .int) (C := RX8) (T := TX8) (N := 20) hx hb hts (fun _ h => List.mem_cons_of_mem _ (List.mem_append_right _ (h))) tyX8 tyX8_ok nmX8 hown hK.1 hP hD hS 0 rfl rfl 19 (by decide) (hts (.fieldLink RX8 176 "ForeignKeyStoreModel" "two" "I") (List.mem_of_getElem? (i := 2) rfl)) (fun _ h9 => h9) rfl (by decide +kernel) rfl rfl (Nat.le_of_ble_eq_true rfl) dX8_readsUpdate_59 (fun H locs hP hD hS => ?_)
        have hP : va_P D vwCl [(bd 0, .inr (8, [.ref (bd 1), .ref (bd 2), .ref (bd 3), .ref (bd 4), .ref (bd 5), .ref (bd 6), .ref (bd 7), .int (iI (cn)), .ref (bd 8), .int (iI (mp)), .ref (bd 9), .int (iI (ty)), .int (iI (th)), .ref (bd 10), .ref (bd 11), .int (iI (sp_11)), .int (iI (ta_4)), .int (iI (ke_5)), .int (iI ((-2))), .int (iI ((-2)))])), (bd 9, .inl (cC, 80, .inl (iA (Tx))))] H := hP
        have hD : va_D AA [(bd 0, .inr (8, [.ref (bd 1), .ref (bd 2), .ref (bd 3), .ref (bd 4), .ref (bd 5), .ref (bd 6), .ref (bd 7), .int (iI (cn)), .ref (bd 8), .int (iI (mp)), .ref (bd 9), .int (iI (ty)), .int (iI (th)), .ref (bd 10), .ref (bd 11), .int (iI (sp_11)), .int (iI (ta_4)), .int (iI (ke_5)), .int (iI ((-2))), .int (iI ((-2)))])), (bd 9, .inl (cC, 80, .inl (iA (Tx))))] := hD
        refine lv_aload_n hx hb dX8_readsUpdate_62 rfl (lv_at hl 0 rfl) ?_
        refine va_get (D := D) (ci := 8) (v := .int (iI ((-2)))) (C := RX8) (T := TX8) (N := 20) hx hb hts (fun _ h => List.mem_cons_of_mem _ (List.mem_append_right _ (h))) hown hK.1 hP 0 rfl rfl 19 (by decide) (hts (.fieldLink RX8 176 "ForeignKeyStoreModel" "two" "I") (List.mem_of_getElem? (i := 2) rfl)) (fun _ h9 => h9) rfl dX8_readsUpdate_63 ?_
        refine lv_bipush (v := iI (-2)) hx hb dX8_readsUpdate_66 (by decide) ?_
        refine z_icmp_eq (tgt := 75) hx hb dX8_readsUpdate_68 (by decide) ⟨⟨by omega, by omega⟩, ⟨by omega, by omega⟩⟩ (fun c_14 => ?_) (fun c_14 => ?_)
        · refine lv_iconst (v := iI (0)) hx hb dX8_readsUpdate_75 rfl ?_
          refine z_mretZ ((sp_11, ta_4, ke_5, (-2), (-2))) hx hb hr hlocks dX8_readsUpdate_76 (by omega) hP hD hS ?_
          obtain ⟨h_as, h_n1, h_n2, h_n3, h_n4⟩ := h_r5 (by omega)
          rw [e_a, if_neg (by omega), ← h_r2, h_as]
          rw [rG_s0 (by decide) (show (rS Tx ty 44 _).1 = 0 by rw [← h_c1]; omega), ← h_c2]
          exact ⟨rfl, rfl, Or.inl rfl, ⟨by omega, by omega⟩, fun h => absurd h (by decide)⟩
        · exfalso
          omega
      · exfalso
        omega
    · refine lv_aload_n hx hb dX8_readsUpdate_17 rfl (lv_at hl 0 rfl) ?_
      refine lv_bipush (v := iI (49)) hx hb dX8_readsUpdate_18 (by decide) ?_
      refine z_muV (As := [.int (iI (49))]) (rest := [.ref (bd 0)]) (wr := []) (ws2 := (fun (u : Int) => [(bd 0, .inr (8, [.ref (bd 1), .ref (bd 2), .ref (bd 3), .ref (bd 4), .ref (bd 5), .ref (bd 6), .ref (bd 7), .int (iI (cn)), .ref (bd 8), .int (iI (mp)), .ref (bd 9), .int (iI (ty)), .int (iI (th)), .ref (bd 10), .ref (bd 11), .int (iI (u)), .int (iI (ta_4)), .int (iI (ke_5)), .int (iI (on)), .int (iI (tw))])), (bd 9, .inl (cC, 80, .inl (iA (Tx))))])) ⟨hx, hb, hml, hown, hts⟩ (c_X8_digit l D cI cZ cC H.size (bd) (cn) (mp) (ty) (th) (sp_11) (ta_4) (ke_5) (on) (tw) (Tx) (49) (by first | assumption | omega) (by first | assumption | omega) (by first | assumption | omega) (by first | assumption | omega)) (cwV 1 hts gX8_readsUpdate_X8_digit rfl rfl rfl (by decide +kernel) ⟨Nat.le_of_ble_eq_true rfl, Nat.le_of_ble_eq_true rfl⟩) hP hD hS hA hK [0, 1] [] [0, 1] rfl (by decide) rfl (by decide) (by decide) (by decide) (fun _ => rfl) 0 8 rfl rfl rfl rfl hl.1 rfl (Nat.le_of_ble_eq_true rfl) dX8_readsUpdate_20 ⟨by omega, by omega⟩ (fun r_16 u H locs hq_15 hP hD hS => ?_)
      obtain ⟨sp_17, rfl⟩ : ∃ z, z = u := ⟨_, rfl⟩
      have hP : va_P D vwCl [(bd 0, .inr (8, [.ref (bd 1), .ref (bd 2), .ref (bd 3), .ref (bd 4), .ref (bd 5), .ref (bd 6), .ref (bd 7), .int (iI (cn)), .ref (bd 8), .int (iI (mp)), .ref (bd 9), .int (iI (ty)), .int (iI (th)), .ref (bd 10), .ref (bd 11), .int (iI (sp_17)), .int (iI (ta_4)), .int (iI (ke_5)), .int (iI (on)), .int (iI (tw))])), (bd 9, .inl (cC, 80, .inl (iA (Tx))))] H := hP
      have hD : va_D AA [(bd 0, .inr (8, [.ref (bd 1), .ref (bd 2), .ref (bd 3), .ref (bd 4), .ref (bd 5), .ref (bd 6), .ref (bd 7), .int (iI (cn)), .ref (bd 8), .int (iI (mp)), .ref (bd 9), .int (iI (ty)), .int (iI (th)), .ref (bd 10), .ref (bd 11), .int (iI (sp_17)), .int (iI (ta_4)), .int (iI (ke_5)), .int (iI (on)), .int (iI (tw))])), (bd 9, .inl (cC, 80, .inl (iA (Tx))))] := hD
      try dsimp only at hq_15
      obtain ⟨h_v, h_vv, h_vu⟩ := hq_15
      have h_v1 : r_16 = (rD Tx ty 1 sp_11).1 := congrArg Prod.fst h_v
      have h_v2 : sp_17 = (rD Tx ty 1 sp_11).2 := congrArg Prod.snd h_v
      refine lv_goto (tgt := 28) hx hb dX8_readsUpdate_23 (by decide) ?_
      refine va_put (D := D) (ci := 8) (v := .int (iI (r_16))) (ty := .int) (C := RX8) (T := TX8) (N := 20) hx hb hts (fun _ h => List.mem_cons_of_mem _ (List.mem_append_right _ (h))) tyX8 tyX8_ok nmX8 hown hK.1 hP hD hS 0 rfl rfl 18 (by decide) (hts (.fieldLink RX8 173 "ForeignKeyStoreModel" "one" "I") (List.mem_of_getElem? (i := 1) rfl)) (fun _ h9 => h9) rfl (by decide +kernel) rfl rfl (Nat.le_of_ble_eq_true rfl) dX8_readsUpdate_28 (fun H locs hP hD hS => ?_)
      have hP : va_P D vwCl [(bd 0, .inr (8, [.ref (bd 1), .ref (bd 2), .ref (bd 3), .ref (bd 4), .ref (bd 5), .ref (bd 6), .ref (bd 7), .int (iI (cn)), .ref (bd 8), .int (iI (mp)), .ref (bd 9), .int (iI (ty)), .int (iI (th)), .ref (bd 10), .ref (bd 11), .int (iI (sp_17)), .int (iI (ta_4)), .int (iI (ke_5)), .int (iI (r_16)), .int (iI (tw))])), (bd 9, .inl (cC, 80, .inl (iA (Tx))))] H := hP
      have hD : va_D AA [(bd 0, .inr (8, [.ref (bd 1), .ref (bd 2), .ref (bd 3), .ref (bd 4), .ref (bd 5), .ref (bd 6), .ref (bd 7), .int (iI (cn)), .ref (bd 8), .int (iI (mp)), .ref (bd 9), .int (iI (ty)), .int (iI (th)), .ref (bd 10), .ref (bd 11), .int (iI (sp_17)), .int (iI (ta_4)), .int (iI (ke_5)), .int (iI (r_16)), .int (iI (tw))])), (bd 9, .inl (cC, 80, .inl (iA (Tx))))] := hD
      refine lv_aload_n hx hb dX8_readsUpdate_31 rfl (lv_at hl 0 rfl) ?_
      refine lv_aload_n hx hb dX8_readsUpdate_32 rfl (lv_at hl 0 rfl) ?_
      refine va_get (D := D) (ci := 8) (v := .int (iI (r_16))) (C := RX8) (T := TX8) (N := 20) hx hb hts (fun _ h => List.mem_cons_of_mem _ (List.mem_append_right _ (h))) hown hK.1 hP 0 rfl rfl 18 (by decide) (hts (.fieldLink RX8 173 "ForeignKeyStoreModel" "one" "I") (List.mem_of_getElem? (i := 1) rfl)) (fun _ h9 => h9) rfl dX8_readsUpdate_33 ?_
      refine lv_bipush (v := iI (-2)) hx hb dX8_readsUpdate_36 (by decide) ?_
      refine z_icmp_eq (tgt := 57) hx hb dX8_readsUpdate_38 (by decide) ⟨⟨by omega, by omega⟩, ⟨by omega, by omega⟩⟩ (fun c_18 => ?_) (fun c_18 => ?_)
      · refine lv_bipush (v := iI (-2)) hx hb dX8_readsUpdate_57 (by decide) ?_
        refine va_put (D := D) (ci := 8) (v := .int (iI ((-2)))) (ty := .int) (C := RX8) (T := TX8) (N := 20) hx hb hts (fun _ h => List.mem_cons_of_mem _ (List.mem_append_right _ (h))) tyX8 tyX8_ok nmX8 hown hK.1 hP hD hS 0 rfl rfl 19 (by decide) (hts (.fieldLink RX8 176 "ForeignKeyStoreModel" "two" "I") (List.mem_of_getElem? (i := 2) rfl)) (fun _ h9 => h9) rfl (by decide +kernel) rfl rfl (Nat.le_of_ble_eq_true rfl) dX8_readsUpdate_59 (fun H locs hP hD hS => ?_)
        have hP : va_P D vwCl [(bd 0, .inr (8, [.ref (bd 1), .ref (bd 2), .ref (bd 3), .ref (bd 4), .ref (bd 5), .ref (bd 6), .ref (bd 7), .int (iI (cn)), .ref (bd 8), .int (iI (mp)), .ref (bd 9), .int (iI (ty)), .int (iI (th)), .ref (bd 10), .ref (bd 11), .int (iI (sp_17)), .int (iI (ta_4)), .int (iI (ke_5)), .int (iI (r_16)), .int (iI ((-2)))])), (bd 9, .inl (cC, 80, .inl (iA (Tx))))] H := hP
        have hD : va_D AA [(bd 0, .inr (8, [.ref (bd 1), .ref (bd 2), .ref (bd 3), .ref (bd 4), .ref (bd 5), .ref (bd 6), .ref (bd 7), .int (iI (cn)), .ref (bd 8), .int (iI (mp)), .ref (bd 9), .int (iI (ty)), .int (iI (th)), .ref (bd 10), .ref (bd 11), .int (iI (sp_17)), .int (iI (ta_4)), .int (iI (ke_5)), .int (iI (r_16)), .int (iI ((-2)))])), (bd 9, .inl (cC, 80, .inl (iA (Tx))))] := hD
        refine lv_aload_n hx hb dX8_readsUpdate_62 rfl (lv_at hl 0 rfl) ?_
        refine va_get (D := D) (ci := 8) (v := .int (iI ((-2)))) (C := RX8) (T := TX8) (N := 20) hx hb hts (fun _ h => List.mem_cons_of_mem _ (List.mem_append_right _ (h))) hown hK.1 hP 0 rfl rfl 19 (by decide) (hts (.fieldLink RX8 176 "ForeignKeyStoreModel" "two" "I") (List.mem_of_getElem? (i := 2) rfl)) (fun _ h9 => h9) rfl dX8_readsUpdate_63 ?_
        refine lv_bipush (v := iI (-2)) hx hb dX8_readsUpdate_66 (by decide) ?_
        refine z_icmp_eq (tgt := 75) hx hb dX8_readsUpdate_68 (by decide) ⟨⟨by omega, by omega⟩, ⟨by omega, by omega⟩⟩ (fun c_19 => ?_) (fun c_19 => ?_)
        · refine lv_iconst (v := iI (0)) hx hb dX8_readsUpdate_75 rfl ?_
          refine z_mretZ ((sp_17, ta_4, ke_5, r_16, (-2))) hx hb hr hlocks dX8_readsUpdate_76 (by omega) hP hD hS ?_
          obtain ⟨h_as, h_n1, h_n2, h_n3, h_n4⟩ := h_r5 (by omega)
          rw [e_a, if_neg (by omega), ← h_r2, h_as]
          rw [rG_s1 (by decide) (show ¬ (rS Tx ty 44 _).1 = 0 by rw [← h_c1]; omega), ← h_c2]
          rw [rG_v0 (by decide) (show (vP Tx ty 99 _).1 = -2 by rw [e_c, ← h_v1]; omega), e_c, ← h_v2]
          exact ⟨rfl, rfl, Or.inl rfl, ⟨by omega, by omega⟩, fun h => absurd h (by decide)⟩
        · exfalso
          omega
      · refine lv_aload_n hx hb dX8_readsUpdate_41 rfl (lv_at hl 0 rfl) ?_
        refine lv_bipush (v := iI (44)) hx hb dX8_readsUpdate_42 (by decide) ?_
        refine z_muV (As := [.int (iI (44))]) (rest := [.ref (bd 0)]) (wr := []) (ws2 := (fun (u : Int) => [(bd 0, .inr (8, [.ref (bd 1), .ref (bd 2), .ref (bd 3), .ref (bd 4), .ref (bd 5), .ref (bd 6), .ref (bd 7), .int (iI (cn)), .ref (bd 8), .int (iI (mp)), .ref (bd 9), .int (iI (ty)), .int (iI (th)), .ref (bd 10), .ref (bd 11), .int (iI (u)), .int (iI (ta_4)), .int (iI (ke_5)), .int (iI (r_16)), .int (iI (tw))])), (bd 9, .inl (cC, 80, .inl (iA (Tx))))])) ⟨hx, hb, hml, hown, hts⟩ (c_X8_takes l D cI cZ cC H.size (bd) (cn) (mp) (ty) (th) (sp_17) (ta_4) (ke_5) (r_16) (tw) (Tx) (44) (by first | assumption | omega) (by first | assumption | omega) (by first | assumption | omega) (by first | assumption | omega)) (cwV 1 hts gX8_readsUpdate_X8_takes rfl rfl rfl (by decide +kernel) ⟨Nat.le_of_ble_eq_true rfl, Nat.le_of_ble_eq_true rfl⟩) hP hD hS hA hK [0, 1] [] [0, 1] rfl (by decide) rfl (by decide) (by decide) (by decide) (fun _ => rfl) 0 8 rfl rfl rfl rfl hl.1 rfl (Nat.le_of_ble_eq_true rfl) dX8_readsUpdate_44 ⟨by omega, by omega⟩ (fun r_21 u H locs hq_20 hP hD hS => ?_)
        obtain ⟨sp_22, rfl⟩ : ∃ z, z = u := ⟨_, rfl⟩
        have hP : va_P D vwCl [(bd 0, .inr (8, [.ref (bd 1), .ref (bd 2), .ref (bd 3), .ref (bd 4), .ref (bd 5), .ref (bd 6), .ref (bd 7), .int (iI (cn)), .ref (bd 8), .int (iI (mp)), .ref (bd 9), .int (iI (ty)), .int (iI (th)), .ref (bd 10), .ref (bd 11), .int (iI (sp_22)), .int (iI (ta_4)), .int (iI (ke_5)), .int (iI (r_16)), .int (iI (tw))])), (bd 9, .inl (cC, 80, .inl (iA (Tx))))] H := hP
        have hD : va_D AA [(bd 0, .inr (8, [.ref (bd 1), .ref (bd 2), .ref (bd 3), .ref (bd 4), .ref (bd 5), .ref (bd 6), .ref (bd 7), .int (iI (cn)), .ref (bd 8), .int (iI (mp)), .ref (bd 9), .int (iI (ty)), .int (iI (th)), .ref (bd 10), .ref (bd 11), .int (iI (sp_22)), .int (iI (ta_4)), .int (iI (ke_5)), .int (iI (r_16)), .int (iI (tw))])), (bd 9, .inl (cC, 80, .inl (iA (Tx))))] := hD
        try dsimp only at hq_20
        obtain ⟨h_e, h_ev, h_eu⟩ := hq_20
        have h_e1 : r_21 = (rS Tx ty 44 sp_17).1 := congrArg Prod.fst h_e
        have h_e2 : sp_22 = (rS Tx ty 44 sp_17).2 := congrArg Prod.snd h_e
        refine z_if_eq (tgt := 57) hx hb dX8_readsUpdate_47 (by decide) ⟨by omega, by omega⟩ (fun c_23 => ?_) (fun c_23 => ?_)
        · refine lv_bipush (v := iI (-2)) hx hb dX8_readsUpdate_57 (by decide) ?_
          refine va_put (D := D) (ci := 8) (v := .int (iI ((-2)))) (ty := .int) (C := RX8) (T := TX8) (N := 20) hx hb hts (fun _ h => List.mem_cons_of_mem _ (List.mem_append_right _ (h))) tyX8 tyX8_ok nmX8 hown hK.1 hP hD hS 0 rfl rfl 19 (by decide) (hts (.fieldLink RX8 176 "ForeignKeyStoreModel" "two" "I") (List.mem_of_getElem? (i := 2) rfl)) (fun _ h9 => h9) rfl (by decide +kernel) rfl rfl (Nat.le_of_ble_eq_true rfl) dX8_readsUpdate_59 (fun H locs hP hD hS => ?_)
          have hP : va_P D vwCl [(bd 0, .inr (8, [.ref (bd 1), .ref (bd 2), .ref (bd 3), .ref (bd 4), .ref (bd 5), .ref (bd 6), .ref (bd 7), .int (iI (cn)), .ref (bd 8), .int (iI (mp)), .ref (bd 9), .int (iI (ty)), .int (iI (th)), .ref (bd 10), .ref (bd 11), .int (iI (sp_22)), .int (iI (ta_4)), .int (iI (ke_5)), .int (iI (r_16)), .int (iI ((-2)))])), (bd 9, .inl (cC, 80, .inl (iA (Tx))))] H := hP
          have hD : va_D AA [(bd 0, .inr (8, [.ref (bd 1), .ref (bd 2), .ref (bd 3), .ref (bd 4), .ref (bd 5), .ref (bd 6), .ref (bd 7), .int (iI (cn)), .ref (bd 8), .int (iI (mp)), .ref (bd 9), .int (iI (ty)), .int (iI (th)), .ref (bd 10), .ref (bd 11), .int (iI (sp_22)), .int (iI (ta_4)), .int (iI (ke_5)), .int (iI (r_16)), .int (iI ((-2)))])), (bd 9, .inl (cC, 80, .inl (iA (Tx))))] := hD
          refine lv_aload_n hx hb dX8_readsUpdate_62 rfl (lv_at hl 0 rfl) ?_
          refine va_get (D := D) (ci := 8) (v := .int (iI ((-2)))) (C := RX8) (T := TX8) (N := 20) hx hb hts (fun _ h => List.mem_cons_of_mem _ (List.mem_append_right _ (h))) hown hK.1 hP 0 rfl rfl 19 (by decide) (hts (.fieldLink RX8 176 "ForeignKeyStoreModel" "two" "I") (List.mem_of_getElem? (i := 2) rfl)) (fun _ h9 => h9) rfl dX8_readsUpdate_63 ?_
          refine lv_bipush (v := iI (-2)) hx hb dX8_readsUpdate_66 (by decide) ?_
          refine z_icmp_eq (tgt := 75) hx hb dX8_readsUpdate_68 (by decide) ⟨⟨by omega, by omega⟩, ⟨by omega, by omega⟩⟩ (fun c_24 => ?_) (fun c_24 => ?_)
          · refine lv_iconst (v := iI (0)) hx hb dX8_readsUpdate_75 rfl ?_
            refine z_mretZ ((sp_22, ta_4, ke_5, r_16, (-2))) hx hb hr hlocks dX8_readsUpdate_76 (by omega) hP hD hS ?_
            obtain ⟨h_as, h_n1, h_n2, h_n3, h_n4⟩ := h_r5 (by omega)
            rw [e_a, if_neg (by omega), ← h_r2, h_as]
            rw [rG_s1 (by decide) (show ¬ (rS Tx ty 44 _).1 = 0 by rw [← h_c1]; omega), ← h_c2]
            rw [rG_v1 (by decide) (show ¬ (vP Tx ty 99 _).1 = -2 by rw [e_c, ← h_v1]; omega), e_c, ← h_v2, ← h_v1]
            rw [rG_s0 (by decide) (show (rS Tx ty 44 _).1 = 0 by rw [← h_e1]; omega), ← h_e2]
            exact ⟨rfl, rfl, Or.inl rfl, ⟨by omega, by omega⟩, fun h => absurd h (by decide)⟩
          · exfalso
            omega
        · refine lv_aload_n hx hb dX8_readsUpdate_50 rfl (lv_at hl 0 rfl) ?_
          refine z_muV (As := []) (rest := [.ref (bd 0)]) (wr := []) (ws2 := (fun (u : Int) => [(bd 0, .inr (8, [.ref (bd 1), .ref (bd 2), .ref (bd 3), .ref (bd 4), .ref (bd 5), .ref (bd 6), .ref (bd 7), .int (iI (cn)), .ref (bd 8), .int (iI (mp)), .ref (bd 9), .int (iI (ty)), .int (iI (th)), .ref (bd 10), .ref (bd 11), .int (iI (u)), .int (iI (ta_4)), .int (iI (ke_5)), .int (iI (r_16)), .int (iI (tw))])), (bd 9, .inl (cC, 80, .inl (iA (Tx))))])) ⟨hx, hb, hml, hown, hts⟩ (c_X8_readsValue l D cI cZ cC H.size (bd) (cn) (mp) (ty) (th) (sp_22) (ta_4) (ke_5) (r_16) (tw) (Tx) (by first | assumption | omega) (by first | assumption | omega) (by first | assumption | omega)) (cwV 0 hts gX8_readsUpdate_X8_readsValue rfl rfl rfl (by decide +kernel) ⟨Nat.le_of_ble_eq_true rfl, Nat.le_of_ble_eq_true rfl⟩) hP hD hS hA hK [0, 1] [] [0, 1] rfl (by decide) rfl (by decide) (by decide) (by decide) (fun _ => rfl) 0 8 rfl rfl rfl rfl hl.1 rfl (Nat.le_of_ble_eq_true rfl) dX8_readsUpdate_51 ⟨by omega, by omega⟩ (fun r_26 u H locs hq_25 hP hD hS => ?_)
          obtain ⟨sp_27, rfl⟩ : ∃ z, z = u := ⟨_, rfl⟩
          have hP : va_P D vwCl [(bd 0, .inr (8, [.ref (bd 1), .ref (bd 2), .ref (bd 3), .ref (bd 4), .ref (bd 5), .ref (bd 6), .ref (bd 7), .int (iI (cn)), .ref (bd 8), .int (iI (mp)), .ref (bd 9), .int (iI (ty)), .int (iI (th)), .ref (bd 10), .ref (bd 11), .int (iI (sp_27)), .int (iI (ta_4)), .int (iI (ke_5)), .int (iI (r_16)), .int (iI (tw))])), (bd 9, .inl (cC, 80, .inl (iA (Tx))))] H := hP
          have hD : va_D AA [(bd 0, .inr (8, [.ref (bd 1), .ref (bd 2), .ref (bd 3), .ref (bd 4), .ref (bd 5), .ref (bd 6), .ref (bd 7), .int (iI (cn)), .ref (bd 8), .int (iI (mp)), .ref (bd 9), .int (iI (ty)), .int (iI (th)), .ref (bd 10), .ref (bd 11), .int (iI (sp_27)), .int (iI (ta_4)), .int (iI (ke_5)), .int (iI (r_16)), .int (iI (tw))])), (bd 9, .inl (cC, 80, .inl (iA (Tx))))] := hD
          try dsimp only at hq_25
          obtain ⟨h_w, h_wv, h_wu⟩ := hq_25
          have h_w1 : r_26 = (vP Tx ty 118 sp_22).1 := congrArg Prod.fst h_w
          have h_w2 : sp_27 = (vP Tx ty 118 sp_22).2 := congrArg Prod.snd h_w
          refine lv_goto (tgt := 59) hx hb dX8_readsUpdate_54 (by decide) ?_
          refine va_put (D := D) (ci := 8) (v := .int (iI (r_26))) (ty := .int) (C := RX8) (T := TX8) (N := 20) hx hb hts (fun _ h => List.mem_cons_of_mem _ (List.mem_append_right _ (h))) tyX8 tyX8_ok nmX8 hown hK.1 hP hD hS 0 rfl rfl 19 (by decide) (hts (.fieldLink RX8 176 "ForeignKeyStoreModel" "two" "I") (List.mem_of_getElem? (i := 2) rfl)) (fun _ h9 => h9) rfl (by decide +kernel) rfl rfl (Nat.le_of_ble_eq_true rfl) dX8_readsUpdate_59 (fun H locs hP hD hS => ?_)
          have hP : va_P D vwCl [(bd 0, .inr (8, [.ref (bd 1), .ref (bd 2), .ref (bd 3), .ref (bd 4), .ref (bd 5), .ref (bd 6), .ref (bd 7), .int (iI (cn)), .ref (bd 8), .int (iI (mp)), .ref (bd 9), .int (iI (ty)), .int (iI (th)), .ref (bd 10), .ref (bd 11), .int (iI (sp_27)), .int (iI (ta_4)), .int (iI (ke_5)), .int (iI (r_16)), .int (iI (r_26))])), (bd 9, .inl (cC, 80, .inl (iA (Tx))))] H := hP
          have hD : va_D AA [(bd 0, .inr (8, [.ref (bd 1), .ref (bd 2), .ref (bd 3), .ref (bd 4), .ref (bd 5), .ref (bd 6), .ref (bd 7), .int (iI (cn)), .ref (bd 8), .int (iI (mp)), .ref (bd 9), .int (iI (ty)), .int (iI (th)), .ref (bd 10), .ref (bd 11), .int (iI (sp_27)), .int (iI (ta_4)), .int (iI (ke_5)), .int (iI (r_16)), .int (iI (r_26))])), (bd 9, .inl (cC, 80, .inl (iA (Tx))))] := hD
          refine lv_aload_n hx hb dX8_readsUpdate_62 rfl (lv_at hl 0 rfl) ?_
          refine va_get (D := D) (ci := 8) (v := .int (iI (r_26))) (C := RX8) (T := TX8) (N := 20) hx hb hts (fun _ h => List.mem_cons_of_mem _ (List.mem_append_right _ (h))) hown hK.1 hP 0 rfl rfl 19 (by decide) (hts (.fieldLink RX8 176 "ForeignKeyStoreModel" "two" "I") (List.mem_of_getElem? (i := 2) rfl)) (fun _ h9 => h9) rfl dX8_readsUpdate_63 ?_
          refine lv_bipush (v := iI (-2)) hx hb dX8_readsUpdate_66 (by decide) ?_
          refine z_icmp_eq (tgt := 75) hx hb dX8_readsUpdate_68 (by decide) ⟨⟨by omega, by omega⟩, ⟨by omega, by omega⟩⟩ (fun c_28 => ?_) (fun c_28 => ?_)
          · refine lv_iconst (v := iI (0)) hx hb dX8_readsUpdate_75 rfl ?_
            refine z_mretZ ((sp_27, ta_4, ke_5, r_16, r_26)) hx hb hr hlocks dX8_readsUpdate_76 (by omega) hP hD hS ?_
            obtain ⟨h_as, h_n1, h_n2, h_n3, h_n4⟩ := h_r5 (by omega)
            rw [e_a, if_neg (by omega), ← h_r2, h_as]
            rw [rG_s1 (by decide) (show ¬ (rS Tx ty 44 _).1 = 0 by rw [← h_c1]; omega), ← h_c2]
            rw [rG_v1 (by decide) (show ¬ (vP Tx ty 99 _).1 = -2 by rw [e_c, ← h_v1]; omega), e_c, ← h_v2, ← h_v1]
            rw [rG_s1 (by decide) (show ¬ (rS Tx ty 44 _).1 = 0 by rw [← h_e1]; omega), ← h_e2]
            rw [rG_v0 (by decide) (show (vP Tx ty 118 _).1 = -2 by rw [← h_w1]; omega), ← h_w2]
            exact ⟨rfl, rfl, Or.inl rfl, ⟨by omega, by omega⟩, fun h => absurd h (by decide)⟩
          · refine lv_iconst (v := iI (1)) hx hb dX8_readsUpdate_71 rfl ?_
            refine lv_goto (tgt := 76) hx hb dX8_readsUpdate_72 (by decide) ?_
            refine z_mretZ ((sp_27, ta_4, ke_5, r_16, r_26)) hx hb hr hlocks dX8_readsUpdate_76 (by omega) hP hD hS ?_
            obtain ⟨h_as, h_n1, h_n2, h_n3, h_n4⟩ := h_r5 (by omega)
            rw [e_a, if_neg (by omega), ← h_r2, h_as]
            rw [rG_s1 (by decide) (show ¬ (rS Tx ty 44 _).1 = 0 by rw [← h_c1]; omega), ← h_c2]
            rw [rG_v1 (by decide) (show ¬ (vP Tx ty 99 _).1 = -2 by rw [e_c, ← h_v1]; omega), e_c, ← h_v2, ← h_v1]
            rw [rG_s1 (by decide) (show ¬ (rS Tx ty 44 _).1 = 0 by rw [← h_e1]; omega), ← h_e2]
            rw [rG_v1 (by decide) (show ¬ (vP Tx ty 118 _).1 = -2 by rw [← h_w1]; omega), ← h_w2, ← h_w1]
            exact ⟨rfl, rfl, Or.inr rfl, ⟨by omega, by omega⟩, fun _ => ⟨rfl, by dsimp only; omega, by dsimp only; omega, by dsimp only; omega, by dsimp only; omega, by dsimp only; omega, by dsimp only; omega, by dsimp only; omega, by dsimp only; omega⟩⟩

