set_option maxHeartbeats 600000 in
set_option maxRecDepth 100000 in
theorem c_X8_readsInsert (l : Launch) (D : va_G) (cI cZ cC : ClassId) (sz : Nat) (bd : Nat → Nat) (cn mp ty th sp ta ke on tw : Int) (Tx : Int → Int) (g_Tx : ∀ j : Int, 0 ≤ j → j < 80 → 0 ≤ Tx j ∧ Tx j < 128) (g_ty : 0 ≤ ty ∧ ty ≤ 80) (g_sp : 0 ≤ sp ∧ sp ≤ ty) : zMi l yX8_readsInsert wsX8_readsInsert ({ frames := 5, cells := 0, slots := 0, locals := 107 }) D cI cZ cC [(bd 0, .inr (8, [.ref (bd 1), .ref (bd 2), .ref (bd 3), .ref (bd 4), .ref (bd 5), .ref (bd 6), .ref (bd 7), .int (iI (cn)), .ref (bd 8), .int (iI (mp)), .ref (bd 9), .int (iI (ty)), .int (iI (th)), .ref (bd 10), .ref (bd 11), .int (iI (sp)), .int (iI (ta)), .int (iI (ke)), .int (iI (on)), .int (iI (tw))])), (bd 9, .inl (cC, 80, .inl (iA (Tx))))] sz [.ref (bd 0)] (0) (0) (fun (u : Int × Int × Int × Int × Int) => [(bd 0, .inr (8, [.ref (bd 1), .ref (bd 2), .ref (bd 3), .ref (bd 4), .ref (bd 5), .ref (bd 6), .ref (bd 7), .int (iI (cn)), .ref (bd 8), .int (iI (mp)), .ref (bd 9), .int (iI (ty)), .int (iI (th)), .ref (bd 10), .ref (bd 11), .int (iI (u.1)), .int (iI (u.2.1)), .int (iI (u.2.2.1)), .int (iI (u.2.2.2.1)), .int (iI (u.2.2.2.2))])), (bd 9, .inl (cC, 80, .inl (iA (Tx))))]) (fun v (u : Int × Int × Int × Int × Int) => v = (rG Tx ty [116, 44, 107, 44, 118, 44, 118] sp []).1 ∧ u.1 = (rG Tx ty [116, 44, 107, 44, 118, 44, 118] sp []).2.1 ∧ (v = 0 ∨ v = 1) ∧ (0 ≤ u.1 ∧ u.1 ≤ ty) ∧ (v = 1 → (rG Tx ty [116, 44, 107, 44, 118, 44, 118] sp []).2.2 = [u.2.1, u.2.2.1, u.2.2.2.1, u.2.2.2.2] ∧ 0 ≤ u.2.1 ∧ u.2.1 ≤ 3 ∧ 0 ≤ u.2.2.1 ∧ u.2.2.1 ≤ 19 ∧ -1 ≤ u.2.2.2.1 ∧ u.2.2.2.1 ≤ 19 ∧ -1 ≤ u.2.2.2.2 ∧ u.2.2.2.2 ≤ 19)) := by
  refine z_ofMi (cc := cX8_readsInsert) (maxL := 1) (ret := (some .boolean)) RX8 (by decide +kernel) rfl rfl (Nat.le_of_ble_eq_true rfl) ?_
  intro p0 en0 s0 m0 args0 below0 meth0 c0 ls AA hx hb hr hlocks hml hown hts hP hD hS hA hK hl
  have hl : lv_has ls 1 [(0, .ref (bd 0))] := hl
  obtain ⟨H, hH⟩ : ∃ H, H = s0.heap := ⟨_, rfl⟩
  obtain ⟨locs, hlo⟩ : ∃ locs : List Loc, locs = [] := ⟨_, rfl⟩
  have hP : va_P D vwCl [(bd 0, .inr (8, [.ref (bd 1), .ref (bd 2), .ref (bd 3), .ref (bd 4), .ref (bd 5), .ref (bd 6), .ref (bd 7), .int (iI (cn)), .ref (bd 8), .int (iI (mp)), .ref (bd 9), .int (iI (ty)), .int (iI (th)), .ref (bd 10), .ref (bd 11), .int (iI (sp)), .int (iI (ta)), .int (iI (ke)), .int (iI (on)), .int (iI (tw))])), (bd 9, .inl (cC, 80, .inl (iA (Tx))))] H := by rw [hH]; exact hP
  have hS : va_S AA s0.heap H locs := by rw [hH, hlo]; exact hS
  suffices hW : W p0 l en0 (headSpec wsX8_readsInsert ({ frames := 5, cells := 0, slots := 0, locals := 107 })).room s0 m0 args0 below0 meth0 c0 H locs 0 0 (QMi below0 D ((fun (u : Int × Int × Int × Int × Int) => [(bd 0, .inr (8, [.ref (bd 1), .ref (bd 2), .ref (bd 3), .ref (bd 4), .ref (bd 5), .ref (bd 6), .ref (bd 7), .int (iI (cn)), .ref (bd 8), .int (iI (mp)), .ref (bd 9), .int (iI (ty)), .int (iI (th)), .ref (bd 10), .ref (bd 11), .int (iI (u.1)), .int (iI (u.2.1)), .int (iI (u.2.2.1)), .int (iI (u.2.2.2.1)), .int (iI (u.2.2.2.2))])), (bd 9, .inl (cC, 80, .inl (iA (Tx))))])) (fun v (u : Int × Int × Int × Int × Int) => v = (rG Tx ty [116, 44, 107, 44, 118, 44, 118] sp []).1 ∧ u.1 = (rG Tx ty [116, 44, 107, 44, 118, 44, 118] sp []).2.1 ∧ (v = 0 ∨ v = 1) ∧ (0 ≤ u.1 ∧ u.1 ≤ ty) ∧ (v = 1 → (rG Tx ty [116, 44, 107, 44, 118, 44, 118] sp []).2.2 = [u.2.1, u.2.2.1, u.2.2.2.1, u.2.2.2.2] ∧ 0 ≤ u.2.1 ∧ u.2.1 ≤ 3 ∧ 0 ≤ u.2.2.1 ∧ u.2.2.1 ≤ 19 ∧ -1 ≤ u.2.2.2.1 ∧ u.2.2.2.1 ≤ 19 ∧ -1 ≤ u.2.2.2.2 ∧ u.2.2.2.2 ≤ 19)) AA args0 s0 (0) (0)) (F0 m0 0 ls []) by rw [hH, hlo] at hW; exact hW
  have e_a : rG Tx ty [116, 44, 107, 44, 118, 44, 118] sp [] = if (rG Tx ty [116, 44, 107] sp []).1 = 0 then rG Tx ty [116, 44, 107] sp [] else rG Tx ty [44, 118, 44, 118] (rG Tx ty [116, 44, 107] sp []).2.1 (rG Tx ty [116, 44, 107] sp []).2.2 := rG_app Tx ty [44, 118, 44, 118] [116, 44, 107] sp []
  have e_c : ∀ p : Int, vP Tx ty 99 p = rD Tx ty 1 p := fun _ => rfl
  refine lv_aload_n hx hb dX8_readsInsert_0 rfl (lv_at hl 0 rfl) ?_
  refine lv_aload_n hx hb dX8_readsInsert_1 rfl (lv_at hl 0 rfl) ?_
  refine z_muV (As := []) (rest := [.ref (bd 0)]) (wr := []) (ws2 := (fun (u : Int × Int × Int) => [(bd 0, .inr (8, [.ref (bd 1), .ref (bd 2), .ref (bd 3), .ref (bd 4), .ref (bd 5), .ref (bd 6), .ref (bd 7), .int (iI (cn)), .ref (bd 8), .int (iI (mp)), .ref (bd 9), .int (iI (ty)), .int (iI (th)), .ref (bd 10), .ref (bd 11), .int (iI (u.1)), .int (iI (u.2.1)), .int (iI (u.2.2)), .int (iI (on)), .int (iI (tw))])), (bd 9, .inl (cC, 80, .inl (iA (Tx))))])) ⟨hx, hb, hml, hown, hts⟩ (c_X8_readsRow l D cI cZ cC H.size (bd) (cn) (mp) (ty) (th) (sp) (ta) (ke) (on) (tw) (Tx) (by first | assumption | omega) (by first | assumption | omega) (by first | assumption | omega)) (cwV 0 hts gX8_readsInsert_X8_readsRow rfl rfl rfl (by decide +kernel) ⟨Nat.le_of_ble_eq_true rfl, Nat.le_of_ble_eq_true rfl⟩) hP hD hS hA hK [0, 1] [] [0, 1] rfl (by decide) rfl (by decide) (by decide) (by decide) (fun _ => rfl) 0 8 rfl rfl rfl rfl hl.1 rfl (Nat.le_of_ble_eq_true rfl) dX8_readsInsert_2 ⟨by omega, by omega⟩ (fun r_2 u H locs hq_1 hP hD hS => ?_)
  obtain ⟨sp_3, ta_4, ke_5⟩ := u
  have hP : va_P D vwCl [(bd 0, .inr (8, [.ref (bd 1), .ref (bd 2), .ref (bd 3), .ref (bd 4), .ref (bd 5), .ref (bd 6), .ref (bd 7), .int (iI (cn)), .ref (bd 8), .int (iI (mp)), .ref (bd 9), .int (iI (ty)), .int (iI (th)), .ref (bd 10), .ref (bd 11), .int (iI (sp_3)), .int (iI (ta_4)), .int (iI (ke_5)), .int (iI (on)), .int (iI (tw))])), (bd 9, .inl (cC, 80, .inl (iA (Tx))))] H := hP
  have hD : va_D AA [(bd 0, .inr (8, [.ref (bd 1), .ref (bd 2), .ref (bd 3), .ref (bd 4), .ref (bd 5), .ref (bd 6), .ref (bd 7), .int (iI (cn)), .ref (bd 8), .int (iI (mp)), .ref (bd 9), .int (iI (ty)), .int (iI (th)), .ref (bd 10), .ref (bd 11), .int (iI (sp_3)), .int (iI (ta_4)), .int (iI (ke_5)), .int (iI (on)), .int (iI (tw))])), (bd 9, .inl (cC, 80, .inl (iA (Tx))))] := hD
  try dsimp only at hq_1
  obtain ⟨h_r1, h_r2, h_r3, h_r4, h_r5⟩ := hq_1
  refine z_if_eq (tgt := 24) hx hb dX8_readsInsert_5 (by decide) ⟨by omega, by omega⟩ (fun c_6 => ?_) (fun c_6 => ?_)
  · refine lv_bipush (v := iI (-2)) hx hb dX8_readsInsert_24 (by decide) ?_
    refine va_put (D := D) (ci := 8) (v := .int (iI ((-2)))) (ty := .int) (C := RX8) (T := TX8) (N := 20) hx hb hts (fun _ h => List.mem_cons_of_mem _ (List.mem_append_right _ (h))) tyX8 tyX8_ok nmX8 hown hK.1 hP hD hS 0 rfl rfl 18 (by decide) (hts (.fieldLink RX8 173 "ForeignKeyStoreModel" "one" "I") (List.mem_of_getElem? (i := 1) rfl)) (fun _ h9 => h9) rfl (by decide +kernel) rfl rfl (Nat.le_of_ble_eq_true rfl) dX8_readsInsert_26 (fun H locs hP hD hS => ?_)
    have hP : va_P D vwCl [(bd 0, .inr (8, [.ref (bd 1), .ref (bd 2), .ref (bd 3), .ref (bd 4), .ref (bd 5), .ref (bd 6), .ref (bd 7), .int (iI (cn)), .ref (bd 8), .int (iI (mp)), .ref (bd 9), .int (iI (ty)), .int (iI (th)), .ref (bd 10), .ref (bd 11), .int (iI (sp_3)), .int (iI (ta_4)), .int (iI (ke_5)), .int (iI ((-2))), .int (iI (tw))])), (bd 9, .inl (cC, 80, .inl (iA (Tx))))] H := hP
    have hD : va_D AA [(bd 0, .inr (8, [.ref (bd 1), .ref (bd 2), .ref (bd 3), .ref (bd 4), .ref (bd 5), .ref (bd 6), .ref (bd 7), .int (iI (cn)), .ref (bd 8), .int (iI (mp)), .ref (bd 9), .int (iI (ty)), .int (iI (th)), .ref (bd 10), .ref (bd 11), .int (iI (sp_3)), .int (iI (ta_4)), .int (iI (ke_5)), .int (iI ((-2))), .int (iI (tw))])), (bd 9, .inl (cC, 80, .inl (iA (Tx))))] := hD
    refine lv_aload_n hx hb dX8_readsInsert_29 rfl (lv_at hl 0 rfl) ?_
    refine lv_aload_n hx hb dX8_readsInsert_30 rfl (lv_at hl 0 rfl) ?_
    refine va_get (D := D) (ci := 8) (v := .int (iI ((-2)))) (C := RX8) (T := TX8) (N := 20) hx hb hts (fun _ h => List.mem_cons_of_mem _ (List.mem_append_right _ (h))) hown hK.1 hP 0 rfl rfl 18 (by decide) (hts (.fieldLink RX8 173 "ForeignKeyStoreModel" "one" "I") (List.mem_of_getElem? (i := 1) rfl)) (fun _ h9 => h9) rfl dX8_readsInsert_31 ?_
    refine lv_bipush (v := iI (-2)) hx hb dX8_readsInsert_34 (by decide) ?_
    refine z_icmp_eq (tgt := 55) hx hb dX8_readsInsert_36 (by decide) ⟨⟨by omega, by omega⟩, ⟨by omega, by omega⟩⟩ (fun c_7 => ?_) (fun c_7 => ?_)
    · refine lv_bipush (v := iI (-2)) hx hb dX8_readsInsert_55 (by decide) ?_
      refine va_put (D := D) (ci := 8) (v := .int (iI ((-2)))) (ty := .int) (C := RX8) (T := TX8) (N := 20) hx hb hts (fun _ h => List.mem_cons_of_mem _ (List.mem_append_right _ (h))) tyX8 tyX8_ok nmX8 hown hK.1 hP hD hS 0 rfl rfl 19 (by decide) (hts (.fieldLink RX8 176 "ForeignKeyStoreModel" "two" "I") (List.mem_of_getElem? (i := 2) rfl)) (fun _ h9 => h9) rfl (by decide +kernel) rfl rfl (Nat.le_of_ble_eq_true rfl) dX8_readsInsert_57 (fun H locs hP hD hS => ?_)
      have hP : va_P D vwCl [(bd 0, .inr (8, [.ref (bd 1), .ref (bd 2), .ref (bd 3), .ref (bd 4), .ref (bd 5), .ref (bd 6), .ref (bd 7), .int (iI (cn)), .ref (bd 8), .int (iI (mp)), .ref (bd 9), .int (iI (ty)), .int (iI (th)), .ref (bd 10), .ref (bd 11), .int (iI (sp_3)), .int (iI (ta_4)), .int (iI (ke_5)), .int (iI ((-2))), .int (iI ((-2)))])), (bd 9, .inl (cC, 80, .inl (iA (Tx))))] H := hP
      have hD : va_D AA [(bd 0, .inr (8, [.ref (bd 1), .ref (bd 2), .ref (bd 3), .ref (bd 4), .ref (bd 5), .ref (bd 6), .ref (bd 7), .int (iI (cn)), .ref (bd 8), .int (iI (mp)), .ref (bd 9), .int (iI (ty)), .int (iI (th)), .ref (bd 10), .ref (bd 11), .int (iI (sp_3)), .int (iI (ta_4)), .int (iI (ke_5)), .int (iI ((-2))), .int (iI ((-2)))])), (bd 9, .inl (cC, 80, .inl (iA (Tx))))] := hD
      refine lv_aload_n hx hb dX8_readsInsert_60 rfl (lv_at hl 0 rfl) ?_
      refine va_get (D := D) (ci := 8) (v := .int (iI ((-2)))) (C := RX8) (T := TX8) (N := 20) hx hb hts (fun _ h => List.mem_cons_of_mem _ (List.mem_append_right _ (h))) hown hK.1 hP 0 rfl rfl 19 (by decide) (hts (.fieldLink RX8 176 "ForeignKeyStoreModel" "two" "I") (List.mem_of_getElem? (i := 2) rfl)) (fun _ h9 => h9) rfl dX8_readsInsert_61 ?_
      refine lv_bipush (v := iI (-2)) hx hb dX8_readsInsert_64 (by decide) ?_
      refine z_icmp_eq (tgt := 73) hx hb dX8_readsInsert_66 (by decide) ⟨⟨by omega, by omega⟩, ⟨by omega, by omega⟩⟩ (fun c_8 => ?_) (fun c_8 => ?_)
      · refine lv_iconst (v := iI (0)) hx hb dX8_readsInsert_73 rfl ?_
        refine z_mretZ ((sp_3, ta_4, ke_5, (-2), (-2))) hx hb hr hlocks dX8_readsInsert_74 (by omega) hP hD hS ?_
        rw [e_a, if_pos (by omega)]
        exact ⟨by omega, h_r2, Or.inl rfl, ⟨by omega, by omega⟩, fun h => absurd h (by decide)⟩
      · exfalso
        omega
    · exfalso
      omega
  · refine lv_aload_n hx hb dX8_readsInsert_8 rfl (lv_at hl 0 rfl) ?_
    refine lv_bipush (v := iI (44)) hx hb dX8_readsInsert_9 (by decide) ?_
    refine z_muV (As := [.int (iI (44))]) (rest := [.ref (bd 0)]) (wr := []) (ws2 := (fun (u : Int) => [(bd 0, .inr (8, [.ref (bd 1), .ref (bd 2), .ref (bd 3), .ref (bd 4), .ref (bd 5), .ref (bd 6), .ref (bd 7), .int (iI (cn)), .ref (bd 8), .int (iI (mp)), .ref (bd 9), .int (iI (ty)), .int (iI (th)), .ref (bd 10), .ref (bd 11), .int (iI (u)), .int (iI (ta_4)), .int (iI (ke_5)), .int (iI (on)), .int (iI (tw))])), (bd 9, .inl (cC, 80, .inl (iA (Tx))))])) ⟨hx, hb, hml, hown, hts⟩ (c_X8_takes l D cI cZ cC H.size (bd) (cn) (mp) (ty) (th) (sp_3) (ta_4) (ke_5) (on) (tw) (Tx) (44) (by first | assumption | omega) (by first | assumption | omega) (by first | assumption | omega) (by first | assumption | omega)) (cwV 1 hts gX8_readsInsert_X8_takes rfl rfl rfl (by decide +kernel) ⟨Nat.le_of_ble_eq_true rfl, Nat.le_of_ble_eq_true rfl⟩) hP hD hS hA hK [0, 1] [] [0, 1] rfl (by decide) rfl (by decide) (by decide) (by decide) (fun _ => rfl) 0 8 rfl rfl rfl rfl hl.1 rfl (Nat.le_of_ble_eq_true rfl) dX8_readsInsert_11 ⟨by omega, by omega⟩ (fun r_10 u H locs hq_9 hP hD hS => ?_)
    obtain ⟨sp_11, rfl⟩ : ∃ z, z = u := ⟨_, rfl⟩
    have hP : va_P D vwCl [(bd 0, .inr (8, [.ref (bd 1), .ref (bd 2), .ref (bd 3), .ref (bd 4), .ref (bd 5), .ref (bd 6), .ref (bd 7), .int (iI (cn)), .ref (bd 8), .int (iI (mp)), .ref (bd 9), .int (iI (ty)), .int (iI (th)), .ref (bd 10), .ref (bd 11), .int (iI (sp_11)), .int (iI (ta_4)), .int (iI (ke_5)), .int (iI (on)), .int (iI (tw))])), (bd 9, .inl (cC, 80, .inl (iA (Tx))))] H := hP
    have hD : va_D AA [(bd 0, .inr (8, [.ref (bd 1), .ref (bd 2), .ref (bd 3), .ref (bd 4), .ref (bd 5), .ref (bd 6), .ref (bd 7), .int (iI (cn)), .ref (bd 8), .int (iI (mp)), .ref (bd 9), .int (iI (ty)), .int (iI (th)), .ref (bd 10), .ref (bd 11), .int (iI (sp_11)), .int (iI (ta_4)), .int (iI (ke_5)), .int (iI (on)), .int (iI (tw))])), (bd 9, .inl (cC, 80, .inl (iA (Tx))))] := hD
    try dsimp only at hq_9
    obtain ⟨h_c, h_cv, h_cu⟩ := hq_9
    have h_c1 : r_10 = (rS Tx ty 44 sp_3).1 := congrArg Prod.fst h_c
    have h_c2 : sp_11 = (rS Tx ty 44 sp_3).2 := congrArg Prod.snd h_c
    refine z_if_eq (tgt := 24) hx hb dX8_readsInsert_14 (by decide) ⟨by omega, by omega⟩ (fun c_12 => ?_) (fun c_12 => ?_)
    · refine lv_bipush (v := iI (-2)) hx hb dX8_readsInsert_24 (by decide) ?_
      refine va_put (D := D) (ci := 8) (v := .int (iI ((-2)))) (ty := .int) (C := RX8) (T := TX8) (N := 20) hx hb hts (fun _ h => List.mem_cons_of_mem _ (List.mem_append_right _ (h))) tyX8 tyX8_ok nmX8 hown hK.1 hP hD hS 0 rfl rfl 18 (by decide) (hts (.fieldLink RX8 173 "ForeignKeyStoreModel" "one" "I") (List.mem_of_getElem? (i := 1) rfl)) (fun _ h9 => h9) rfl (by decide +kernel) rfl rfl (Nat.le_of_ble_eq_true rfl) dX8_readsInsert_26 (fun H locs hP hD hS => ?_)
      have hP : va_P D vwCl [(bd 0, .inr (8, [.ref (bd 1), .ref (bd 2), .ref (bd 3), .ref (bd 4), .ref (bd 5), .ref (bd 6), .ref (bd 7), .int (iI (cn)), .ref (bd 8), .int (iI (mp)), .ref (bd 9), .int (iI (ty)), .int (iI (th)), .ref (bd 10), .ref (bd 11), .int (iI (sp_11)), .int (iI (ta_4)), .int (iI (ke_5)), .int (iI ((-2))), .int (iI (tw))])), (bd 9, .inl (cC, 80, .inl (iA (Tx))))] H := hP
      have hD : va_D AA [(bd 0, .inr (8, [.ref (bd 1), .ref (bd 2), .ref (bd 3), .ref (bd 4), .ref (bd 5), .ref (bd 6), .ref (bd 7), .int (iI (cn)), .ref (bd 8), .int (iI (mp)), .ref (bd 9), .int (iI (ty)), .int (iI (th)), .ref (bd 10), .ref (bd 11), .int (iI (sp_11)), .int (iI (ta_4)), .int (iI (ke_5)), .int (iI ((-2))), .int (iI (tw))])), (bd 9, .inl (cC, 80, .inl (iA (Tx))))] := hD
      refine lv_aload_n hx hb dX8_readsInsert_29 rfl (lv_at hl 0 rfl) ?_
      refine lv_aload_n hx hb dX8_readsInsert_30 rfl (lv_at hl 0 rfl) ?_
      refine va_get (D := D) (ci := 8) (v := .int (iI ((-2)))) (C := RX8) (T := TX8) (N := 20) hx hb hts (fun _ h => List.mem_cons_of_mem _ (List.mem_append_right _ (h))) hown hK.1 hP 0 rfl rfl 18 (by decide) (hts (.fieldLink RX8 173 "ForeignKeyStoreModel" "one" "I") (List.mem_of_getElem? (i := 1) rfl)) (fun _ h9 => h9) rfl dX8_readsInsert_31 ?_
      refine lv_bipush (v := iI (-2)) hx hb dX8_readsInsert_34 (by decide) ?_
      refine z_icmp_eq (tgt := 55) hx hb dX8_readsInsert_36 (by decide) ⟨⟨by omega, by omega⟩, ⟨by omega, by omega⟩⟩ (fun c_13 => ?_) (fun c_13 => ?_)
      · refine lv_bipush (v := iI (-2)) hx hb dX8_readsInsert_55 (by decide) ?_
        refine va_put (D := D) (ci := 8) (v := .int (iI ((-2)))) (ty := .int) (C := RX8) (T := TX8) (N := 20) hx hb hts (fun _ h => List.mem_cons_of_mem _ (List.mem_append_right _ (h))) tyX8 tyX8_ok nmX8 hown hK.1 hP hD hS 0 rfl rfl 19 (by decide) (hts (.fieldLink RX8 176 "ForeignKeyStoreModel" "two" "I") (List.mem_of_getElem? (i := 2) rfl)) (fun _ h9 => h9) rfl (by decide +kernel) rfl rfl (Nat.le_of_ble_eq_true rfl) dX8_readsInsert_57 (fun H locs hP hD hS => ?_)
        have hP : va_P D vwCl [(bd 0, .inr (8, [.ref (bd 1), .ref (bd 2), .ref (bd 3), .ref (bd 4), .ref (bd 5), .ref (bd 6), .ref (bd 7), .int (iI (cn)), .ref (bd 8), .int (iI (mp)), .ref (bd 9), .int (iI (ty)), .int (iI (th)), .ref (bd 10), .ref (bd 11), .int (iI (sp_11)), .int (iI (ta_4)), .int (iI (ke_5)), .int (iI ((-2))), .int (iI ((-2)))])), (bd 9, .inl (cC, 80, .inl (iA (Tx))))] H := hP
        have hD : va_D AA [(bd 0, .inr (8, [.ref (bd 1), .ref (bd 2), .ref (bd 3), .ref (bd 4), .ref (bd 5), .ref (bd 6), .ref (bd 7), .int (iI (cn)), .ref (bd 8), .int (iI (mp)), .ref (bd 9), .int (iI (ty)), .int (iI (th)), .ref (bd 10), .ref (bd 11), .int (iI (sp_11)), .int (iI (ta_4)), .int (iI (ke_5)), .int (iI ((-2))), .int (iI ((-2)))])), (bd 9, .inl (cC, 80, .inl (iA (Tx))))] := hD
        refine lv_aload_n hx hb dX8_readsInsert_60 rfl (lv_at hl 0 rfl) ?_
        refine va_get (D := D) (ci := 8) (v := .int (iI ((-2)))) (C := RX8) (T := TX8) (N := 20) hx hb hts (fun _ h => List.mem_cons_of_mem _ (List.mem_append_right _ (h))) hown hK.1 hP 0 rfl rfl 19 (by decide) (hts (.fieldLink RX8 176 "ForeignKeyStoreModel" "two" "I") (List.mem_of_getElem? (i := 2) rfl)) (fun _ h9 => h9) rfl dX8_readsInsert_61 ?_
        refine lv_bipush (v := iI (-2)) hx hb dX8_readsInsert_64 (by decide) ?_
        refine z_icmp_eq (tgt := 73) hx hb dX8_readsInsert_66 (by decide) ⟨⟨by omega, by omega⟩, ⟨by omega, by omega⟩⟩ (fun c_14 => ?_) (fun c_14 => ?_)
        · refine lv_iconst (v := iI (0)) hx hb dX8_readsInsert_73 rfl ?_
          refine z_mretZ ((sp_11, ta_4, ke_5, (-2), (-2))) hx hb hr hlocks dX8_readsInsert_74 (by omega) hP hD hS ?_
          obtain ⟨h_as, h_n1, h_n2, h_n3, h_n4⟩ := h_r5 (by omega)
          rw [e_a, if_neg (by omega), ← h_r2, h_as]
          rw [rG_s0 (by decide) (show (rS Tx ty 44 _).1 = 0 by rw [← h_c1]; omega), ← h_c2]
          exact ⟨rfl, rfl, Or.inl rfl, ⟨by omega, by omega⟩, fun h => absurd h (by decide)⟩
        · exfalso
          omega
      · exfalso
        omega
    · refine lv_aload_n hx hb dX8_readsInsert_17 rfl (lv_at hl 0 rfl) ?_
      refine z_muV (As := []) (rest := [.ref (bd 0)]) (wr := []) (ws2 := (fun (u : Int) => [(bd 0, .inr (8, [.ref (bd 1), .ref (bd 2), .ref (bd 3), .ref (bd 4), .ref (bd 5), .ref (bd 6), .ref (bd 7), .int (iI (cn)), .ref (bd 8), .int (iI (mp)), .ref (bd 9), .int (iI (ty)), .int (iI (th)), .ref (bd 10), .ref (bd 11), .int (iI (u)), .int (iI (ta_4)), .int (iI (ke_5)), .int (iI (on)), .int (iI (tw))])), (bd 9, .inl (cC, 80, .inl (iA (Tx))))])) ⟨hx, hb, hml, hown, hts⟩ (c_X8_readsValue l D cI cZ cC H.size (bd) (cn) (mp) (ty) (th) (sp_11) (ta_4) (ke_5) (on) (tw) (Tx) (by first | assumption | omega) (by first | assumption | omega) (by first | assumption | omega)) (cwV 0 hts gX8_readsInsert_X8_readsValue rfl rfl rfl (by decide +kernel) ⟨Nat.le_of_ble_eq_true rfl, Nat.le_of_ble_eq_true rfl⟩) hP hD hS hA hK [0, 1] [] [0, 1] rfl (by decide) rfl (by decide) (by decide) (by decide) (fun _ => rfl) 0 8 rfl rfl rfl rfl hl.1 rfl (Nat.le_of_ble_eq_true rfl) dX8_readsInsert_18 ⟨by omega, by omega⟩ (fun r_16 u H locs hq_15 hP hD hS => ?_)
      obtain ⟨sp_17, rfl⟩ : ∃ z, z = u := ⟨_, rfl⟩
      have hP : va_P D vwCl [(bd 0, .inr (8, [.ref (bd 1), .ref (bd 2), .ref (bd 3), .ref (bd 4), .ref (bd 5), .ref (bd 6), .ref (bd 7), .int (iI (cn)), .ref (bd 8), .int (iI (mp)), .ref (bd 9), .int (iI (ty)), .int (iI (th)), .ref (bd 10), .ref (bd 11), .int (iI (sp_17)), .int (iI (ta_4)), .int (iI (ke_5)), .int (iI (on)), .int (iI (tw))])), (bd 9, .inl (cC, 80, .inl (iA (Tx))))] H := hP
      have hD : va_D AA [(bd 0, .inr (8, [.ref (bd 1), .ref (bd 2), .ref (bd 3), .ref (bd 4), .ref (bd 5), .ref (bd 6), .ref (bd 7), .int (iI (cn)), .ref (bd 8), .int (iI (mp)), .ref (bd 9), .int (iI (ty)), .int (iI (th)), .ref (bd 10), .ref (bd 11), .int (iI (sp_17)), .int (iI (ta_4)), .int (iI (ke_5)), .int (iI (on)), .int (iI (tw))])), (bd 9, .inl (cC, 80, .inl (iA (Tx))))] := hD
      try dsimp only at hq_15
      obtain ⟨h_v, h_vv, h_vu⟩ := hq_15
      have h_v1 : r_16 = (vP Tx ty 118 sp_11).1 := congrArg Prod.fst h_v
      have h_v2 : sp_17 = (vP Tx ty 118 sp_11).2 := congrArg Prod.snd h_v
      refine lv_goto (tgt := 26) hx hb dX8_readsInsert_21 (by decide) ?_
      refine va_put (D := D) (ci := 8) (v := .int (iI (r_16))) (ty := .int) (C := RX8) (T := TX8) (N := 20) hx hb hts (fun _ h => List.mem_cons_of_mem _ (List.mem_append_right _ (h))) tyX8 tyX8_ok nmX8 hown hK.1 hP hD hS 0 rfl rfl 18 (by decide) (hts (.fieldLink RX8 173 "ForeignKeyStoreModel" "one" "I") (List.mem_of_getElem? (i := 1) rfl)) (fun _ h9 => h9) rfl (by decide +kernel) rfl rfl (Nat.le_of_ble_eq_true rfl) dX8_readsInsert_26 (fun H locs hP hD hS => ?_)
      have hP : va_P D vwCl [(bd 0, .inr (8, [.ref (bd 1), .ref (bd 2), .ref (bd 3), .ref (bd 4), .ref (bd 5), .ref (bd 6), .ref (bd 7), .int (iI (cn)), .ref (bd 8), .int (iI (mp)), .ref (bd 9), .int (iI (ty)), .int (iI (th)), .ref (bd 10), .ref (bd 11), .int (iI (sp_17)), .int (iI (ta_4)), .int (iI (ke_5)), .int (iI (r_16)), .int (iI (tw))])), (bd 9, .inl (cC, 80, .inl (iA (Tx))))] H := hP
      have hD : va_D AA [(bd 0, .inr (8, [.ref (bd 1), .ref (bd 2), .ref (bd 3), .ref (bd 4), .ref (bd 5), .ref (bd 6), .ref (bd 7), .int (iI (cn)), .ref (bd 8), .int (iI (mp)), .ref (bd 9), .int (iI (ty)), .int (iI (th)), .ref (bd 10), .ref (bd 11), .int (iI (sp_17)), .int (iI (ta_4)), .int (iI (ke_5)), .int (iI (r_16)), .int (iI (tw))])), (bd 9, .inl (cC, 80, .inl (iA (Tx))))] := hD
      refine lv_aload_n hx hb dX8_readsInsert_29 rfl (lv_at hl 0 rfl) ?_
      refine lv_aload_n hx hb dX8_readsInsert_30 rfl (lv_at hl 0 rfl) ?_
      refine va_get (D := D) (ci := 8) (v := .int (iI (r_16))) (C := RX8) (T := TX8) (N := 20) hx hb hts (fun _ h => List.mem_cons_of_mem _ (List.mem_append_right _ (h))) hown hK.1 hP 0 rfl rfl 18 (by decide) (hts (.fieldLink RX8 173 "ForeignKeyStoreModel" "one" "I") (List.mem_of_getElem? (i := 1) rfl)) (fun _ h9 => h9) rfl dX8_readsInsert_31 ?_
      refine lv_bipush (v := iI (-2)) hx hb dX8_readsInsert_34 (by decide) ?_
      refine z_icmp_eq (tgt := 55) hx hb dX8_readsInsert_36 (by decide) ⟨⟨by omega, by omega⟩, ⟨by omega, by omega⟩⟩ (fun c_18 => ?_) (fun c_18 => ?_)
      · refine lv_bipush (v := iI (-2)) hx hb dX8_readsInsert_55 (by decide) ?_
        refine va_put (D := D) (ci := 8) (v := .int (iI ((-2)))) (ty := .int) (C := RX8) (T := TX8) (N := 20) hx hb hts (fun _ h => List.mem_cons_of_mem _ (List.mem_append_right _ (h))) tyX8 tyX8_ok nmX8 hown hK.1 hP hD hS 0 rfl rfl 19 (by decide) (hts (.fieldLink RX8 176 "ForeignKeyStoreModel" "two" "I") (List.mem_of_getElem? (i := 2) rfl)) (fun _ h9 => h9) rfl (by decide +kernel) rfl rfl (Nat.le_of_ble_eq_true rfl) dX8_readsInsert_57 (fun H locs hP hD hS => ?_)
        have hP : va_P D vwCl [(bd 0, .inr (8, [.ref (bd 1), .ref (bd 2), .ref (bd 3), .ref (bd 4), .ref (bd 5), .ref (bd 6), .ref (bd 7), .int (iI (cn)), .ref (bd 8), .int (iI (mp)), .ref (bd 9), .int (iI (ty)), .int (iI (th)), .ref (bd 10), .ref (bd 11), .int (iI (sp_17)), .int (iI (ta_4)), .int (iI (ke_5)), .int (iI (r_16)), .int (iI ((-2)))])), (bd 9, .inl (cC, 80, .inl (iA (Tx))))] H := hP
        have hD : va_D AA [(bd 0, .inr (8, [.ref (bd 1), .ref (bd 2), .ref (bd 3), .ref (bd 4), .ref (bd 5), .ref (bd 6), .ref (bd 7), .int (iI (cn)), .ref (bd 8), .int (iI (mp)), .ref (bd 9), .int (iI (ty)), .int (iI (th)), .ref (bd 10), .ref (bd 11), .int (iI (sp_17)), .int (iI (ta_4)), .int (iI (ke_5)), .int (iI (r_16)), .int (iI ((-2)))])), (bd 9, .inl (cC, 80, .inl (iA (Tx))))] := hD
        refine lv_aload_n hx hb dX8_readsInsert_60 rfl (lv_at hl 0 rfl) ?_
        refine va_get (D := D) (ci := 8) (v := .int (iI ((-2)))) (C := RX8) (T := TX8) (N := 20) hx hb hts (fun _ h => List.mem_cons_of_mem _ (List.mem_append_right _ (h))) hown hK.1 hP 0 rfl rfl 19 (by decide) (hts (.fieldLink RX8 176 "ForeignKeyStoreModel" "two" "I") (List.mem_of_getElem? (i := 2) rfl)) (fun _ h9 => h9) rfl dX8_readsInsert_61 ?_
        refine lv_bipush (v := iI (-2)) hx hb dX8_readsInsert_64 (by decide) ?_
        refine z_icmp_eq (tgt := 73) hx hb dX8_readsInsert_66 (by decide) ⟨⟨by omega, by omega⟩, ⟨by omega, by omega⟩⟩ (fun c_19 => ?_) (fun c_19 => ?_)
        · refine lv_iconst (v := iI (0)) hx hb dX8_readsInsert_73 rfl ?_
          refine z_mretZ ((sp_17, ta_4, ke_5, r_16, (-2))) hx hb hr hlocks dX8_readsInsert_74 (by omega) hP hD hS ?_
          obtain ⟨h_as, h_n1, h_n2, h_n3, h_n4⟩ := h_r5 (by omega)
          rw [e_a, if_neg (by omega), ← h_r2, h_as]
          rw [rG_s1 (by decide) (show ¬ (rS Tx ty 44 _).1 = 0 by rw [← h_c1]; omega), ← h_c2]
          rw [rG_v0 (by decide) (show (vP Tx ty 118 _).1 = -2 by rw [← h_v1]; omega), ← h_v2]
          exact ⟨rfl, rfl, Or.inl rfl, ⟨by omega, by omega⟩, fun h => absurd h (by decide)⟩
        · exfalso
          omega
      · refine lv_aload_n hx hb dX8_readsInsert_39 rfl (lv_at hl 0 rfl) ?_
        refine lv_bipush (v := iI (44)) hx hb dX8_readsInsert_40 (by decide) ?_
        refine z_muV (As := [.int (iI (44))]) (rest := [.ref (bd 0)]) (wr := []) (ws2 := (fun (u : Int) => [(bd 0, .inr (8, [.ref (bd 1), .ref (bd 2), .ref (bd 3), .ref (bd 4), .ref (bd 5), .ref (bd 6), .ref (bd 7), .int (iI (cn)), .ref (bd 8), .int (iI (mp)), .ref (bd 9), .int (iI (ty)), .int (iI (th)), .ref (bd 10), .ref (bd 11), .int (iI (u)), .int (iI (ta_4)), .int (iI (ke_5)), .int (iI (r_16)), .int (iI (tw))])), (bd 9, .inl (cC, 80, .inl (iA (Tx))))])) ⟨hx, hb, hml, hown, hts⟩ (c_X8_takes l D cI cZ cC H.size (bd) (cn) (mp) (ty) (th) (sp_17) (ta_4) (ke_5) (r_16) (tw) (Tx) (44) (by first | assumption | omega) (by first | assumption | omega) (by first | assumption | omega) (by first | assumption | omega)) (cwV 1 hts gX8_readsInsert_X8_takes rfl rfl rfl (by decide +kernel) ⟨Nat.le_of_ble_eq_true rfl, Nat.le_of_ble_eq_true rfl⟩) hP hD hS hA hK [0, 1] [] [0, 1] rfl (by decide) rfl (by decide) (by decide) (by decide) (fun _ => rfl) 0 8 rfl rfl rfl rfl hl.1 rfl (Nat.le_of_ble_eq_true rfl) dX8_readsInsert_42 ⟨by omega, by omega⟩ (fun r_21 u H locs hq_20 hP hD hS => ?_)
        obtain ⟨sp_22, rfl⟩ : ∃ z, z = u := ⟨_, rfl⟩
        have hP : va_P D vwCl [(bd 0, .inr (8, [.ref (bd 1), .ref (bd 2), .ref (bd 3), .ref (bd 4), .ref (bd 5), .ref (bd 6), .ref (bd 7), .int (iI (cn)), .ref (bd 8), .int (iI (mp)), .ref (bd 9), .int (iI (ty)), .int (iI (th)), .ref (bd 10), .ref (bd 11), .int (iI (sp_22)), .int (iI (ta_4)), .int (iI (ke_5)), .int (iI (r_16)), .int (iI (tw))])), (bd 9, .inl (cC, 80, .inl (iA (Tx))))] H := hP
        have hD : va_D AA [(bd 0, .inr (8, [.ref (bd 1), .ref (bd 2), .ref (bd 3), .ref (bd 4), .ref (bd 5), .ref (bd 6), .ref (bd 7), .int (iI (cn)), .ref (bd 8), .int (iI (mp)), .ref (bd 9), .int (iI (ty)), .int (iI (th)), .ref (bd 10), .ref (bd 11), .int (iI (sp_22)), .int (iI (ta_4)), .int (iI (ke_5)), .int (iI (r_16)), .int (iI (tw))])), (bd 9, .inl (cC, 80, .inl (iA (Tx))))] := hD
        try dsimp only at hq_20
        obtain ⟨h_e, h_ev, h_eu⟩ := hq_20
        have h_e1 : r_21 = (rS Tx ty 44 sp_17).1 := congrArg Prod.fst h_e
        have h_e2 : sp_22 = (rS Tx ty 44 sp_17).2 := congrArg Prod.snd h_e
        refine z_if_eq (tgt := 55) hx hb dX8_readsInsert_45 (by decide) ⟨by omega, by omega⟩ (fun c_23 => ?_) (fun c_23 => ?_)
        · refine lv_bipush (v := iI (-2)) hx hb dX8_readsInsert_55 (by decide) ?_
          refine va_put (D := D) (ci := 8) (v := .int (iI ((-2)))) (ty := .int) (C := RX8) (T := TX8) (N := 20) hx hb hts (fun _ h => List.mem_cons_of_mem _ (List.mem_append_right _ (h))) tyX8 tyX8_ok nmX8 hown hK.1 hP hD hS 0 rfl rfl 19 (by decide) (hts (.fieldLink RX8 176 "ForeignKeyStoreModel" "two" "I") (List.mem_of_getElem? (i := 2) rfl)) (fun _ h9 => h9) rfl (by decide +kernel) rfl rfl (Nat.le_of_ble_eq_true rfl) dX8_readsInsert_57 (fun H locs hP hD hS => ?_)
          have hP : va_P D vwCl [(bd 0, .inr (8, [.ref (bd 1), .ref (bd 2), .ref (bd 3), .ref (bd 4), .ref (bd 5), .ref (bd 6), .ref (bd 7), .int (iI (cn)), .ref (bd 8), .int (iI (mp)), .ref (bd 9), .int (iI (ty)), .int (iI (th)), .ref (bd 10), .ref (bd 11), .int (iI (sp_22)), .int (iI (ta_4)), .int (iI (ke_5)), .int (iI (r_16)), .int (iI ((-2)))])), (bd 9, .inl (cC, 80, .inl (iA (Tx))))] H := hP
          have hD : va_D AA [(bd 0, .inr (8, [.ref (bd 1), .ref (bd 2), .ref (bd 3), .ref (bd 4), .ref (bd 5), .ref (bd 6), .ref (bd 7), .int (iI (cn)), .ref (bd 8), .int (iI (mp)), .ref (bd 9), .int (iI (ty)), .int (iI (th)), .ref (bd 10), .ref (bd 11), .int (iI (sp_22)), .int (iI (ta_4)), .int (iI (ke_5)), .int (iI (r_16)), .int (iI ((-2)))])), (bd 9, .inl (cC, 80, .inl (iA (Tx))))] := hD
          refine lv_aload_n hx hb dX8_readsInsert_60 rfl (lv_at hl 0 rfl) ?_
          refine va_get (D := D) (ci := 8) (v := .int (iI ((-2)))) (C := RX8) (T := TX8) (N := 20) hx hb hts (fun _ h => List.mem_cons_of_mem _ (List.mem_append_right _ (h))) hown hK.1 hP 0 rfl rfl 19 (by decide) (hts (.fieldLink RX8 176 "ForeignKeyStoreModel" "two" "I") (List.mem_of_getElem? (i := 2) rfl)) (fun _ h9 => h9) rfl dX8_readsInsert_61 ?_
          refine lv_bipush (v := iI (-2)) hx hb dX8_readsInsert_64 (by decide) ?_
          refine z_icmp_eq (tgt := 73) hx hb dX8_readsInsert_66 (by decide) ⟨⟨by omega, by omega⟩, ⟨by omega, by omega⟩⟩ (fun c_24 => ?_) (fun c_24 => ?_)
          · refine lv_iconst (v := iI (0)) hx hb dX8_readsInsert_73 rfl ?_
            refine z_mretZ ((sp_22, ta_4, ke_5, r_16, (-2))) hx hb hr hlocks dX8_readsInsert_74 (by omega) hP hD hS ?_
            obtain ⟨h_as, h_n1, h_n2, h_n3, h_n4⟩ := h_r5 (by omega)
            rw [e_a, if_neg (by omega), ← h_r2, h_as]
            rw [rG_s1 (by decide) (show ¬ (rS Tx ty 44 _).1 = 0 by rw [← h_c1]; omega), ← h_c2]
            rw [rG_v1 (by decide) (show ¬ (vP Tx ty 118 _).1 = -2 by rw [← h_v1]; omega), ← h_v2, ← h_v1]
            rw [rG_s0 (by decide) (show (rS Tx ty 44 _).1 = 0 by rw [← h_e1]; omega), ← h_e2]
            exact ⟨rfl, rfl, Or.inl rfl, ⟨by omega, by omega⟩, fun h => absurd h (by decide)⟩
          · exfalso
            omega
        · refine lv_aload_n hx hb dX8_readsInsert_48 rfl (lv_at hl 0 rfl) ?_
          refine z_muV (As := []) (rest := [.ref (bd 0)]) (wr := []) (ws2 := (fun (u : Int) => [(bd 0, .inr (8, [.ref (bd 1), .ref (bd 2), .ref (bd 3), .ref (bd 4), .ref (bd 5), .ref (bd 6), .ref (bd 7), .int (iI (cn)), .ref (bd 8), .int (iI (mp)), .ref (bd 9), .int (iI (ty)), .int (iI (th)), .ref (bd 10), .ref (bd 11), .int (iI (u)), .int (iI (ta_4)), .int (iI (ke_5)), .int (iI (r_16)), .int (iI (tw))])), (bd 9, .inl (cC, 80, .inl (iA (Tx))))])) ⟨hx, hb, hml, hown, hts⟩ (c_X8_readsValue l D cI cZ cC H.size (bd) (cn) (mp) (ty) (th) (sp_22) (ta_4) (ke_5) (r_16) (tw) (Tx) (by first | assumption | omega) (by first | assumption | omega) (by first | assumption | omega)) (cwV 0 hts gX8_readsInsert_X8_readsValue rfl rfl rfl (by decide +kernel) ⟨Nat.le_of_ble_eq_true rfl, Nat.le_of_ble_eq_true rfl⟩) hP hD hS hA hK [0, 1] [] [0, 1] rfl (by decide) rfl (by decide) (by decide) (by decide) (fun _ => rfl) 0 8 rfl rfl rfl rfl hl.1 rfl (Nat.le_of_ble_eq_true rfl) dX8_readsInsert_49 ⟨by omega, by omega⟩ (fun r_26 u H locs hq_25 hP hD hS => ?_)
          obtain ⟨sp_27, rfl⟩ : ∃ z, z = u := ⟨_, rfl⟩
          have hP : va_P D vwCl [(bd 0, .inr (8, [.ref (bd 1), .ref (bd 2), .ref (bd 3), .ref (bd 4), .ref (bd 5), .ref (bd 6), .ref (bd 7), .int (iI (cn)), .ref (bd 8), .int (iI (mp)), .ref (bd 9), .int (iI (ty)), .int (iI (th)), .ref (bd 10), .ref (bd 11), .int (iI (sp_27)), .int (iI (ta_4)), .int (iI (ke_5)), .int (iI (r_16)), .int (iI (tw))])), (bd 9, .inl (cC, 80, .inl (iA (Tx))))] H := hP
          have hD : va_D AA [(bd 0, .inr (8, [.ref (bd 1), .ref (bd 2), .ref (bd 3), .ref (bd 4), .ref (bd 5), .ref (bd 6), .ref (bd 7), .int (iI (cn)), .ref (bd 8), .int (iI (mp)), .ref (bd 9), .int (iI (ty)), .int (iI (th)), .ref (bd 10), .ref (bd 11), .int (iI (sp_27)), .int (iI (ta_4)), .int (iI (ke_5)), .int (iI (r_16)), .int (iI (tw))])), (bd 9, .inl (cC, 80, .inl (iA (Tx))))] := hD
          try dsimp only at hq_25
          obtain ⟨h_w, h_wv, h_wu⟩ := hq_25
          have h_w1 : r_26 = (vP Tx ty 118 sp_22).1 := congrArg Prod.fst h_w
          have h_w2 : sp_27 = (vP Tx ty 118 sp_22).2 := congrArg Prod.snd h_w
          refine lv_goto (tgt := 57) hx hb dX8_readsInsert_52 (by decide) ?_
          refine va_put (D := D) (ci := 8) (v := .int (iI (r_26))) (ty := .int) (C := RX8) (T := TX8) (N := 20) hx hb hts (fun _ h => List.mem_cons_of_mem _ (List.mem_append_right _ (h))) tyX8 tyX8_ok nmX8 hown hK.1 hP hD hS 0 rfl rfl 19 (by decide) (hts (.fieldLink RX8 176 "ForeignKeyStoreModel" "two" "I") (List.mem_of_getElem? (i := 2) rfl)) (fun _ h9 => h9) rfl (by decide +kernel) rfl rfl (Nat.le_of_ble_eq_true rfl) dX8_readsInsert_57 (fun H locs hP hD hS => ?_)
          have hP : va_P D vwCl [(bd 0, .inr (8, [.ref (bd 1), .ref (bd 2), .ref (bd 3), .ref (bd 4), .ref (bd 5), .ref (bd 6), .ref (bd 7), .int (iI (cn)), .ref (bd 8), .int (iI (mp)), .ref (bd 9), .int (iI (ty)), .int (iI (th)), .ref (bd 10), .ref (bd 11), .int (iI (sp_27)), .int (iI (ta_4)), .int (iI (ke_5)), .int (iI (r_16)), .int (iI (r_26))])), (bd 9, .inl (cC, 80, .inl (iA (Tx))))] H := hP
          have hD : va_D AA [(bd 0, .inr (8, [.ref (bd 1), .ref (bd 2), .ref (bd 3), .ref (bd 4), .ref (bd 5), .ref (bd 6), .ref (bd 7), .int (iI (cn)), .ref (bd 8), .int (iI (mp)), .ref (bd 9), .int (iI (ty)), .int (iI (th)), .ref (bd 10), .ref (bd 11), .int (iI (sp_27)), .int (iI (ta_4)), .int (iI (ke_5)), .int (iI (r_16)), .int (iI (r_26))])), (bd 9, .inl (cC, 80, .inl (iA (Tx))))] := hD
          refine lv_aload_n hx hb dX8_readsInsert_60 rfl (lv_at hl 0 rfl) ?_
          refine va_get (D := D) (ci := 8) (v := .int (iI (r_26))) (C := RX8) (T := TX8) (N := 20) hx hb hts (fun _ h => List.mem_cons_of_mem _ (List.mem_append_right _ (h))) hown hK.1 hP 0 rfl rfl 19 (by decide) (hts (.fieldLink RX8 176 "ForeignKeyStoreModel" "two" "I") (List.mem_of_getElem? (i := 2) rfl)) (fun _ h9 => h9) rfl dX8_readsInsert_61 ?_
          refine lv_bipush (v := iI (-2)) hx hb dX8_readsInsert_64 (by decide) ?_
          refine z_icmp_eq (tgt := 73) hx hb dX8_readsInsert_66 (by decide) ⟨⟨by omega, by omega⟩, ⟨by omega, by omega⟩⟩ (fun c_28 => ?_) (fun c_28 => ?_)
          · refine lv_iconst (v := iI (0)) hx hb dX8_readsInsert_73 rfl ?_
            refine z_mretZ ((sp_27, ta_4, ke_5, r_16, r_26)) hx hb hr hlocks dX8_readsInsert_74 (by omega) hP hD hS ?_
            obtain ⟨h_as, h_n1, h_n2, h_n3, h_n4⟩ := h_r5 (by omega)
            rw [e_a, if_neg (by omega), ← h_r2, h_as]
            rw [rG_s1 (by decide) (show ¬ (rS Tx ty 44 _).1 = 0 by rw [← h_c1]; omega), ← h_c2]
            rw [rG_v1 (by decide) (show ¬ (vP Tx ty 118 _).1 = -2 by rw [← h_v1]; omega), ← h_v2, ← h_v1]
            rw [rG_s1 (by decide) (show ¬ (rS Tx ty 44 _).1 = 0 by rw [← h_e1]; omega), ← h_e2]
            rw [rG_v0 (by decide) (show (vP Tx ty 118 _).1 = -2 by rw [← h_w1]; omega), ← h_w2]
            exact ⟨rfl, rfl, Or.inl rfl, ⟨by omega, by omega⟩, fun h => absurd h (by decide)⟩
          · refine lv_iconst (v := iI (1)) hx hb dX8_readsInsert_69 rfl ?_
            refine lv_goto (tgt := 74) hx hb dX8_readsInsert_70 (by decide) ?_
            refine z_mretZ ((sp_27, ta_4, ke_5, r_16, r_26)) hx hb hr hlocks dX8_readsInsert_74 (by omega) hP hD hS ?_
            obtain ⟨h_as, h_n1, h_n2, h_n3, h_n4⟩ := h_r5 (by omega)
            rw [e_a, if_neg (by omega), ← h_r2, h_as]
            rw [rG_s1 (by decide) (show ¬ (rS Tx ty 44 _).1 = 0 by rw [← h_c1]; omega), ← h_c2]
            rw [rG_v1 (by decide) (show ¬ (vP Tx ty 118 _).1 = -2 by rw [← h_v1]; omega), ← h_v2, ← h_v1]
            rw [rG_s1 (by decide) (show ¬ (rS Tx ty 44 _).1 = 0 by rw [← h_e1]; omega), ← h_e2]
            rw [rG_v1 (by decide) (show ¬ (vP Tx ty 118 _).1 = -2 by rw [← h_w1]; omega), ← h_w2, ← h_w1]
            exact ⟨rfl, rfl, Or.inr rfl, ⟨by omega, by omega⟩, fun _ => ⟨rfl, by dsimp only; omega, by dsimp only; omega, by dsimp only; omega, by dsimp only; omega, by dsimp only; omega, by dsimp only; omega, by dsimp only; omega, by dsimp only; omega⟩⟩

set_option maxHeartbeats 600000 in
set_option maxRecDepth 100000 in
theorem c_X8_readsUpdate (l : Launch) (D : va_G) (cI cZ cC : ClassId) (sz : Nat) (bd : Nat → Nat) (cn mp ty th sp ta ke on tw : Int) (Tx : Int → Int) (g_Tx : ∀ j : Int, 0 ≤ j → j < 80 → 0 ≤ Tx j ∧ Tx j < 128) (g_ty : 0 ≤ ty ∧ ty ≤ 80) (g_sp : 0 ≤ sp ∧ sp ≤ ty) : zMi l yX8_readsUpdate wsX8_readsUpdate ({ frames := 5, cells := 0, slots := 0, locals := 107 }) D cI cZ cC [(bd 0, .inr (8, [.ref (bd 1), .ref (bd 2), .ref (bd 3), .ref (bd 4), .ref (bd 5), .ref (bd 6), .ref (bd 7), .int (iI (cn)), .ref (bd 8), .int (iI (mp)), .ref (bd 9), .int (iI (ty)), .int (iI (th)), .ref (bd 10), .ref (bd 11), .int (iI (sp)), .int (iI (ta)), .int (iI (ke)), .int (iI (on)), .int (iI (tw))])), (bd 9, .inl (cC, 80, .inl (iA (Tx))))] sz [.ref (bd 0)] (0) (0) (fun (u : Int × Int × Int × Int × Int) => [(bd 0, .inr (8, [.ref (bd 1), .ref (bd 2), .ref (bd 3), .ref (bd 4), .ref (bd 5), .ref (bd 6), .ref (bd 7), .int (iI (cn)), .ref (bd 8), .int (iI (mp)), .ref (bd 9), .int (iI (ty)), .int (iI (th)), .ref (bd 10), .ref (bd 11), .int (iI (u.1)), .int (iI (u.2.1)), .int (iI (u.2.2.1)), .int (iI (u.2.2.2.1)), .int (iI (u.2.2.2.2))])), (bd 9, .inl (cC, 80, .inl (iA (Tx))))]) (fun v (u : Int × Int × Int × Int × Int) => v = (rG Tx ty [116, 44, 107, 44, 99, 44, 118] sp []).1 ∧ u.1 = (rG Tx ty [116, 44, 107, 44, 99, 44, 118] sp []).2.1 ∧ (v = 0 ∨ v = 1) ∧ (0 ≤ u.1 ∧ u.1 ≤ ty) ∧ (v = 1 → (rG Tx ty [116, 44, 107, 44, 99, 44, 118] sp []).2.2 = [u.2.1, u.2.2.1, u.2.2.2.1, u.2.2.2.2] ∧ 0 ≤ u.2.1 ∧ u.2.1 ≤ 3 ∧ 0 ≤ u.2.2.1 ∧ u.2.2.1 ≤ 19 ∧ 0 ≤ u.2.2.2.1 ∧ u.2.2.2.1 ≤ 1 ∧ -1 ≤ u.2.2.2.2 ∧ u.2.2.2.2 ≤ 19)) := by
  refine z_ofMi (cc := cX8_readsUpdate) (maxL := 1) (ret := (some .boolean)) RX8 (by decide +kernel) rfl rfl (Nat.le_of_ble_eq_true rfl) ?_
  intro p0 en0 s0 m0 args0 below0 meth0 c0 ls AA hx hb hr hlocks hml hown hts hP hD hS hA hK hl
  have hl : lv_has ls 1 [(0, .ref (bd 0))] := hl
  obtain ⟨H, hH⟩ : ∃ H, H = s0.heap := ⟨_, rfl⟩
  obtain ⟨locs, hlo⟩ : ∃ locs : List Loc, locs = [] := ⟨_, rfl⟩
  have hP : va_P D vwCl [(bd 0, .inr (8, [.ref (bd 1), .ref (bd 2), .ref (bd 3), .ref (bd 4), .ref (bd 5), .ref (bd 6), .ref (bd 7), .int (iI (cn)), .ref (bd 8), .int (iI (mp)), .ref (bd 9), .int (iI (ty)), .int (iI (th)), .ref (bd 10), .ref (bd 11), .int (iI (sp)), .int (iI (ta)), .int (iI (ke)), .int (iI (on)), .int (iI (tw))])), (bd 9, .inl (cC, 80, .inl (iA (Tx))))] H := by rw [hH]; exact hP
  have hS : va_S AA s0.heap H locs := by rw [hH, hlo]; exact hS
  suffices hW : W p0 l en0 (headSpec wsX8_readsUpdate ({ frames := 5, cells := 0, slots := 0, locals := 107 })).room s0 m0 args0 below0 meth0 c0 H locs 0 0 (QMi below0 D ((fun (u : Int × Int × Int × Int × Int) => [(bd 0, .inr (8, [.ref (bd 1), .ref (bd 2), .ref (bd 3), .ref (bd 4), .ref (bd 5), .ref (bd 6), .ref (bd 7), .int (iI (cn)), .ref (bd 8), .int (iI (mp)), .ref (bd 9), .int (iI (ty)), .int (iI (th)), .ref (bd 10), .ref (bd 11), .int (iI (u.1)), .int (iI (u.2.1)), .int (iI (u.2.2.1)), .int (iI (u.2.2.2.1)), .int (iI (u.2.2.2.2))])), (bd 9, .inl (cC, 80, .inl (iA (Tx))))])) (fun v (u : Int × Int × Int × Int × Int) => v = (rG Tx ty [116, 44, 107, 44, 99, 44, 118] sp []).1 ∧ u.1 = (rG Tx ty [116, 44, 107, 44, 99, 44, 118] sp []).2.1 ∧ (v = 0 ∨ v = 1) ∧ (0 ≤ u.1 ∧ u.1 ≤ ty) ∧ (v = 1 → (rG Tx ty [116, 44, 107, 44, 99, 44, 118] sp []).2.2 = [u.2.1, u.2.2.1, u.2.2.2.1, u.2.2.2.2] ∧ 0 ≤ u.2.1 ∧ u.2.1 ≤ 3 ∧ 0 ≤ u.2.2.1 ∧ u.2.2.1 ≤ 19 ∧ 0 ≤ u.2.2.2.1 ∧ u.2.2.2.1 ≤ 1 ∧ -1 ≤ u.2.2.2.2 ∧ u.2.2.2.2 ≤ 19)) AA args0 s0 (0) (0)) (F0 m0 0 ls []) by rw [hH, hlo] at hW; exact hW
  have e_a : rG Tx ty [116, 44, 107, 44, 99, 44, 118] sp [] = if (rG Tx ty [116, 44, 107] sp []).1 = 0 then rG Tx ty [116, 44, 107] sp [] else rG Tx ty [44, 99, 44, 118] (rG Tx ty [116, 44, 107] sp []).2.1 (rG Tx ty [116, 44, 107] sp []).2.2 := rG_app Tx ty [44, 99, 44, 118] [116, 44, 107] sp []
  have e_c : ∀ p : Int, vP Tx ty 99 p = rD Tx ty 1 p := fun _ => rfl
  refine lv_aload_n hx hb dX8_readsUpdate_0 rfl (lv_at hl 0 rfl) ?_
  refine lv_aload_n hx hb dX8_readsUpdate_1 rfl (lv_at hl 0 rfl) ?_
  refine z_muV (As := []) (rest := [.ref (bd 0)]) (wr := []) (ws2 := (fun (u : Int × Int × Int) => [(bd 0, .inr (8, [.ref (bd 1), .ref (bd 2), .ref (bd 3), .ref (bd 4), .ref (bd 5), .ref (bd 6), .ref (bd 7), .int (iI (cn)), .ref (bd 8), .int (iI (mp)), .ref (bd 9), .int (iI (ty)), .int (iI (th)), .ref (bd 10), .ref (bd 11), .int (iI (u.1)), .int (iI (u.2.1)), .int (iI (u.2.2)), .int (iI (on)), .int (iI (tw))])), (bd 9, .inl (cC, 80, .inl (iA (Tx))))])) ⟨hx, hb, hml, hown, hts⟩ (c_X8_readsRow l D cI cZ cC H.size (bd) (cn) (mp) (ty) (th) (sp) (ta) (ke) (on) (tw) (Tx) (by first | assumption | omega) (by first | assumption | omega) (by first | assumption | omega)) (cwV 0 hts gX8_readsUpdate_X8_readsRow rfl rfl rfl (by decide +kernel) ⟨Nat.le_of_ble_eq_true rfl, Nat.le_of_ble_eq_true rfl⟩) hP hD hS hA hK [0, 1] [] [0, 1] rfl (by decide) rfl (by decide) (by decide) (by decide) (fun _ => rfl) 0 8 rfl rfl rfl rfl hl.1 rfl (Nat.le_of_ble_eq_true rfl) dX8_readsUpdate_2 ⟨by omega, by omega⟩ (fun r_2 u H locs hq_1 hP hD hS => ?_)
  obtain ⟨sp_3, ta_4, ke_5⟩ := u
  have hP : va_P D vwCl [(bd 0, .inr (8, [.ref (bd 1), .ref (bd 2), .ref (bd 3), .ref (bd 4), .ref (bd 5), .ref (bd 6), .ref (bd 7), .int (iI (cn)), .ref (bd 8), .int (iI (mp)), .ref (bd 9), .int (iI (ty)), .int (iI (th)), .ref (bd 10), .ref (bd 11), .int (iI (sp_3)), .int (iI (ta_4)), .int (iI (ke_5)), .int (iI (on)), .int (iI (tw))])), (bd 9, .inl (cC, 80, .inl (iA (Tx))))] H := hP
  have hD : va_D AA [(bd 0, .inr (8, [.ref (bd 1), .ref (bd 2), .ref (bd 3), .ref (bd 4), .ref (bd 5), .ref (bd 6), .ref (bd 7), .int (iI (cn)), .ref (bd 8), .int (iI (mp)), .ref (bd 9), .int (iI (ty)), .int (iI (th)), .ref (bd 10), .ref (bd 11), .int (iI (sp_3)), .int (iI (ta_4)), .int (iI (ke_5)), .int (iI (on)), .int (iI (tw))])), (bd 9, .inl (cC, 80, .inl (iA (Tx))))] := hD
  try dsimp only at hq_1
  obtain ⟨h_r1, h_r2, h_r3, h_r4, h_r5⟩ := hq_1
  refine z_if_eq (tgt := 26) hx hb dX8_readsUpdate_5 (by decide) ⟨by omega, by omega⟩ (fun c_6 => ?_) (fun c_6 => ?_)
  · refine lv_bipush (v := iI (-2)) hx hb dX8_readsUpdate_26 (by decide) ?_
    refine va_put (D := D) (ci := 8) (v := .int (iI ((-2)))) (ty := .int) (C := RX8) (T := TX8) (N := 20) hx hb hts (fun _ h => List.mem_cons_of_mem _ (List.mem_append_right _ (h))) tyX8 tyX8_ok nmX8 hown hK.1 hP hD hS 0 rfl rfl 18 (by decide) (hts (.fieldLink RX8 173 "ForeignKeyStoreModel" "one" "I") (List.mem_of_getElem? (i := 1) rfl)) (fun _ h9 => h9) rfl (by decide +kernel) rfl rfl (Nat.le_of_ble_eq_true rfl) dX8_readsUpdate_28 (fun H locs hP hD hS => ?_)
    have hP : va_P D vwCl [(bd 0, .inr (8, [.ref (bd 1), .ref (bd 2), .ref (bd 3), .ref (bd 4), .ref (bd 5), .ref (bd 6), .ref (bd 7), .int (iI (cn)), .ref (bd 8), .int (iI (mp)), .ref (bd 9), .int (iI (ty)), .int (iI (th)), .ref (bd 10), .ref (bd 11), .int (iI (sp_3)), .int (iI (ta_4)), .int (iI (ke_5)), .int (iI ((-2))), .int (iI (tw))])), (bd 9, .inl (cC, 80, .inl (iA (Tx))))] H := hP
    have hD : va_D AA [(bd 0, .inr (8, [.ref (bd 1), .ref (bd 2), .ref (bd 3), .ref (bd 4), .ref (bd 5), .ref (bd 6), .ref (bd 7), .int (iI (cn)), .ref (bd 8), .int (iI (mp)), .ref (bd 9), .int (iI (ty)), .int (iI (th)), .ref (bd 10), .ref (bd 11), .int (iI (sp_3)), .int (iI (ta_4)), .int (iI (ke_5)), .int (iI ((-2))), .int (iI (tw))])), (bd 9, .inl (cC, 80, .inl (iA (Tx))))] := hD
    refine lv_aload_n hx hb dX8_readsUpdate_31 rfl (lv_at hl 0 rfl) ?_
    refine lv_aload_n hx hb dX8_readsUpdate_32 rfl (lv_at hl 0 rfl) ?_
    refine va_get (D := D) (ci := 8) (v := .int (iI ((-2)))) (C := RX8) (T := TX8) (N := 20) hx hb hts (fun _ h => List.mem_cons_of_mem _ (List.mem_append_right _ (h))) hown hK.1 hP 0 rfl rfl 18 (by decide) (hts (.fieldLink RX8 173 "ForeignKeyStoreModel" "one" "I") (List.mem_of_getElem? (i := 1) rfl)) (fun _ h9 => h9) rfl dX8_readsUpdate_33 ?_
    refine lv_bipush (v := iI (-2)) hx hb dX8_readsUpdate_36 (by decide) ?_
    refine z_icmp_eq (tgt := 57) hx hb dX8_readsUpdate_38 (by decide) ⟨⟨by omega, by omega⟩, ⟨by omega, by omega⟩⟩ (fun c_7 => ?_) (fun c_7 => ?_)
    · refine lv_bipush (v := iI (-2)) hx hb dX8_readsUpdate_57 (by decide) ?_
      refine va_put (D := D) (ci := 8) (v := .int (iI ((-2)))) (ty := .int) (C := RX8) (T := TX8) (N := 20) hx hb hts (fun _ h => List.mem_cons_of_mem _ (List.mem_append_right _ (h))) tyX8 tyX8_ok nmX8 hown hK.1 hP hD hS 0 rfl rfl 19 (by decide) (hts (.fieldLink RX8 176 "ForeignKeyStoreModel" "two" "I") (List.mem_of_getElem? (i := 2) rfl)) (fun _ h9 => h9) rfl (by decide +kernel) rfl rfl (Nat.le_of_ble_eq_true rfl) dX8_readsUpdate_59 (fun H locs hP hD hS => ?_)
      have hP : va_P D vwCl [(bd 0, .inr (8, [.ref (bd 1), .ref (bd 2), .ref (bd 3), .ref (bd 4), .ref (bd 5), .ref (bd 6), .ref (bd 7), .int (iI (cn)), .ref (bd 8), .int (iI (mp)), .ref (bd 9), .int (iI (ty)), .int (iI (th)), .ref (bd 10), .ref (bd 11), .int (iI (sp_3)), .int (iI (ta_4)), .int (iI (ke_5)), .int (iI ((-2))), .int (iI ((-2)))])), (bd 9, .inl (cC, 80, .inl (iA (Tx))))] H := hP
      have hD : va_D AA [(bd 0, .inr (8, [.ref (bd 1), .ref (bd 2), .ref (bd 3), .ref (bd 4), .ref (bd 5), .ref (bd 6), .ref (bd 7), .int (iI (cn)), .ref (bd 8), .int (iI (mp)), .ref (bd 9), .int (iI (ty)), .int (iI (th)), .ref (bd 10), .ref (bd 11), .int (iI (sp_3)), .int (iI (ta_4)), .int (iI (ke_5)), .int (iI ((-2))), .int (iI ((-2)))])), (bd 9, .inl (cC, 80, .inl (iA (Tx))))] := hD
      refine lv_aload_n hx hb dX8_readsUpdate_62 rfl (lv_at hl 0 rfl) ?_
      refine va_get (D := D) (ci := 8) (v := .int (iI ((-2)))) (C := RX8) (T := TX8) (N := 20) hx hb hts (fun _ h => List.mem_cons_of_mem _ (List.mem_append_right _ (h))) hown hK.1 hP 0 rfl rfl 19 (by decide) (hts (.fieldLink RX8 176 "ForeignKeyStoreModel" "two" "I") (List.mem_of_getElem? (i := 2) rfl)) (fun _ h9 => h9) rfl dX8_readsUpdate_63 ?_
      refine lv_bipush (v := iI (-2)) hx hb dX8_readsUpdate_66 (by decide) ?_
      refine z_icmp_eq (tgt := 75) hx hb dX8_readsUpdate_68 (by decide) ⟨⟨by omega, by omega⟩, ⟨by omega, by omega⟩⟩ (fun c_8 => ?_) (fun c_8 => ?_)
      · refine lv_iconst (v := iI (0)) hx hb dX8_readsUpdate_75 rfl ?_
        refine z_mretZ ((sp_3, ta_4, ke_5, (-2), (-2))) hx hb hr hlocks dX8_readsUpdate_76 (by omega) hP hD hS ?_
        rw [e_a, if_pos (by omega)]
        exact ⟨by omega, h_r2, Or.inl rfl, ⟨by omega, by omega⟩, fun h => absurd h (by decide)⟩
      · exfalso
        omega
    · exfalso
      omega
  · refine lv_aload_n hx hb dX8_readsUpdate_8 rfl (lv_at hl 0 rfl) ?_
    refine lv_bipush (v := iI (44)) hx hb dX8_readsUpdate_9 (by decide) ?_
    refine z_muV (As := [.int (iI (44))]) (rest := [.ref (bd 0)]) (wr := []) (ws2 := (fun (u : Int) => [(bd 0, .inr (8, [.ref (bd 1), .ref (bd 2), .ref (bd 3), .ref (bd 4), .ref (bd 5), .ref (bd 6), .ref (bd 7), .int (iI (cn)), .ref (bd 8), .int (iI (mp)), .ref (bd 9), .int (iI (ty)), .int (iI (th)), .ref (bd 10), .ref (bd 11), .int (iI (u)), .int (iI (ta_4)), .int (iI (ke_5)), .int (iI (on)), .int (iI (tw))])), (bd 9, .inl (cC, 80, .inl (iA (Tx))))])) ⟨hx, hb, hml, hown, hts⟩ (c_X8_takes l D cI cZ cC H.size (bd) (cn) (mp) (ty) (th) (sp_3) (ta_4) (ke_5) (on) (tw) (Tx) (44) (by first | assumption | omega) (by first | assumption | omega) (by first | assumption | omega) (by first | assumption | omega)) (cwV 1 hts gX8_readsUpdate_X8_takes rfl rfl rfl (by decide +kernel) ⟨Nat.le_of_ble_eq_true rfl, Nat.le_of_ble_eq_true rfl⟩) hP hD hS hA hK [0, 1] [] [0, 1] rfl (by decide) rfl (by decide) (by decide) (by decide) (fun _ => rfl) 0 8 rfl rfl rfl rfl hl.1 rfl (Nat.le_of_ble_eq_true rfl) dX8_readsUpdate_11 ⟨by omega, by omega⟩ (fun r_10 u H locs hq_9 hP hD hS => ?_)
    obtain ⟨sp_11, rfl⟩ : ∃ z, z = u := ⟨_, rfl⟩
    have hP : va_P D vwCl [(bd 0, .inr (8, [.ref (bd 1), .ref (bd 2), .ref (bd 3), .ref (bd 4), .ref (bd 5), .ref (bd 6), .ref (bd 7), .int (iI (cn)), .ref (bd 8), .int (iI (mp)), .ref (bd 9), .int (iI (ty)), .int (iI (th)), .ref (bd 10), .ref (bd 11), .int (iI (sp_11)), .int (iI (ta_4)), .int (iI (ke_5)), .int (iI (on)), .int (iI (tw))])), (bd 9, .inl (cC, 80, .inl (iA (Tx))))] H := hP
    have hD : va_D AA [(bd 0, .inr (8, [.ref (bd 1), .ref (bd 2), .ref (bd 3), .ref (bd 4), .ref (bd 5), .ref (bd 6), .ref (bd 7), .int (iI (cn)), .ref (bd 8), .int (iI (mp)), .ref (bd 9), .int (iI (ty)), .int (iI (th)), .ref (bd 10), .ref (bd 11), .int (iI (sp_11)), .int (iI (ta_4)), .int (iI (ke_5)), .int (iI (on)), .int (iI (tw))])), (bd 9, .inl (cC, 80, .inl (iA (Tx))))] := hD
    try dsimp only at hq_9
    obtain ⟨h_c, h_cv, h_cu⟩ := hq_9
    have h_c1 : r_10 = (rS Tx ty 44 sp_3).1 := congrArg Prod.fst h_c
    have h_c2 : sp_11 = (rS Tx ty 44 sp_3).2 := congrArg Prod.snd h_c
    refine z_if_eq (tgt := 26) hx hb dX8_readsUpdate_14 (by decide) ⟨by omega, by omega⟩ (fun c_12 => ?_) (fun c_12 => ?_)
    · refine lv_bipush (v := iI (-2)) hx hb dX8_readsUpdate_26 (by decide) ?_
      refine va_put (D := D) (ci := 8) (v := .int (iI ((-2)))) (ty := .int) (C := RX8) (T := TX8) (N := 20) hx hb hts (fun _ h => List.mem_cons_of_mem _ (List.mem_append_right _ (h))) tyX8 tyX8_ok nmX8 hown hK.1 hP hD hS 0 rfl rfl 18 (by decide) (hts (.fieldLink RX8 173 "ForeignKeyStoreModel" "one" "I") (List.mem_of_getElem? (i := 1) rfl)) (fun _ h9 => h9) rfl (by decide +kernel) rfl rfl (Nat.le_of_ble_eq_true rfl) dX8_readsUpdate_28 (fun H locs hP hD hS => ?_)
      have hP : va_P D vwCl [(bd 0, .inr (8, [.ref (bd 1), .ref (bd 2), .ref (bd 3), .ref (bd 4), .ref (bd 5), .ref (bd 6), .ref (bd 7), .int (iI (cn)), .ref (bd 8), .int (iI (mp)), .ref (bd 9), .int (iI (ty)), .int (iI (th)), .ref (bd 10), .ref (bd 11), .int (iI (sp_11)), .int (iI (ta_4)), .int (iI (ke_5)), .int (iI ((-2))), .int (iI (tw))])), (bd 9, .inl (cC, 80, .inl (iA (Tx))))] H := hP
      have hD : va_D AA [(bd 0, .inr (8, [.ref (bd 1), .ref (bd 2), .ref (bd 3), .ref (bd 4), .ref (bd 5), .ref (bd 6), .ref (bd 7), .int (iI (cn)), .ref (bd 8), .int (iI (mp)), .ref (bd 9), .int (iI (ty)), .int (iI (th)), .ref (bd 10), .ref (bd 11), .int (iI (sp_11)), .int (iI (ta_4)), .int (iI (ke_5)), .int (iI ((-2))), .int (iI (tw))])), (bd 9, .inl (cC, 80, .inl (iA (Tx))))] := hD
      refine lv_aload_n hx hb dX8_readsUpdate_31 rfl (lv_at hl 0 rfl) ?_
      refine lv_aload_n hx hb dX8_readsUpdate_32 rfl (lv_at hl 0 rfl) ?_
      refine va_get (D := D) (ci := 8) (v := .int (iI ((-2)))) (C := RX8) (T := TX8) (N := 20) hx hb hts (fun _ h => List.mem_cons_of_mem _ (List.mem_append_right _ (h))) hown hK.1 hP 0 rfl rfl 18 (by decide) (hts (.fieldLink RX8 173 "ForeignKeyStoreModel" "one" "I") (List.mem_of_getElem? (i := 1) rfl)) (fun _ h9 => h9) rfl dX8_readsUpdate_33 ?_
      refine lv_bipush (v := iI (-2)) hx hb dX8_readsUpdate_36 (by decide) ?_
      refine z_icmp_eq (tgt := 57) hx hb dX8_readsUpdate_38 (by decide) ⟨⟨by omega, by omega⟩, ⟨by omega, by omega⟩⟩ (fun c_13 => ?_) (fun c_13 => ?_)
      · refine lv_bipush (v := iI (-2)) hx hb dX8_readsUpdate_57 (by decide) ?_
        refine va_put (D := D) (ci := 8) (v := .int (iI ((-2)))) (ty := .int) (C := RX8) (T := TX8) (N := 20) hx hb hts (fun _ h => List.mem_cons_of_mem _ (List.mem_append_right _ (h))) tyX8 tyX8_ok nmX8 hown hK.1 hP hD hS 0 rfl rfl 19 (by decide) (hts (.fieldLink RX8 176 "ForeignKeyStoreModel" "two" "I") (List.mem_of_getElem? (i := 2) rfl)) (fun _ h9 => h9) rfl (by decide +kernel) rfl rfl (Nat.le_of_ble_eq_true rfl) dX8_readsUpdate_59 (fun H locs hP hD hS => ?_)
        have hP : va_P D vwCl [(bd 0, .inr (8, [.ref (bd 1), .ref (bd 2), .ref (bd 3), .ref (bd 4), .ref (bd 5), .ref (bd 6), .ref (bd 7), .int (iI (cn)), .ref (bd 8), .int (iI (mp)), .ref (bd 9), .int (iI (ty)), .int (iI (th)), .ref (bd 10), .ref (bd 11), .int (iI (sp_11)), .int (iI (ta_4)), .int (iI (ke_5)), .int (iI ((-2))), .int (iI ((-2)))])), (bd 9, .inl (cC, 80, .inl (iA (Tx))))] H := hP
        have hD : va_D AA [(bd 0, .inr (8, [.ref (bd 1), .ref (bd 2), .ref (bd 3), .ref (bd 4), .ref (bd 5), .ref (bd 6), .ref (bd 7), .int (iI (cn)), .ref (bd 8), .int (iI (mp)), .ref (bd 9), .int (iI (ty)), .int (iI (th)), .ref (bd 10), .ref (bd 11), .int (iI (sp_11)), .int (iI (ta_4)), .int (iI (ke_5)), .int (iI ((-2))), .int (iI ((-2)))])), (bd 9, .inl (cC, 80, .inl (iA (Tx))))] := hD
        refine lv_aload_n hx hb dX8_readsUpdate_62 rfl (lv_at hl 0 rfl) ?_
        refine va_get (D := D) (ci := 8) (v := .int (iI ((-2)))) (C := RX8) (T := TX8) (N := 20) hx hb hts (fun _ h => List.mem_cons_of_mem _ (List.mem_append_right _ (h))) hown hK.1 hP 0 rfl rfl 19 (by decide) (hts (.fieldLink RX8 176 "ForeignKeyStoreModel" "two" "I") (List.mem_of_getElem? (i := 2) rfl)) (fun _ h9 => h9) rfl dX8_readsUpdate_63 ?_
        refine lv_bipush (v := iI (-2)) hx hb dX8_readsUpdate_66 (by decide) ?_
        refine z_icmp_eq (tgt := 75) hx hb dX8_readsUpdate_68 (by decide) ⟨⟨by omega, by omega⟩, ⟨by omega, by omega⟩⟩ (fun c_14 => ?_) (fun c_14 => ?_)
        · refine lv_iconst (v := iI (0)) hx hb dX8_readsUpdate_75 rfl ?_
          refine z_mretZ ((sp_11, ta_4, ke_5, (-2), (-2))) hx hb hr hlocks dX8_readsUpdate_76 (by omega) hP hD hS ?_
          obtain ⟨h_as, h_n1, h_n2, h_n3, h_n4⟩ := h_r5 (by omega)
          rw [e_a, if_neg (by omega), ← h_r2, h_as]
          rw [rG_s0 (by decide) (show (rS Tx ty 44 _).1 = 0 by rw [← h_c1]; omega), ← h_c2]
          exact ⟨rfl, rfl, Or.inl rfl, ⟨by omega, by omega⟩, fun h => absurd h (by decide)⟩
        · exfalso
          omega
      · exfalso
        omega
    · refine lv_aload_n hx hb dX8_readsUpdate_17 rfl (lv_at hl 0 rfl) ?_
      refine lv_bipush (v := iI (49)) hx hb dX8_readsUpdate_18 (by decide) ?_
      refine z_muV (As := [.int (iI (49))]) (rest := [.ref (bd 0)]) (wr := []) (ws2 := (fun (u : Int) => [(bd 0, .inr (8, [.ref (bd 1), .ref (bd 2), .ref (bd 3), .ref (bd 4), .ref (bd 5), .ref (bd 6), .ref (bd 7), .int (iI (cn)), .ref (bd 8), .int (iI (mp)), .ref (bd 9), .int (iI (ty)), .int (iI (th)), .ref (bd 10), .ref (bd 11), .int (iI (u)), .int (iI (ta_4)), .int (iI (ke_5)), .int (iI (on)), .int (iI (tw))])), (bd 9, .inl (cC, 80, .inl (iA (Tx))))])) ⟨hx, hb, hml, hown, hts⟩ (c_X8_digit l D cI cZ cC H.size (bd) (cn) (mp) (ty) (th) (sp_11) (ta_4) (ke_5) (on) (tw) (Tx) (49) (by first | assumption | omega) (by first | assumption | omega) (by first | assumption | omega) (by first | assumption | omega)) (cwV 1 hts gX8_readsUpdate_X8_digit rfl rfl rfl (by decide +kernel) ⟨Nat.le_of_ble_eq_true rfl, Nat.le_of_ble_eq_true rfl⟩) hP hD hS hA hK [0, 1] [] [0, 1] rfl (by decide) rfl (by decide) (by decide) (by decide) (fun _ => rfl) 0 8 rfl rfl rfl rfl hl.1 rfl (Nat.le_of_ble_eq_true rfl) dX8_readsUpdate_20 ⟨by omega, by omega⟩ (fun r_16 u H locs hq_15 hP hD hS => ?_)
      obtain ⟨sp_17, rfl⟩ : ∃ z, z = u := ⟨_, rfl⟩
      have hP : va_P D vwCl [(bd 0, .inr (8, [.ref (bd 1), .ref (bd 2), .ref (bd 3), .ref (bd 4), .ref (bd 5), .ref (bd 6), .ref (bd 7), .int (iI (cn)), .ref (bd 8), .int (iI (mp)), .ref (bd 9), .int (iI (ty)), .int (iI (th)), .ref (bd 10), .ref (bd 11), .int (iI (sp_17)), .int (iI (ta_4)), .int (iI (ke_5)), .int (iI (on)), .int (iI (tw))])), (bd 9, .inl (cC, 80, .inl (iA (Tx))))] H := hP
      have hD : va_D AA [(bd 0, .inr (8, [.ref (bd 1), .ref (bd 2), .ref (bd 3), .ref (bd 4), .ref (bd 5), .ref (bd 6), .ref (bd 7), .int (iI (cn)), .ref (bd 8), .int (iI (mp)), .ref (bd 9), .int (iI (ty)), .int (iI (th)), .ref (bd 10), .ref (bd 11), .int (iI (sp_17)), .int (iI (ta_4)), .int (iI (ke_5)), .int (iI (on)), .int (iI (tw))])), (bd 9, .inl (cC, 80, .inl (iA (Tx))))] := hD
      try dsimp only at hq_15
      obtain ⟨h_v, h_vv, h_vu⟩ := hq_15
      have h_v1 : r_16 = (rD Tx ty 1 sp_11).1 := congrArg Prod.fst h_v
      have h_v2 : sp_17 = (rD Tx ty 1 sp_11).2 := congrArg Prod.snd h_v
      refine lv_goto (tgt := 28) hx hb dX8_readsUpdate_23 (by decide) ?_
      refine va_put (D := D) (ci := 8) (v := .int (iI (r_16))) (ty := .int) (C := RX8) (T := TX8) (N := 20) hx hb hts (fun _ h => List.mem_cons_of_mem _ (List.mem_append_right _ (h))) tyX8 tyX8_ok nmX8 hown hK.1 hP hD hS 0 rfl rfl 18 (by decide) (hts (.fieldLink RX8 173 "ForeignKeyStoreModel" "one" "I") (List.mem_of_getElem? (i := 1) rfl)) (fun _ h9 => h9) rfl (by decide +kernel) rfl rfl (Nat.le_of_ble_eq_true rfl) dX8_readsUpdate_28 (fun H locs hP hD hS => ?_)
      have hP : va_P D vwCl [(bd 0, .inr (8, [.ref (bd 1), .ref (bd 2), .ref (bd 3), .ref (bd 4), .ref (bd 5), .ref (bd 6), .ref (bd 7), .int (iI (cn)), .ref (bd 8), .int (iI (mp)), .ref (bd 9), .int (iI (ty)), .int (iI (th)), .ref (bd 10), .ref (bd 11), .int (iI (sp_17)), .int (iI (ta_4)), .int (iI (ke_5)), .int (iI (r_16)), .int (iI (tw))])), (bd 9, .inl (cC, 80, .inl (iA (Tx))))] H := hP
      have hD : va_D AA [(bd 0, .inr (8, [.ref (bd 1), .ref (bd 2), .ref (bd 3), .ref (bd 4), .ref (bd 5), .ref (bd 6), .ref (bd 7), .int (iI (cn)), .ref (bd 8), .int (iI (mp)), .ref (bd 9), .int (iI (ty)), .int (iI (th)), .ref (bd 10), .ref (bd 11), .int (iI (sp_17)), .int (iI (ta_4)), .int (iI (ke_5)), .int (iI (r_16)), .int (iI (tw))])), (bd 9, .inl (cC, 80, .inl (iA (Tx))))] := hD
      refine lv_aload_n hx hb dX8_readsUpdate_31 rfl (lv_at hl 0 rfl) ?_
      refine lv_aload_n hx hb dX8_readsUpdate_32 rfl (lv_at hl 0 rfl) ?_
      refine va_get (D := D) (ci := 8) (v := .int (iI (r_16))) (C := RX8) (T := TX8) (N := 20) hx hb hts (fun _ h => List.mem_cons_of_mem _ (List.mem_append_right _ (h))) hown hK.1 hP 0 rfl rfl 18 (by decide) (hts (.fieldLink RX8 173 "ForeignKeyStoreModel" "one" "I") (List.mem_of_getElem? (i := 1) rfl)) (fun _ h9 => h9) rfl dX8_readsUpdate_33 ?_
      refine lv_bipush (v := iI (-2)) hx hb dX8_readsUpdate_36 (by decide) ?_
      refine z_icmp_eq (tgt := 57) hx hb dX8_readsUpdate_38 (by decide) ⟨⟨by omega, by omega⟩, ⟨by omega, by omega⟩⟩ (fun c_18 => ?_) (fun c_18 => ?_)
      · refine lv_bipush (v := iI (-2)) hx hb dX8_readsUpdate_57 (by decide) ?_
        refine va_put (D := D) (ci := 8) (v := .int (iI ((-2)))) (ty := .int) (C := RX8) (T := TX8) (N := 20) hx hb hts (fun _ h => List.mem_cons_of_mem _ (List.mem_append_right _ (h))) tyX8 tyX8_ok nmX8 hown hK.1 hP hD hS 0 rfl rfl 19 (by decide) (hts (.fieldLink RX8 176 "ForeignKeyStoreModel" "two" "I") (List.mem_of_getElem? (i := 2) rfl)) (fun _ h9 => h9) rfl (by decide +kernel) rfl rfl (Nat.le_of_ble_eq_true rfl) dX8_readsUpdate_59 (fun H locs hP hD hS => ?_)
        have hP : va_P D vwCl [(bd 0, .inr (8, [.ref (bd 1), .ref (bd 2), .ref (bd 3), .ref (bd 4), .ref (bd 5), .ref (bd 6), .ref (bd 7), .int (iI (cn)), .ref (bd 8), .int (iI (mp)), .ref (bd 9), .int (iI (ty)), .int (iI (th)), .ref (bd 10), .ref (bd 11), .int (iI (sp_17)), .int (iI (ta_4)), .int (iI (ke_5)), .int (iI (r_16)), .int (iI ((-2)))])), (bd 9, .inl (cC, 80, .inl (iA (Tx))))] H := hP
        have hD : va_D AA [(bd 0, .inr (8, [.ref (bd 1), .ref (bd 2), .ref (bd 3), .ref (bd 4), .ref (bd 5), .ref (bd 6), .ref (bd 7), .int (iI (cn)), .ref (bd 8), .int (iI (mp)), .ref (bd 9), .int (iI (ty)), .int (iI (th)), .ref (bd 10), .ref (bd 11), .int (iI (sp_17)), .int (iI (ta_4)), .int (iI (ke_5)), .int (iI (r_16)), .int (iI ((-2)))])), (bd 9, .inl (cC, 80, .inl (iA (Tx))))] := hD
        refine lv_aload_n hx hb dX8_readsUpdate_62 rfl (lv_at hl 0 rfl) ?_
        refine va_get (D := D) (ci := 8) (v := .int (iI ((-2)))) (C := RX8) (T := TX8) (N := 20) hx hb hts (fun _ h => List.mem_cons_of_mem _ (List.mem_append_right _ (h))) hown hK.1 hP 0 rfl rfl 19 (by decide) (hts (.fieldLink RX8 176 "ForeignKeyStoreModel" "two" "I") (List.mem_of_getElem? (i := 2) rfl)) (fun _ h9 => h9) rfl dX8_readsUpdate_63 ?_
        refine lv_bipush (v := iI (-2)) hx hb dX8_readsUpdate_66 (by decide) ?_
        refine z_icmp_eq (tgt := 75) hx hb dX8_readsUpdate_68 (by decide) ⟨⟨by omega, by omega⟩, ⟨by omega, by omega⟩⟩ (fun c_19 => ?_) (fun c_19 => ?_)
        · refine lv_iconst (v := iI (0)) hx hb dX8_readsUpdate_75 rfl ?_
          refine z_mretZ ((sp_17, ta_4, ke_5, r_16, (-2))) hx hb hr hlocks dX8_readsUpdate_76 (by omega) hP hD hS ?_
          obtain ⟨h_as, h_n1, h_n2, h_n3, h_n4⟩ := h_r5 (by omega)
          rw [e_a, if_neg (by omega), ← h_r2, h_as]
          rw [rG_s1 (by decide) (show ¬ (rS Tx ty 44 _).1 = 0 by rw [← h_c1]; omega), ← h_c2]
          rw [rG_v0 (by decide) (show (vP Tx ty 99 _).1 = -2 by rw [e_c, ← h_v1]; omega), e_c, ← h_v2]
          exact ⟨rfl, rfl, Or.inl rfl, ⟨by omega, by omega⟩, fun h => absurd h (by decide)⟩
        · exfalso
          omega
      · refine lv_aload_n hx hb dX8_readsUpdate_41 rfl (lv_at hl 0 rfl) ?_
        refine lv_bipush (v := iI (44)) hx hb dX8_readsUpdate_42 (by decide) ?_
        refine z_muV (As := [.int (iI (44))]) (rest := [.ref (bd 0)]) (wr := []) (ws2 := (fun (u : Int) => [(bd 0, .inr (8, [.ref (bd 1), .ref (bd 2), .ref (bd 3), .ref (bd 4), .ref (bd 5), .ref (bd 6), .ref (bd 7), .int (iI (cn)), .ref (bd 8), .int (iI (mp)), .ref (bd 9), .int (iI (ty)), .int (iI (th)), .ref (bd 10), .ref (bd 11), .int (iI (u)), .int (iI (ta_4)), .int (iI (ke_5)), .int (iI (r_16)), .int (iI (tw))])), (bd 9, .inl (cC, 80, .inl (iA (Tx))))])) ⟨hx, hb, hml, hown, hts⟩ (c_X8_takes l D cI cZ cC H.size (bd) (cn) (mp) (ty) (th) (sp_17) (ta_4) (ke_5) (r_16) (tw) (Tx) (44) (by first | assumption | omega) (by first | assumption | omega) (by first | assumption | omega) (by first | assumption | omega)) (cwV 1 hts gX8_readsUpdate_X8_takes rfl rfl rfl (by decide +kernel) ⟨Nat.le_of_ble_eq_true rfl, Nat.le_of_ble_eq_true rfl⟩) hP hD hS hA hK [0, 1] [] [0, 1] rfl (by decide) rfl (by decide) (by decide) (by decide) (fun _ => rfl) 0 8 rfl rfl rfl rfl hl.1 rfl (Nat.le_of_ble_eq_true rfl) dX8_readsUpdate_44 ⟨by omega, by omega⟩ (fun r_21 u H locs hq_20 hP hD hS => ?_)
        obtain ⟨sp_22, rfl⟩ : ∃ z, z = u := ⟨_, rfl⟩
        have hP : va_P D vwCl [(bd 0, .inr (8, [.ref (bd 1), .ref (bd 2), .ref (bd 3), .ref (bd 4), .ref (bd 5), .ref (bd 6), .ref (bd 7), .int (iI (cn)), .ref (bd 8), .int (iI (mp)), .ref (bd 9), .int (iI (ty)), .int (iI (th)), .ref (bd 10), .ref (bd 11), .int (iI (sp_22)), .int (iI (ta_4)), .int (iI (ke_5)), .int (iI (r_16)), .int (iI (tw))])), (bd 9, .inl (cC, 80, .inl (iA (Tx))))] H := hP
        have hD : va_D AA [(bd 0, .inr (8, [.ref (bd 1), .ref (bd 2), .ref (bd 3), .ref (bd 4), .ref (bd 5), .ref (bd 6), .ref (bd 7), .int (iI (cn)), .ref (bd 8), .int (iI (mp)), .ref (bd 9), .int (iI (ty)), .int (iI (th)), .ref (bd 10), .ref (bd 11), .int (iI (sp_22)), .int (iI (ta_4)), .int (iI (ke_5)), .int (iI (r_16)), .int (iI (tw))])), (bd 9, .inl (cC, 80, .inl (iA (Tx))))] := hD
        try dsimp only at hq_20
        obtain ⟨h_e, h_ev, h_eu⟩ := hq_20
        have h_e1 : r_21 = (rS Tx ty 44 sp_17).1 := congrArg Prod.fst h_e
        have h_e2 : sp_22 = (rS Tx ty 44 sp_17).2 := congrArg Prod.snd h_e
        refine z_if_eq (tgt := 57) hx hb dX8_readsUpdate_47 (by decide) ⟨by omega, by omega⟩ (fun c_23 => ?_) (fun c_23 => ?_)
        · refine lv_bipush (v := iI (-2)) hx hb dX8_readsUpdate_57 (by decide) ?_
          refine va_put (D := D) (ci := 8) (v := .int (iI ((-2)))) (ty := .int) (C := RX8) (T := TX8) (N := 20) hx hb hts (fun _ h => List.mem_cons_of_mem _ (List.mem_append_right _ (h))) tyX8 tyX8_ok nmX8 hown hK.1 hP hD hS 0 rfl rfl 19 (by decide) (hts (.fieldLink RX8 176 "ForeignKeyStoreModel" "two" "I") (List.mem_of_getElem? (i := 2) rfl)) (fun _ h9 => h9) rfl (by decide +kernel) rfl rfl (Nat.le_of_ble_eq_true rfl) dX8_readsUpdate_59 (fun H locs hP hD hS => ?_)
          have hP : va_P D vwCl [(bd 0, .inr (8, [.ref (bd 1), .ref (bd 2), .ref (bd 3), .ref (bd 4), .ref (bd 5), .ref (bd 6), .ref (bd 7), .int (iI (cn)), .ref (bd 8), .int (iI (mp)), .ref (bd 9), .int (iI (ty)), .int (iI (th)), .ref (bd 10), .ref (bd 11), .int (iI (sp_22)), .int (iI (ta_4)), .int (iI (ke_5)), .int (iI (r_16)), .int (iI ((-2)))])), (bd 9, .inl (cC, 80, .inl (iA (Tx))))] H := hP
          have hD : va_D AA [(bd 0, .inr (8, [.ref (bd 1), .ref (bd 2), .ref (bd 3), .ref (bd 4), .ref (bd 5), .ref (bd 6), .ref (bd 7), .int (iI (cn)), .ref (bd 8), .int (iI (mp)), .ref (bd 9), .int (iI (ty)), .int (iI (th)), .ref (bd 10), .ref (bd 11), .int (iI (sp_22)), .int (iI (ta_4)), .int (iI (ke_5)), .int (iI (r_16)), .int (iI ((-2)))])), (bd 9, .inl (cC, 80, .inl (iA (Tx))))] := hD
          refine lv_aload_n hx hb dX8_readsUpdate_62 rfl (lv_at hl 0 rfl) ?_
          refine va_get (D := D) (ci := 8) (v := .int (iI ((-2)))) (C := RX8) (T := TX8) (N := 20) hx hb hts (fun _ h => List.mem_cons_of_mem _ (List.mem_append_right _ (h))) hown hK.1 hP 0 rfl rfl 19 (by decide) (hts (.fieldLink RX8 176 "ForeignKeyStoreModel" "two" "I") (List.mem_of_getElem? (i := 2) rfl)) (fun _ h9 => h9) rfl dX8_readsUpdate_63 ?_
          refine lv_bipush (v := iI (-2)) hx hb dX8_readsUpdate_66 (by decide) ?_
          refine z_icmp_eq (tgt := 75) hx hb dX8_readsUpdate_68 (by decide) ⟨⟨by omega, by omega⟩, ⟨by omega, by omega⟩⟩ (fun c_24 => ?_) (fun c_24 => ?_)
          · refine lv_iconst (v := iI (0)) hx hb dX8_readsUpdate_75 rfl ?_
            refine z_mretZ ((sp_22, ta_4, ke_5, r_16, (-2))) hx hb hr hlocks dX8_readsUpdate_76 (by omega) hP hD hS ?_
            obtain ⟨h_as, h_n1, h_n2, h_n3, h_n4⟩ := h_r5 (by omega)
            rw [e_a, if_neg (by omega), ← h_r2, h_as]
            rw [rG_s1 (by decide) (show ¬ (rS Tx ty 44 _).1 = 0 by rw [← h_c1]; omega), ← h_c2]
            rw [rG_v1 (by decide) (show ¬ (vP Tx ty 99 _).1 = -2 by rw [e_c, ← h_v1]; omega), e_c, ← h_v2, ← h_v1]
            rw [rG_s0 (by decide) (show (rS Tx ty 44 _).1 = 0 by rw [← h_e1]; omega), ← h_e2]
            exact ⟨rfl, rfl, Or.inl rfl, ⟨by omega, by omega⟩, fun h => absurd h (by decide)⟩
          · exfalso
            omega
        · refine lv_aload_n hx hb dX8_readsUpdate_50 rfl (lv_at hl 0 rfl) ?_
          refine z_muV (As := []) (rest := [.ref (bd 0)]) (wr := []) (ws2 := (fun (u : Int) => [(bd 0, .inr (8, [.ref (bd 1), .ref (bd 2), .ref (bd 3), .ref (bd 4), .ref (bd 5), .ref (bd 6), .ref (bd 7), .int (iI (cn)), .ref (bd 8), .int (iI (mp)), .ref (bd 9), .int (iI (ty)), .int (iI (th)), .ref (bd 10), .ref (bd 11), .int (iI (u)), .int (iI (ta_4)), .int (iI (ke_5)), .int (iI (r_16)), .int (iI (tw))])), (bd 9, .inl (cC, 80, .inl (iA (Tx))))])) ⟨hx, hb, hml, hown, hts⟩ (c_X8_readsValue l D cI cZ cC H.size (bd) (cn) (mp) (ty) (th) (sp_22) (ta_4) (ke_5) (r_16) (tw) (Tx) (by first | assumption | omega) (by first | assumption | omega) (by first | assumption | omega)) (cwV 0 hts gX8_readsUpdate_X8_readsValue rfl rfl rfl (by decide +kernel) ⟨Nat.le_of_ble_eq_true rfl, Nat.le_of_ble_eq_true rfl⟩) hP hD hS hA hK [0, 1] [] [0, 1] rfl (by decide) rfl (by decide) (by decide) (by decide) (fun _ => rfl) 0 8 rfl rfl rfl rfl hl.1 rfl (Nat.le_of_ble_eq_true rfl) dX8_readsUpdate_51 ⟨by omega, by omega⟩ (fun r_26 u H locs hq_25 hP hD hS => ?_)
          obtain ⟨sp_27, rfl⟩ : ∃ z, z = u := ⟨_, rfl⟩
          have hP : va_P D vwCl [(bd 0, .inr (8, [.ref (bd 1), .ref (bd 2), .ref (bd 3), .ref (bd 4), .ref (bd 5), .ref (bd 6), .ref (bd 7), .int (iI (cn)), .ref (bd 8), .int (iI (mp)), .ref (bd 9), .int (iI (ty)), .int (iI (th)), .ref (bd 10), .ref (bd 11), .int (iI (sp_27)), .int (iI (ta_4)), .int (iI (ke_5)), .int (iI (r_16)), .int (iI (tw))])), (bd 9, .inl (cC, 80, .inl (iA (Tx))))] H := hP
          have hD : va_D AA [(bd 0, .inr (8, [.ref (bd 1), .ref (bd 2), .ref (bd 3), .ref (bd 4), .ref (bd 5), .ref (bd 6), .ref (bd 7), .int (iI (cn)), .ref (bd 8), .int (iI (mp)), .ref (bd 9), .int (iI (ty)), .int (iI (th)), .ref (bd 10), .ref (bd 11), .int (iI (sp_27)), .int (iI (ta_4)), .int (iI (ke_5)), .int (iI (r_16)), .int (iI (tw))])), (bd 9, .inl (cC, 80, .inl (iA (Tx))))] := hD
          try dsimp only at hq_25
          obtain ⟨h_w, h_wv, h_wu⟩ := hq_25
          have h_w1 : r_26 = (vP Tx ty 118 sp_22).1 := congrArg Prod.fst h_w
          have h_w2 : sp_27 = (vP Tx ty 118 sp_22).2 := congrArg Prod.snd h_w
          refine lv_goto (tgt := 59) hx hb dX8_readsUpdate_54 (by decide) ?_
          refine va_put (D := D) (ci := 8) (v := .int (iI (r_26))) (ty := .int) (C := RX8) (T := TX8) (N := 20) hx hb hts (fun _ h => List.mem_cons_of_mem _ (List.mem_append_right _ (h))) tyX8 tyX8_ok nmX8 hown hK.1 hP hD hS 0 rfl rfl 19 (by decide) (hts (.fieldLink RX8 176 "ForeignKeyStoreModel" "two" "I") (List.mem_of_getElem? (i := 2) rfl)) (fun _ h9 => h9) rfl (by decide +kernel) rfl rfl (Nat.le_of_ble_eq_true rfl) dX8_readsUpdate_59 (fun H locs hP hD hS => ?_)
          have hP : va_P D vwCl [(bd 0, .inr (8, [.ref (bd 1), .ref (bd 2), .ref (bd 3), .ref (bd 4), .ref (bd 5), .ref (bd 6), .ref (bd 7), .int (iI (cn)), .ref (bd 8), .int (iI (mp)), .ref (bd 9), .int (iI (ty)), .int (iI (th)), .ref (bd 10), .ref (bd 11), .int (iI (sp_27)), .int (iI (ta_4)), .int (iI (ke_5)), .int (iI (r_16)), .int (iI (r_26))])), (bd 9, .inl (cC, 80, .inl (iA (Tx))))] H := hP
          have hD : va_D AA [(bd 0, .inr (8, [.ref (bd 1), .ref (bd 2), .ref (bd 3), .ref (bd 4), .ref (bd 5), .ref (bd 6), .ref (bd 7), .int (iI (cn)), .ref (bd 8), .int (iI (mp)), .ref (bd 9), .int (iI (ty)), .int (iI (th)), .ref (bd 10), .ref (bd 11), .int (iI (sp_27)), .int (iI (ta_4)), .int (iI (ke_5)), .int (iI (r_16)), .int (iI (r_26))])), (bd 9, .inl (cC, 80, .inl (iA (Tx))))] := hD
          refine lv_aload_n hx hb dX8_readsUpdate_62 rfl (lv_at hl 0 rfl) ?_
          refine va_get (D := D) (ci := 8) (v := .int (iI (r_26))) (C := RX8) (T := TX8) (N := 20) hx hb hts (fun _ h => List.mem_cons_of_mem _ (List.mem_append_right _ (h))) hown hK.1 hP 0 rfl rfl 19 (by decide) (hts (.fieldLink RX8 176 "ForeignKeyStoreModel" "two" "I") (List.mem_of_getElem? (i := 2) rfl)) (fun _ h9 => h9) rfl dX8_readsUpdate_63 ?_
          refine lv_bipush (v := iI (-2)) hx hb dX8_readsUpdate_66 (by decide) ?_
          refine z_icmp_eq (tgt := 75) hx hb dX8_readsUpdate_68 (by decide) ⟨⟨by omega, by omega⟩, ⟨by omega, by omega⟩⟩ (fun c_28 => ?_) (fun c_28 => ?_)
          · refine lv_iconst (v := iI (0)) hx hb dX8_readsUpdate_75 rfl ?_
            refine z_mretZ ((sp_27, ta_4, ke_5, r_16, r_26)) hx hb hr hlocks dX8_readsUpdate_76 (by omega) hP hD hS ?_
            obtain ⟨h_as, h_n1, h_n2, h_n3, h_n4⟩ := h_r5 (by omega)
            rw [e_a, if_neg (by omega), ← h_r2, h_as]
            rw [rG_s1 (by decide) (show ¬ (rS Tx ty 44 _).1 = 0 by rw [← h_c1]; omega), ← h_c2]
            rw [rG_v1 (by decide) (show ¬ (vP Tx ty 99 _).1 = -2 by rw [e_c, ← h_v1]; omega), e_c, ← h_v2, ← h_v1]
            rw [rG_s1 (by decide) (show ¬ (rS Tx ty 44 _).1 = 0 by rw [← h_e1]; omega), ← h_e2]
            rw [rG_v0 (by decide) (show (vP Tx ty 118 _).1 = -2 by rw [← h_w1]; omega), ← h_w2]
            exact ⟨rfl, rfl, Or.inl rfl, ⟨by omega, by omega⟩, fun h => absurd h (by decide)⟩
          · refine lv_iconst (v := iI (1)) hx hb dX8_readsUpdate_71 rfl ?_
            refine lv_goto (tgt := 76) hx hb dX8_readsUpdate_72 (by decide) ?_
            refine z_mretZ ((sp_27, ta_4, ke_5, r_16, r_26)) hx hb hr hlocks dX8_readsUpdate_76 (by omega) hP hD hS ?_
            obtain ⟨h_as, h_n1, h_n2, h_n3, h_n4⟩ := h_r5 (by omega)
            rw [e_a, if_neg (by omega), ← h_r2, h_as]
            rw [rG_s1 (by decide) (show ¬ (rS Tx ty 44 _).1 = 0 by rw [← h_c1]; omega), ← h_c2]
            rw [rG_v1 (by decide) (show ¬ (vP Tx ty 99 _).1 = -2 by rw [e_c, ← h_v1]; omega), e_c, ← h_v2, ← h_v1]
            rw [rG_s1 (by decide) (show ¬ (rS Tx ty 44 _).1 = 0 by rw [← h_e1]; omega), ← h_e2]
            rw [rG_v1 (by decide) (show ¬ (vP Tx ty 118 _).1 = -2 by rw [← h_w1]; omega), ← h_w2, ← h_w1]
            exact ⟨rfl, rfl, Or.inr rfl, ⟨by omega, by omega⟩, fun _ => ⟨rfl, by dsimp only; omega, by dsimp only; omega, by dsimp only; omega, by dsimp only; omega, by dsimp only; omega, by dsimp only; omega, by dsimp only; omega, by dsimp only; omega⟩⟩

set_option maxHeartbeats 600000 in
set_option maxRecDepth 100000 in
theorem c_X8_command (l : Launch) (D : va_G) (cI cZ cC : ClassId) (sz : Nat) (bd : Nat → Nat) (cn mp ty th sp ta ke on tw : Int) (Tx : Int → Int) (g_Tx : ∀ j : Int, 0 ≤ j → j < 80 → 0 ≤ Tx j ∧ Tx j < 128) (g_ty : 0 ≤ ty ∧ ty ≤ 80) (g_sp : 0 ≤ sp ∧ sp ≤ ty) : zMi l yX8_command wsX8_command ({ frames := 6, cells := 0, slots := 0, locals := 127 }) D cI cZ cC [(bd 0, .inr (8, [.ref (bd 1), .ref (bd 2), .ref (bd 3), .ref (bd 4), .ref (bd 5), .ref (bd 6), .ref (bd 7), .int (iI (cn)), .ref (bd 8), .int (iI (mp)), .ref (bd 9), .int (iI (ty)), .int (iI (th)), .ref (bd 10), .ref (bd 11), .int (iI (sp)), .int (iI (ta)), .int (iI (ke)), .int (iI (on)), .int (iI (tw))])), (bd 9, .inl (cC, 80, .inl (iA (Tx))))] sz [.ref (bd 0)] (0) (0) (fun (u : Int × Int × Int × Int × Int) => [(bd 0, .inr (8, [.ref (bd 1), .ref (bd 2), .ref (bd 3), .ref (bd 4), .ref (bd 5), .ref (bd 6), .ref (bd 7), .int (iI (cn)), .ref (bd 8), .int (iI (mp)), .ref (bd 9), .int (iI (ty)), .int (iI (th)), .ref (bd 10), .ref (bd 11), .int (iI (u.1)), .int (iI (u.2.1)), .int (iI (u.2.2.1)), .int (iI (u.2.2.2.1)), .int (iI (u.2.2.2.2))])), (bd 9, .inl (cC, 80, .inl (iA (Tx))))]) (fun v (u : Int × Int × Int × Int × Int) => v = (if (cG Tx ty sp).1 = 1 then sgn Tx ty sp else 32) ∧ u.1 = (cG Tx ty sp).2.1 ∧ (0 ≤ u.1 ∧ u.1 ≤ ty) ∧ ((cG Tx ty sp).1 = 1 → (sgn Tx ty sp = 105 ∨ sgn Tx ty sp = 117 → (cG Tx ty sp).2.2 = [u.2.1, u.2.2.1, u.2.2.2.1, u.2.2.2.2]) ∧ (sgn Tx ty sp = 100 → (cG Tx ty sp).2.2 = [u.2.1, u.2.2.1]) ∧ (sgn Tx ty sp = 98 → (cG Tx ty sp).2.2 = [u.2.2.2.1]))) := by
  refine z_ofMi (cc := cX8_command) (maxL := 2) (ret := (some .char)) RX8 (by decide +kernel) rfl rfl (Nat.le_of_ble_eq_true rfl) ?_
  intro p0 en0 s0 m0 args0 below0 meth0 c0 ls AA hx hb hr hlocks hml hown hts hP hD hS hA hK hl
  have hl : lv_has ls 2 [(0, .ref (bd 0))] := hl
  obtain ⟨H, hH⟩ : ∃ H, H = s0.heap := ⟨_, rfl⟩
  obtain ⟨locs, hlo⟩ : ∃ locs : List Loc, locs = [] := ⟨_, rfl⟩
  have hP : va_P D vwCl [(bd 0, .inr (8, [.ref (bd 1), .ref (bd 2), .ref (bd 3), .ref (bd 4), .ref (bd 5), .ref (bd 6), .ref (bd 7), .int (iI (cn)), .ref (bd 8), .int (iI (mp)), .ref (bd 9), .int (iI (ty)), .int (iI (th)), .ref (bd 10), .ref (bd 11), .int (iI (sp)), .int (iI (ta)), .int (iI (ke)), .int (iI (on)), .int (iI (tw))])), (bd 9, .inl (cC, 80, .inl (iA (Tx))))] H := by rw [hH]; exact hP
  have hS : va_S AA s0.heap H locs := by rw [hH, hlo]; exact hS
  suffices hW : W p0 l en0 (headSpec wsX8_command ({ frames := 6, cells := 0, slots := 0, locals := 127 })).room s0 m0 args0 below0 meth0 c0 H locs 0 0 (QMi below0 D ((fun (u : Int × Int × Int × Int × Int) => [(bd 0, .inr (8, [.ref (bd 1), .ref (bd 2), .ref (bd 3), .ref (bd 4), .ref (bd 5), .ref (bd 6), .ref (bd 7), .int (iI (cn)), .ref (bd 8), .int (iI (mp)), .ref (bd 9), .int (iI (ty)), .int (iI (th)), .ref (bd 10), .ref (bd 11), .int (iI (u.1)), .int (iI (u.2.1)), .int (iI (u.2.2.1)), .int (iI (u.2.2.2.1)), .int (iI (u.2.2.2.2))])), (bd 9, .inl (cC, 80, .inl (iA (Tx))))])) (fun v (u : Int × Int × Int × Int × Int) => v = (if (cG Tx ty sp).1 = 1 then sgn Tx ty sp else 32) ∧ u.1 = (cG Tx ty sp).2.1 ∧ (0 ≤ u.1 ∧ u.1 ≤ ty) ∧ ((cG Tx ty sp).1 = 1 → (sgn Tx ty sp = 105 ∨ sgn Tx ty sp = 117 → (cG Tx ty sp).2.2 = [u.2.1, u.2.2.1, u.2.2.2.1, u.2.2.2.2]) ∧ (sgn Tx ty sp = 100 → (cG Tx ty sp).2.2 = [u.2.1, u.2.2.1]) ∧ (sgn Tx ty sp = 98 → (cG Tx ty sp).2.2 = [u.2.2.2.1]))) AA args0 s0 (0) (0)) (F0 m0 0 ls []) by rw [hH, hlo] at hW; exact hW
  have g_s := sgn_b g_Tx ty sp
  have g_se : sgn Tx ty sp = if sp < ty then Tx sp else -1 := by
    unfold sgn
    split <;> split <;> first | rfl | omega
  have g_s1 := fun q : sp < ty => g_se.trans (if_pos q)
  have g_s2 := fun q : ¬ sp < ty => g_se.trans (if_neg q)
  clear g_se
  refine lv_aload_n hx hb dX8_command_0 rfl (lv_at hl 0 rfl) ?_
  refine va_get (D := D) (ci := 8) (v := .int (iI (sp))) (C := RX8) (T := TX8) (N := 20) hx hb hts (fun _ h => List.mem_cons_of_mem _ (List.mem_append_right _ (h))) hown hK.1 hP 0 rfl rfl 15 (by decide) (hts (.fieldLink RX8 142 "ForeignKeyStoreModel" "spot" "I") (List.mem_of_getElem? (i := 1) rfl)) (fun _ h9 => h9) rfl dX8_command_1 ?_
  refine lv_aload_n hx hb dX8_command_4 rfl (lv_at hl 0 rfl) ?_
  refine va_get (D := D) (ci := 8) (v := .int (iI (ty))) (C := RX8) (T := TX8) (N := 20) hx hb hts (fun _ h => List.mem_cons_of_mem _ (List.mem_append_right _ (h))) hown hK.1 hP 0 rfl rfl 11 (by decide) (hts (.fieldLink RX8 139 "ForeignKeyStoreModel" "typed" "I") (List.mem_of_getElem? (i := 2) rfl)) (fun _ h9 => h9) rfl dX8_command_5 ?_
  refine z_icmp_ge (tgt := 23) hx hb dX8_command_8 (by decide) ⟨⟨by omega, by omega⟩, ⟨by omega, by omega⟩⟩ (fun c_1 => ?_) (fun c_1 => ?_)
  · refine lv_bipush (v := iI (32)) hx hb dX8_command_23 (by decide) ?_
    refine lv_istore_n (lv' := [(1, .int (iI (32))), (0, .ref (bd 0))]) hx hb dX8_command_25 rfl hl (by decide) rfl (fun ls hl => ?_)
    refine lv_aload_n hx hb dX8_command_26 rfl (lv_at hl 1 rfl) ?_
    refine lv_dup hx hb dX8_command_27 rfl ?_
    refine va_get (D := D) (ci := 8) (v := .int (iI (sp))) (C := RX8) (T := TX8) (N := 20) hx hb hts (fun _ h => List.mem_cons_of_mem _ (List.mem_append_right _ (h))) hown hK.1 hP 0 rfl rfl 15 (by decide) (hts (.fieldLink RX8 142 "ForeignKeyStoreModel" "spot" "I") (List.mem_of_getElem? (i := 1) rfl)) (fun _ h9 => h9) rfl dX8_command_28 ?_
    refine lv_iconst (v := iI (1)) hx hb dX8_command_31 rfl ?_
    refine z_iadd hx hb dX8_command_32 ?_
    refine va_put (D := D) (ci := 8) (v := .int (iI ((sp + 1)))) (ty := .int) (C := RX8) (T := TX8) (N := 20) hx hb hts (fun _ h => List.mem_cons_of_mem _ (List.mem_append_right _ (h))) tyX8 tyX8_ok nmX8 hown hK.1 hP hD hS 0 rfl rfl 15 (by decide) (hts (.fieldLink RX8 142 "ForeignKeyStoreModel" "spot" "I") (List.mem_of_getElem? (i := 1) rfl)) (fun _ h9 => h9) rfl (by decide +kernel) rfl rfl (Nat.le_of_ble_eq_true rfl) dX8_command_33 (fun H locs hP hD hS => ?_)
    have hP : va_P D vwCl [(bd 0, .inr (8, [.ref (bd 1), .ref (bd 2), .ref (bd 3), .ref (bd 4), .ref (bd 5), .ref (bd 6), .ref (bd 7), .int (iI (cn)), .ref (bd 8), .int (iI (mp)), .ref (bd 9), .int (iI (ty)), .int (iI (th)), .ref (bd 10), .ref (bd 11), .int (iI ((sp + 1))), .int (iI (ta)), .int (iI (ke)), .int (iI (on)), .int (iI (tw))])), (bd 9, .inl (cC, 80, .inl (iA (Tx))))] H := hP
    have hD : va_D AA [(bd 0, .inr (8, [.ref (bd 1), .ref (bd 2), .ref (bd 3), .ref (bd 4), .ref (bd 5), .ref (bd 6), .ref (bd 7), .int (iI (cn)), .ref (bd 8), .int (iI (mp)), .ref (bd 9), .int (iI (ty)), .int (iI (th)), .ref (bd 10), .ref (bd 11), .int (iI ((sp + 1))), .int (iI (ta)), .int (iI (ke)), .int (iI (on)), .int (iI (tw))])), (bd 9, .inl (cC, 80, .inl (iA (Tx))))] := hD
    refine lv_iload_n hx hb dX8_command_36 rfl (lv_at hl 0 rfl) ?_
    refine z_tsw (tgt := 202) hx hb dX8_command_37 ⟨by omega, by omega⟩ (offs_len := rfl) ?_ (by decide) ?_
    · exact Or.inl (by decide)
    refine lv_aload_n hx hb dX8_command_202 rfl (lv_at hl 1 rfl) ?_
    refine lv_dup hx hb dX8_command_203 rfl ?_
    refine va_get (D := D) (ci := 8) (v := .int (iI ((sp + 1)))) (C := RX8) (T := TX8) (N := 20) hx hb hts (fun _ h => List.mem_cons_of_mem _ (List.mem_append_right _ (h))) hown hK.1 hP 0 rfl rfl 15 (by decide) (hts (.fieldLink RX8 142 "ForeignKeyStoreModel" "spot" "I") (List.mem_of_getElem? (i := 1) rfl)) (fun _ h9 => h9) rfl dX8_command_204 ?_
    refine lv_iconst (v := iI (1)) hx hb dX8_command_207 rfl ?_
    refine z_isub hx hb dX8_command_208 ?_
    refine va_put (D := D) (ci := 8) (v := .int (iI (((sp + 1) - 1)))) (ty := .int) (C := RX8) (T := TX8) (N := 20) hx hb hts (fun _ h => List.mem_cons_of_mem _ (List.mem_append_right _ (h))) tyX8 tyX8_ok nmX8 hown hK.1 hP hD hS 0 rfl rfl 15 (by decide) (hts (.fieldLink RX8 142 "ForeignKeyStoreModel" "spot" "I") (List.mem_of_getElem? (i := 1) rfl)) (fun _ h9 => h9) rfl (by decide +kernel) rfl rfl (Nat.le_of_ble_eq_true rfl) dX8_command_209 (fun H locs hP hD hS => ?_)
    have hP : va_P D vwCl [(bd 0, .inr (8, [.ref (bd 1), .ref (bd 2), .ref (bd 3), .ref (bd 4), .ref (bd 5), .ref (bd 6), .ref (bd 7), .int (iI (cn)), .ref (bd 8), .int (iI (mp)), .ref (bd 9), .int (iI (ty)), .int (iI (th)), .ref (bd 10), .ref (bd 11), .int (iI (((sp + 1) - 1))), .int (iI (ta)), .int (iI (ke)), .int (iI (on)), .int (iI (tw))])), (bd 9, .inl (cC, 80, .inl (iA (Tx))))] H := hP
    have hD : va_D AA [(bd 0, .inr (8, [.ref (bd 1), .ref (bd 2), .ref (bd 3), .ref (bd 4), .ref (bd 5), .ref (bd 6), .ref (bd 7), .int (iI (cn)), .ref (bd 8), .int (iI (mp)), .ref (bd 9), .int (iI (ty)), .int (iI (th)), .ref (bd 10), .ref (bd 11), .int (iI (((sp + 1) - 1))), .int (iI (ta)), .int (iI (ke)), .int (iI (on)), .int (iI (tw))])), (bd 9, .inl (cC, 80, .inl (iA (Tx))))] := hD
    refine lv_bipush (v := iI (32)) hx hb dX8_command_212 (by decide) ?_
    refine z_mretC ((((sp + 1) - 1), ta, ke, on, tw)) hx hb hr hlocks dX8_command_214 (by omega) hP hD hS ?_
    have h_n : ¬ isLt (sgn Tx ty sp) := fun q => by
      have q2 := (isLt_iff _).1 q
      first | (have := g_s1 (by omega); omega) | (have := g_s2 (by omega); omega)
    rw [cG_f h_n]
    exact ⟨by rw [if_neg (by show ¬ (0 : Int) = 1; decide)], by dsimp only; omega, ⟨by dsimp only; omega, by dsimp only; omega⟩, fun h => absurd h (by show ¬ (0 : Int) = 1; decide)⟩
  · refine lv_aload_n hx hb dX8_command_11 rfl (lv_at hl 0 rfl) ?_
    refine va_get (D := D) (ci := 8) (v := .ref (bd 9)) (C := RX8) (T := TX8) (N := 20) hx hb hts (fun _ h => List.mem_cons_of_mem _ (List.mem_append_right _ (h))) hown hK.1 hP 0 rfl rfl 10 (by decide) (hts (.fieldLink RX8 35 "ForeignKeyStoreModel" "text" "[C") (List.mem_of_getElem? (i := 3) rfl)) (fun _ h9 => h9) rfl dX8_command_12 ?_
    refine lv_aload_n hx hb dX8_command_15 rfl (lv_at hl 0 rfl) ?_
    refine va_get (D := D) (ci := 8) (v := .int (iI (sp))) (C := RX8) (T := TX8) (N := 20) hx hb hts (fun _ h => List.mem_cons_of_mem _ (List.mem_append_right _ (h))) hown hK.1 hP 0 rfl rfl 15 (by decide) (hts (.fieldLink RX8 142 "ForeignKeyStoreModel" "spot" "I") (List.mem_of_getElem? (i := 1) rfl)) (fun _ h9 => h9) rfl dX8_command_16 ?_
    refine z_cald hx hb hK.1 hP 1 2 rfl rfl (by omega) (by decide) dX8_command_19 ?_
    have hb_2 := g_Tx (sp) (by omega) (by omega)
    refine lv_goto (tgt := 25) hx hb dX8_command_20 (by decide) ?_
    refine lv_istore_n (lv' := [(1, .int (iI ((Tx (sp))))), (0, .ref (bd 0))]) hx hb dX8_command_25 rfl hl (by decide) rfl (fun ls hl => ?_)
    refine lv_aload_n hx hb dX8_command_26 rfl (lv_at hl 1 rfl) ?_
    refine lv_dup hx hb dX8_command_27 rfl ?_
    refine va_get (D := D) (ci := 8) (v := .int (iI (sp))) (C := RX8) (T := TX8) (N := 20) hx hb hts (fun _ h => List.mem_cons_of_mem _ (List.mem_append_right _ (h))) hown hK.1 hP 0 rfl rfl 15 (by decide) (hts (.fieldLink RX8 142 "ForeignKeyStoreModel" "spot" "I") (List.mem_of_getElem? (i := 1) rfl)) (fun _ h9 => h9) rfl dX8_command_28 ?_
    refine lv_iconst (v := iI (1)) hx hb dX8_command_31 rfl ?_
    refine z_iadd hx hb dX8_command_32 ?_
    refine va_put (D := D) (ci := 8) (v := .int (iI ((sp + 1)))) (ty := .int) (C := RX8) (T := TX8) (N := 20) hx hb hts (fun _ h => List.mem_cons_of_mem _ (List.mem_append_right _ (h))) tyX8 tyX8_ok nmX8 hown hK.1 hP hD hS 0 rfl rfl 15 (by decide) (hts (.fieldLink RX8 142 "ForeignKeyStoreModel" "spot" "I") (List.mem_of_getElem? (i := 1) rfl)) (fun _ h9 => h9) rfl (by decide +kernel) rfl rfl (Nat.le_of_ble_eq_true rfl) dX8_command_33 (fun H locs hP hD hS => ?_)
    have hP : va_P D vwCl [(bd 0, .inr (8, [.ref (bd 1), .ref (bd 2), .ref (bd 3), .ref (bd 4), .ref (bd 5), .ref (bd 6), .ref (bd 7), .int (iI (cn)), .ref (bd 8), .int (iI (mp)), .ref (bd 9), .int (iI (ty)), .int (iI (th)), .ref (bd 10), .ref (bd 11), .int (iI ((sp + 1))), .int (iI (ta)), .int (iI (ke)), .int (iI (on)), .int (iI (tw))])), (bd 9, .inl (cC, 80, .inl (iA (Tx))))] H := hP
    have hD : va_D AA [(bd 0, .inr (8, [.ref (bd 1), .ref (bd 2), .ref (bd 3), .ref (bd 4), .ref (bd 5), .ref (bd 6), .ref (bd 7), .int (iI (cn)), .ref (bd 8), .int (iI (mp)), .ref (bd 9), .int (iI (ty)), .int (iI (th)), .ref (bd 10), .ref (bd 11), .int (iI ((sp + 1))), .int (iI (ta)), .int (iI (ke)), .int (iI (on)), .int (iI (tw))])), (bd 9, .inl (cC, 80, .inl (iA (Tx))))] := hD
    refine lv_iload_n hx hb dX8_command_36 rfl (lv_at hl 0 rfl) ?_
    by_cases k_3 : (Tx (sp)) = 98
    · refine lv_tableIn (off := 137) (tgt := 174) hx hb dX8_command_37 (by rw [iI_toInt ⟨by omega, by omega⟩]; omega) (by rw [iI_toInt ⟨by omega, by omega⟩]; omega) (by rw [iI_toInt ⟨by omega, by omega⟩, k_3]; rfl) (by decide) ?_
      refine lv_aload_n hx hb dX8_command_174 rfl (lv_at hl 1 rfl) ?_
      refine lv_aload_n hx hb dX8_command_175 rfl (lv_at hl 1 rfl) ?_
      refine lv_bipush (v := iI (51)) hx hb dX8_command_176 (by decide) ?_
      refine z_muV (As := [.int (iI (51))]) (rest := [.ref (bd 0)]) (wr := []) (ws2 := (fun (u : Int) => [(bd 0, .inr (8, [.ref (bd 1), .ref (bd 2), .ref (bd 3), .ref (bd 4), .ref (bd 5), .ref (bd 6), .ref (bd 7), .int (iI (cn)), .ref (bd 8), .int (iI (mp)), .ref (bd 9), .int (iI (ty)), .int (iI (th)), .ref (bd 10), .ref (bd 11), .int (iI (u)), .int (iI (ta)), .int (iI (ke)), .int (iI (on)), .int (iI (tw))])), (bd 9, .inl (cC, 80, .inl (iA (Tx))))])) ⟨hx, hb, hml, hown, hts⟩ (c_X8_digit l D cI cZ cC H.size (bd) (cn) (mp) (ty) (th) ((sp + 1)) (ta) (ke) (on) (tw) (Tx) (51) (by first | assumption | omega) (by first | assumption | omega) (by first | assumption | omega) (by first | assumption | omega)) (cwV 1 hts gX8_command_X8_digit rfl rfl rfl (by decide +kernel) ⟨Nat.le_of_ble_eq_true rfl, Nat.le_of_ble_eq_true rfl⟩) hP hD hS hA hK [0, 1] [] [0, 1] rfl (by decide) rfl (by decide) (by decide) (by decide) (fun _ => rfl) 0 8 rfl rfl rfl rfl hl.1 rfl (Nat.le_of_ble_eq_true rfl) dX8_command_178 ⟨by omega, by omega⟩ (fun r_5 u H locs hq_4 hP hD hS => ?_)
      obtain ⟨sp_6, rfl⟩ : ∃ z, z = u := ⟨_, rfl⟩
      have hP : va_P D vwCl [(bd 0, .inr (8, [.ref (bd 1), .ref (bd 2), .ref (bd 3), .ref (bd 4), .ref (bd 5), .ref (bd 6), .ref (bd 7), .int (iI (cn)), .ref (bd 8), .int (iI (mp)), .ref (bd 9), .int (iI (ty)), .int (iI (th)), .ref (bd 10), .ref (bd 11), .int (iI (sp_6)), .int (iI (ta)), .int (iI (ke)), .int (iI (on)), .int (iI (tw))])), (bd 9, .inl (cC, 80, .inl (iA (Tx))))] H := hP
      have hD : va_D AA [(bd 0, .inr (8, [.ref (bd 1), .ref (bd 2), .ref (bd 3), .ref (bd 4), .ref (bd 5), .ref (bd 6), .ref (bd 7), .int (iI (cn)), .ref (bd 8), .int (iI (mp)), .ref (bd 9), .int (iI (ty)), .int (iI (th)), .ref (bd 10), .ref (bd 11), .int (iI (sp_6)), .int (iI (ta)), .int (iI (ke)), .int (iI (on)), .int (iI (tw))])), (bd 9, .inl (cC, 80, .inl (iA (Tx))))] := hD
      try dsimp only at hq_4
      obtain ⟨h_d, h_dv, h_du⟩ := hq_4
      have h_d1 : r_5 = (rD Tx ty 3 (sp + 1)).1 := congrArg Prod.fst h_d
      have h_d2 : sp_6 = (rD Tx ty 3 (sp + 1)).2 := congrArg Prod.snd h_d
      refine va_put (D := D) (ci := 8) (v := .int (iI (r_5))) (ty := .int) (C := RX8) (T := TX8) (N := 20) hx hb hts (fun _ h => List.mem_cons_of_mem _ (List.mem_append_right _ (h))) tyX8 tyX8_ok nmX8 hown hK.1 hP hD hS 0 rfl rfl 18 (by decide) (hts (.fieldLink RX8 173 "ForeignKeyStoreModel" "one" "I") (List.mem_of_getElem? (i := 4) rfl)) (fun _ h9 => h9) rfl (by decide +kernel) rfl rfl (Nat.le_of_ble_eq_true rfl) dX8_command_181 (fun H locs hP hD hS => ?_)
      have hP : va_P D vwCl [(bd 0, .inr (8, [.ref (bd 1), .ref (bd 2), .ref (bd 3), .ref (bd 4), .ref (bd 5), .ref (bd 6), .ref (bd 7), .int (iI (cn)), .ref (bd 8), .int (iI (mp)), .ref (bd 9), .int (iI (ty)), .int (iI (th)), .ref (bd 10), .ref (bd 11), .int (iI (sp_6)), .int (iI (ta)), .int (iI (ke)), .int (iI (r_5)), .int (iI (tw))])), (bd 9, .inl (cC, 80, .inl (iA (Tx))))] H := hP
      have hD : va_D AA [(bd 0, .inr (8, [.ref (bd 1), .ref (bd 2), .ref (bd 3), .ref (bd 4), .ref (bd 5), .ref (bd 6), .ref (bd 7), .int (iI (cn)), .ref (bd 8), .int (iI (mp)), .ref (bd 9), .int (iI (ty)), .int (iI (th)), .ref (bd 10), .ref (bd 11), .int (iI (sp_6)), .int (iI (ta)), .int (iI (ke)), .int (iI (r_5)), .int (iI (tw))])), (bd 9, .inl (cC, 80, .inl (iA (Tx))))] := hD
      refine lv_aload_n hx hb dX8_command_184 rfl (lv_at hl 1 rfl) ?_
      refine va_get (D := D) (ci := 8) (v := .int (iI (r_5))) (C := RX8) (T := TX8) (N := 20) hx hb hts (fun _ h => List.mem_cons_of_mem _ (List.mem_append_right _ (h))) hown hK.1 hP 0 rfl rfl 18 (by decide) (hts (.fieldLink RX8 173 "ForeignKeyStoreModel" "one" "I") (List.mem_of_getElem? (i := 4) rfl)) (fun _ h9 => h9) rfl dX8_command_185 ?_
      refine lv_bipush (v := iI (-2)) hx hb dX8_command_188 (by decide) ?_
      refine z_icmp_eq (tgt := 197) hx hb dX8_command_190 (by decide) ⟨⟨by omega, by omega⟩, ⟨by omega, by omega⟩⟩ (fun c_7 => ?_) (fun c_7 => ?_)
      · refine lv_bipush (v := iI (32)) hx hb dX8_command_197 (by decide) ?_
        refine z_mretC ((sp_6, ta, ke, r_5, tw)) hx hb hr hlocks dX8_command_199 (by omega) hP hD hS ?_
        have h_x : sgn Tx ty sp = 98 := by have := g_s1 (by omega); omega
        have e_p : vP Tx ty 112 (sp + 1) = rD Tx ty 3 (sp + 1) := rfl
        have e_g : cG Tx ty sp = (0, (rD Tx ty 3 (sp + 1)).2, []) := by
          rw [cG_t ((isLt_iff _).2 (by omega)), h_x]
          exact rG_v0 (cs := []) (by decide) (show (vP Tx ty 112 (sp + 1)).1 = -2 by rw [e_p, ← h_d1]; omega)
        rw [e_g]
        exact ⟨rfl, h_d2, h_du, fun h => absurd h (by show ¬ (0 : Int) = 1; decide)⟩
      · refine lv_iload_n hx hb dX8_command_193 rfl (lv_at hl 0 rfl) ?_
        refine lv_goto (tgt := 199) hx hb dX8_command_194 (by decide) ?_
        refine z_mretC ((sp_6, ta, ke, r_5, tw)) hx hb hr hlocks dX8_command_199 (by omega) hP hD hS ?_
        have h_x : sgn Tx ty sp = 98 := by have := g_s1 (by omega); omega
        have e_p : vP Tx ty 112 (sp + 1) = rD Tx ty 3 (sp + 1) := rfl
        have e_g : cG Tx ty sp = (1, (rD Tx ty 3 (sp + 1)).2, [(rD Tx ty 3 (sp + 1)).1]) := by
          rw [cG_t ((isLt_iff _).2 (by omega)), h_x]
          exact rG_v1 (cs := []) (by decide) (show ¬ (vP Tx ty 112 (sp + 1)).1 = -2 by rw [e_p, ← h_d1]; omega)
        rw [e_g, h_x]
        exact ⟨by rw [if_pos rfl]; omega, h_d2, h_du, fun h => ⟨fun q => by omega, fun q => by omega, fun _ => by show [_] = [_]; rw [← h_d1]⟩⟩
    by_cases k_8 : (Tx (sp)) = 99
    · refine lv_tableIn (off := 163) (tgt := 200) hx hb dX8_command_37 (by rw [iI_toInt ⟨by omega, by omega⟩]; omega) (by rw [iI_toInt ⟨by omega, by omega⟩]; omega) (by rw [iI_toInt ⟨by omega, by omega⟩, k_8]; rfl) (by decide) ?_
      refine lv_iload_n hx hb dX8_command_200 rfl (lv_at hl 0 rfl) ?_
      refine z_mretC (((sp + 1), ta, ke, on, tw)) hx hb hr hlocks dX8_command_201 (by omega) hP hD hS ?_
      have h_s1 := g_s1 (by omega)
      have e_g : cG Tx ty sp = (1, sp + 1, []) := by
        rw [cG_t ((isLt_iff _).2 (by omega)), show frm (sgn Tx ty sp) = 5 by unfold frm; rw [if_neg (by omega), if_neg (by omega), if_neg (by omega), if_neg (by omega)]]
        rfl
      rw [e_g]
      exact ⟨by rw [if_pos rfl]; omega, rfl, ⟨by dsimp only; omega, by dsimp only; omega⟩, fun h => ⟨fun q => by omega, fun q => by omega, fun q => by omega⟩⟩
    by_cases k_9 : (Tx (sp)) = 100
    · refine lv_tableIn (off := 123) (tgt := 160) hx hb dX8_command_37 (by rw [iI_toInt ⟨by omega, by omega⟩]; omega) (by rw [iI_toInt ⟨by omega, by omega⟩]; omega) (by rw [iI_toInt ⟨by omega, by omega⟩, k_9]; rfl) (by decide) ?_
      refine lv_aload_n hx hb dX8_command_160 rfl (lv_at hl 1 rfl) ?_
      refine z_muV (As := []) (rest := []) (wr := []) (ws2 := (fun (u : Int × Int × Int) => [(bd 0, .inr (8, [.ref (bd 1), .ref (bd 2), .ref (bd 3), .ref (bd 4), .ref (bd 5), .ref (bd 6), .ref (bd 7), .int (iI (cn)), .ref (bd 8), .int (iI (mp)), .ref (bd 9), .int (iI (ty)), .int (iI (th)), .ref (bd 10), .ref (bd 11), .int (iI (u.1)), .int (iI (u.2.1)), .int (iI (u.2.2)), .int (iI (on)), .int (iI (tw))])), (bd 9, .inl (cC, 80, .inl (iA (Tx))))])) ⟨hx, hb, hml, hown, hts⟩ (c_X8_readsRow l D cI cZ cC H.size (bd) (cn) (mp) (ty) (th) ((sp + 1)) (ta) (ke) (on) (tw) (Tx) (by first | assumption | omega) (by first | assumption | omega) (by first | assumption | omega)) (cwV 0 hts gX8_command_X8_readsRow rfl rfl rfl (by decide +kernel) ⟨Nat.le_of_ble_eq_true rfl, Nat.le_of_ble_eq_true rfl⟩) hP hD hS hA hK [0, 1] [] [0, 1] rfl (by decide) rfl (by decide) (by decide) (by decide) (fun _ => rfl) 0 8 rfl rfl rfl rfl hl.1 rfl (Nat.le_of_ble_eq_true rfl) dX8_command_161 ⟨by omega, by omega⟩ (fun r_11 u H locs hq_10 hP hD hS => ?_)
      obtain ⟨sp_12, ta_13, ke_14⟩ := u
      have hP : va_P D vwCl [(bd 0, .inr (8, [.ref (bd 1), .ref (bd 2), .ref (bd 3), .ref (bd 4), .ref (bd 5), .ref (bd 6), .ref (bd 7), .int (iI (cn)), .ref (bd 8), .int (iI (mp)), .ref (bd 9), .int (iI (ty)), .int (iI (th)), .ref (bd 10), .ref (bd 11), .int (iI (sp_12)), .int (iI (ta_13)), .int (iI (ke_14)), .int (iI (on)), .int (iI (tw))])), (bd 9, .inl (cC, 80, .inl (iA (Tx))))] H := hP
      have hD : va_D AA [(bd 0, .inr (8, [.ref (bd 1), .ref (bd 2), .ref (bd 3), .ref (bd 4), .ref (bd 5), .ref (bd 6), .ref (bd 7), .int (iI (cn)), .ref (bd 8), .int (iI (mp)), .ref (bd 9), .int (iI (ty)), .int (iI (th)), .ref (bd 10), .ref (bd 11), .int (iI (sp_12)), .int (iI (ta_13)), .int (iI (ke_14)), .int (iI (on)), .int (iI (tw))])), (bd 9, .inl (cC, 80, .inl (iA (Tx))))] := hD
      try dsimp only at hq_10
      obtain ⟨h_r1, h_r2, h_r3, h_r4, h_r5⟩ := hq_10
      refine z_if_eq (tgt := 171) hx hb dX8_command_164 (by decide) ⟨by omega, by omega⟩ (fun c_15 => ?_) (fun c_15 => ?_)
      · refine lv_bipush (v := iI (32)) hx hb dX8_command_171 (by decide) ?_
        refine z_mretC ((sp_12, ta_13, ke_14, on, tw)) hx hb hr hlocks dX8_command_173 (by omega) hP hD hS ?_
        have h_x : sgn Tx ty sp = 100 := by have := g_s1 (by omega); omega
        have e_g : cG Tx ty sp = rG Tx ty [116, 44, 107] (sp + 1) [] := by
          rw [cG_t ((isLt_iff _).2 (by omega)), h_x]
          rfl
        rw [e_g, ← h_r1, h_x]
        exact ⟨by rw [if_neg (by omega)], h_r2, h_r4, fun h => ⟨fun q => by omega, fun _ => (h_r5 (by omega)).1, fun q => by omega⟩⟩
      · refine lv_iload_n hx hb dX8_command_167 rfl (lv_at hl 0 rfl) ?_
        refine lv_goto (tgt := 173) hx hb dX8_command_168 (by decide) ?_
        refine z_mretC ((sp_12, ta_13, ke_14, on, tw)) hx hb hr hlocks dX8_command_173 (by omega) hP hD hS ?_
        have h_x : sgn Tx ty sp = 100 := by have := g_s1 (by omega); omega
        have e_g : cG Tx ty sp = rG Tx ty [116, 44, 107] (sp + 1) [] := by
          rw [cG_t ((isLt_iff _).2 (by omega)), h_x]
          rfl
        rw [e_g, ← h_r1, h_x]
        exact ⟨by rw [if_pos (by omega)]; omega, h_r2, h_r4, fun h => ⟨fun q => by omega, fun _ => (h_r5 (by omega)).1, fun q => by omega⟩⟩
    by_cases k_16 : (Tx (sp)) = 105
    · refine lv_tableIn (off := 95) (tgt := 132) hx hb dX8_command_37 (by rw [iI_toInt ⟨by omega, by omega⟩]; omega) (by rw [iI_toInt ⟨by omega, by omega⟩]; omega) (by rw [iI_toInt ⟨by omega, by omega⟩, k_16]; rfl) (by decide) ?_
      refine lv_aload_n hx hb dX8_command_132 rfl (lv_at hl 1 rfl) ?_
      refine z_muV (As := []) (rest := []) (wr := []) (ws2 := (fun (u : Int × Int × Int × Int × Int) => [(bd 0, .inr (8, [.ref (bd 1), .ref (bd 2), .ref (bd 3), .ref (bd 4), .ref (bd 5), .ref (bd 6), .ref (bd 7), .int (iI (cn)), .ref (bd 8), .int (iI (mp)), .ref (bd 9), .int (iI (ty)), .int (iI (th)), .ref (bd 10), .ref (bd 11), .int (iI (u.1)), .int (iI (u.2.1)), .int (iI (u.2.2.1)), .int (iI (u.2.2.2.1)), .int (iI (u.2.2.2.2))])), (bd 9, .inl (cC, 80, .inl (iA (Tx))))])) ⟨hx, hb, hml, hown, hts⟩ (c_X8_readsInsert l D cI cZ cC H.size (bd) (cn) (mp) (ty) (th) ((sp + 1)) (ta) (ke) (on) (tw) (Tx) (by first | assumption | omega) (by first | assumption | omega) (by first | assumption | omega)) (cwV 0 hts gX8_command_X8_readsInsert rfl rfl rfl (by decide +kernel) ⟨Nat.le_of_ble_eq_true rfl, Nat.le_of_ble_eq_true rfl⟩) hP hD hS hA hK [0, 1] [] [0, 1] rfl (by decide) rfl (by decide) (by decide) (by decide) (fun _ => rfl) 0 8 rfl rfl rfl rfl hl.1 rfl (Nat.le_of_ble_eq_true rfl) dX8_command_133 ⟨by omega, by omega⟩ (fun r_18 u H locs hq_17 hP hD hS => ?_)
      obtain ⟨sp_19, ta_20, ke_21, on_22, tw_23⟩ := u
      have hP : va_P D vwCl [(bd 0, .inr (8, [.ref (bd 1), .ref (bd 2), .ref (bd 3), .ref (bd 4), .ref (bd 5), .ref (bd 6), .ref (bd 7), .int (iI (cn)), .ref (bd 8), .int (iI (mp)), .ref (bd 9), .int (iI (ty)), .int (iI (th)), .ref (bd 10), .ref (bd 11), .int (iI (sp_19)), .int (iI (ta_20)), .int (iI (ke_21)), .int (iI (on_22)), .int (iI (tw_23))])), (bd 9, .inl (cC, 80, .inl (iA (Tx))))] H := hP
      have hD : va_D AA [(bd 0, .inr (8, [.ref (bd 1), .ref (bd 2), .ref (bd 3), .ref (bd 4), .ref (bd 5), .ref (bd 6), .ref (bd 7), .int (iI (cn)), .ref (bd 8), .int (iI (mp)), .ref (bd 9), .int (iI (ty)), .int (iI (th)), .ref (bd 10), .ref (bd 11), .int (iI (sp_19)), .int (iI (ta_20)), .int (iI (ke_21)), .int (iI (on_22)), .int (iI (tw_23))])), (bd 9, .inl (cC, 80, .inl (iA (Tx))))] := hD
      try dsimp only at hq_17
      obtain ⟨h_r1, h_r2, h_r3, h_r4, h_r5⟩ := hq_17
      refine z_if_eq (tgt := 143) hx hb dX8_command_136 (by decide) ⟨by omega, by omega⟩ (fun c_24 => ?_) (fun c_24 => ?_)
      · refine lv_bipush (v := iI (32)) hx hb dX8_command_143 (by decide) ?_
        refine z_mretC ((sp_19, ta_20, ke_21, on_22, tw_23)) hx hb hr hlocks dX8_command_145 (by omega) hP hD hS ?_
        have h_x : sgn Tx ty sp = 105 := by have := g_s1 (by omega); omega
        have e_g : cG Tx ty sp = rG Tx ty [116, 44, 107, 44, 118, 44, 118] (sp + 1) [] := by
          rw [cG_t ((isLt_iff _).2 (by omega)), h_x]
          rfl
        rw [e_g, ← h_r1, h_x]
        exact ⟨by rw [if_neg (by omega)], h_r2, h_r4, fun h => ⟨fun _ => (h_r5 (by omega)).1, fun q => by omega, fun q => by omega⟩⟩
      · refine lv_iload_n hx hb dX8_command_139 rfl (lv_at hl 0 rfl) ?_
        refine lv_goto (tgt := 145) hx hb dX8_command_140 (by decide) ?_
        refine z_mretC ((sp_19, ta_20, ke_21, on_22, tw_23)) hx hb hr hlocks dX8_command_145 (by omega) hP hD hS ?_
        have h_x : sgn Tx ty sp = 105 := by have := g_s1 (by omega); omega
        have e_g : cG Tx ty sp = rG Tx ty [116, 44, 107, 44, 118, 44, 118] (sp + 1) [] := by
          rw [cG_t ((isLt_iff _).2 (by omega)), h_x]
          rfl
        rw [e_g, ← h_r1, h_x]
        exact ⟨by rw [if_pos (by omega)]; omega, h_r2, h_r4, fun h => ⟨fun _ => (h_r5 (by omega)).1, fun q => by omega, fun q => by omega⟩⟩
    by_cases k_25 : (Tx (sp)) = 114
    · refine lv_tableIn (off := 163) (tgt := 200) hx hb dX8_command_37 (by rw [iI_toInt ⟨by omega, by omega⟩]; omega) (by rw [iI_toInt ⟨by omega, by omega⟩]; omega) (by rw [iI_toInt ⟨by omega, by omega⟩, k_25]; rfl) (by decide) ?_
      refine lv_iload_n hx hb dX8_command_200 rfl (lv_at hl 0 rfl) ?_
      refine z_mretC (((sp + 1), ta, ke, on, tw)) hx hb hr hlocks dX8_command_201 (by omega) hP hD hS ?_
      have h_s1 := g_s1 (by omega)
      have e_g : cG Tx ty sp = (1, sp + 1, []) := by
        rw [cG_t ((isLt_iff _).2 (by omega)), show frm (sgn Tx ty sp) = 5 by unfold frm; rw [if_neg (by omega), if_neg (by omega), if_neg (by omega), if_neg (by omega)]]
        rfl
      rw [e_g]
      exact ⟨by rw [if_pos rfl]; omega, rfl, ⟨by dsimp only; omega, by dsimp only; omega⟩, fun h => ⟨fun q => by omega, fun q => by omega, fun q => by omega⟩⟩
    by_cases k_26 : (Tx (sp)) = 115
    · refine lv_tableIn (off := 163) (tgt := 200) hx hb dX8_command_37 (by rw [iI_toInt ⟨by omega, by omega⟩]; omega) (by rw [iI_toInt ⟨by omega, by omega⟩]; omega) (by rw [iI_toInt ⟨by omega, by omega⟩, k_26]; rfl) (by decide) ?_
      refine lv_iload_n hx hb dX8_command_200 rfl (lv_at hl 0 rfl) ?_
      refine z_mretC (((sp + 1), ta, ke, on, tw)) hx hb hr hlocks dX8_command_201 (by omega) hP hD hS ?_
      have h_s1 := g_s1 (by omega)
      have e_g : cG Tx ty sp = (1, sp + 1, []) := by
        rw [cG_t ((isLt_iff _).2 (by omega)), show frm (sgn Tx ty sp) = 5 by unfold frm; rw [if_neg (by omega), if_neg (by omega), if_neg (by omega), if_neg (by omega)]]
        rfl
      rw [e_g]
      exact ⟨by rw [if_pos rfl]; omega, rfl, ⟨by dsimp only; omega, by dsimp only; omega⟩, fun h => ⟨fun q => by omega, fun q => by omega, fun q => by omega⟩⟩
    by_cases k_27 : (Tx (sp)) = 117
    · refine lv_tableIn (off := 109) (tgt := 146) hx hb dX8_command_37 (by rw [iI_toInt ⟨by omega, by omega⟩]; omega) (by rw [iI_toInt ⟨by omega, by omega⟩]; omega) (by rw [iI_toInt ⟨by omega, by omega⟩, k_27]; rfl) (by decide) ?_
      refine lv_aload_n hx hb dX8_command_146 rfl (lv_at hl 1 rfl) ?_
      refine z_muV (As := []) (rest := []) (wr := []) (ws2 := (fun (u : Int × Int × Int × Int × Int) => [(bd 0, .inr (8, [.ref (bd 1), .ref (bd 2), .ref (bd 3), .ref (bd 4), .ref (bd 5), .ref (bd 6), .ref (bd 7), .int (iI (cn)), .ref (bd 8), .int (iI (mp)), .ref (bd 9), .int (iI (ty)), .int (iI (th)), .ref (bd 10), .ref (bd 11), .int (iI (u.1)), .int (iI (u.2.1)), .int (iI (u.2.2.1)), .int (iI (u.2.2.2.1)), .int (iI (u.2.2.2.2))])), (bd 9, .inl (cC, 80, .inl (iA (Tx))))])) ⟨hx, hb, hml, hown, hts⟩ (c_X8_readsUpdate l D cI cZ cC H.size (bd) (cn) (mp) (ty) (th) ((sp + 1)) (ta) (ke) (on) (tw) (Tx) (by first | assumption | omega) (by first | assumption | omega) (by first | assumption | omega)) (cwV 0 hts gX8_command_X8_readsUpdate rfl rfl rfl (by decide +kernel) ⟨Nat.le_of_ble_eq_true rfl, Nat.le_of_ble_eq_true rfl⟩) hP hD hS hA hK [0, 1] [] [0, 1] rfl (by decide) rfl (by decide) (by decide) (by decide) (fun _ => rfl) 0 8 rfl rfl rfl rfl hl.1 rfl (Nat.le_of_ble_eq_true rfl) dX8_command_147 ⟨by omega, by omega⟩ (fun r_29 u H locs hq_28 hP hD hS => ?_)
      obtain ⟨sp_30, ta_31, ke_32, on_33, tw_34⟩ := u
      have hP : va_P D vwCl [(bd 0, .inr (8, [.ref (bd 1), .ref (bd 2), .ref (bd 3), .ref (bd 4), .ref (bd 5), .ref (bd 6), .ref (bd 7), .int (iI (cn)), .ref (bd 8), .int (iI (mp)), .ref (bd 9), .int (iI (ty)), .int (iI (th)), .ref (bd 10), .ref (bd 11), .int (iI (sp_30)), .int (iI (ta_31)), .int (iI (ke_32)), .int (iI (on_33)), .int (iI (tw_34))])), (bd 9, .inl (cC, 80, .inl (iA (Tx))))] H := hP
      have hD : va_D AA [(bd 0, .inr (8, [.ref (bd 1), .ref (bd 2), .ref (bd 3), .ref (bd 4), .ref (bd 5), .ref (bd 6), .ref (bd 7), .int (iI (cn)), .ref (bd 8), .int (iI (mp)), .ref (bd 9), .int (iI (ty)), .int (iI (th)), .ref (bd 10), .ref (bd 11), .int (iI (sp_30)), .int (iI (ta_31)), .int (iI (ke_32)), .int (iI (on_33)), .int (iI (tw_34))])), (bd 9, .inl (cC, 80, .inl (iA (Tx))))] := hD
      try dsimp only at hq_28
      obtain ⟨h_r1, h_r2, h_r3, h_r4, h_r5⟩ := hq_28
      refine z_if_eq (tgt := 157) hx hb dX8_command_150 (by decide) ⟨by omega, by omega⟩ (fun c_35 => ?_) (fun c_35 => ?_)
      · refine lv_bipush (v := iI (32)) hx hb dX8_command_157 (by decide) ?_
        refine z_mretC ((sp_30, ta_31, ke_32, on_33, tw_34)) hx hb hr hlocks dX8_command_159 (by omega) hP hD hS ?_
        have h_x : sgn Tx ty sp = 117 := by have := g_s1 (by omega); omega
        have e_g : cG Tx ty sp = rG Tx ty [116, 44, 107, 44, 99, 44, 118] (sp + 1) [] := by
          rw [cG_t ((isLt_iff _).2 (by omega)), h_x]
          rfl
        rw [e_g, ← h_r1, h_x]
        exact ⟨by rw [if_neg (by omega)], h_r2, h_r4, fun h => ⟨fun _ => (h_r5 (by omega)).1, fun q => by omega, fun q => by omega⟩⟩
      · refine lv_iload_n hx hb dX8_command_153 rfl (lv_at hl 0 rfl) ?_
        refine lv_goto (tgt := 159) hx hb dX8_command_154 (by decide) ?_
        refine z_mretC ((sp_30, ta_31, ke_32, on_33, tw_34)) hx hb hr hlocks dX8_command_159 (by omega) hP hD hS ?_
        have h_x : sgn Tx ty sp = 117 := by have := g_s1 (by omega); omega
        have e_g : cG Tx ty sp = rG Tx ty [116, 44, 107, 44, 99, 44, 118] (sp + 1) [] := by
          rw [cG_t ((isLt_iff _).2 (by omega)), h_x]
          rfl
        rw [e_g, ← h_r1, h_x]
        exact ⟨by rw [if_pos (by omega)]; omega, h_r2, h_r4, fun h => ⟨fun _ => (h_r5 (by omega)).1, fun q => by omega, fun q => by omega⟩⟩
    have hsw : ((Tx (sp)) < 98 ∨ 117 < (Tx (sp))) ∨ ((Tx (sp)) = 101 ∨ (Tx (sp)) = 102 ∨ (Tx (sp)) = 103 ∨ (Tx (sp)) = 104 ∨ (Tx (sp)) = 106 ∨ (Tx (sp)) = 107 ∨ (Tx (sp)) = 108 ∨ (Tx (sp)) = 109 ∨ (Tx (sp)) = 110 ∨ (Tx (sp)) = 111 ∨ (Tx (sp)) = 112 ∨ (Tx (sp)) = 113 ∨ (Tx (sp)) = 116) := by omega
    refine z_tsw (tgt := 202) hx hb dX8_command_37 ⟨by omega, by omega⟩ (offs_len := rfl) ?_ (by decide) ?_
    · rcases hsw with h | h | h | h | h | h | h | h | h | h | h | h | h | h
      · exact Or.inl h
      · exact Or.inr (by rw [h]; exact ⟨by decide, by decide, rfl⟩)
      · exact Or.inr (by rw [h]; exact ⟨by decide, by decide, rfl⟩)
      · exact Or.inr (by rw [h]; exact ⟨by decide, by decide, rfl⟩)
      · exact Or.inr (by rw [h]; exact ⟨by decide, by decide, rfl⟩)
      · exact Or.inr (by rw [h]; exact ⟨by decide, by decide, rfl⟩)
      · exact Or.inr (by rw [h]; exact ⟨by decide, by decide, rfl⟩)
      · exact Or.inr (by rw [h]; exact ⟨by decide, by decide, rfl⟩)
      · exact Or.inr (by rw [h]; exact ⟨by decide, by decide, rfl⟩)
      · exact Or.inr (by rw [h]; exact ⟨by decide, by decide, rfl⟩)
      · exact Or.inr (by rw [h]; exact ⟨by decide, by decide, rfl⟩)
      · exact Or.inr (by rw [h]; exact ⟨by decide, by decide, rfl⟩)
      · exact Or.inr (by rw [h]; exact ⟨by decide, by decide, rfl⟩)
      · exact Or.inr (by rw [h]; exact ⟨by decide, by decide, rfl⟩)
    refine lv_aload_n hx hb dX8_command_202 rfl (lv_at hl 1 rfl) ?_
    refine lv_dup hx hb dX8_command_203 rfl ?_
    refine va_get (D := D) (ci := 8) (v := .int (iI ((sp + 1)))) (C := RX8) (T := TX8) (N := 20) hx hb hts (fun _ h => List.mem_cons_of_mem _ (List.mem_append_right _ (h))) hown hK.1 hP 0 rfl rfl 15 (by decide) (hts (.fieldLink RX8 142 "ForeignKeyStoreModel" "spot" "I") (List.mem_of_getElem? (i := 1) rfl)) (fun _ h9 => h9) rfl dX8_command_204 ?_
    refine lv_iconst (v := iI (1)) hx hb dX8_command_207 rfl ?_
    refine z_isub hx hb dX8_command_208 ?_
    refine va_put (D := D) (ci := 8) (v := .int (iI (((sp + 1) - 1)))) (ty := .int) (C := RX8) (T := TX8) (N := 20) hx hb hts (fun _ h => List.mem_cons_of_mem _ (List.mem_append_right _ (h))) tyX8 tyX8_ok nmX8 hown hK.1 hP hD hS 0 rfl rfl 15 (by decide) (hts (.fieldLink RX8 142 "ForeignKeyStoreModel" "spot" "I") (List.mem_of_getElem? (i := 1) rfl)) (fun _ h9 => h9) rfl (by decide +kernel) rfl rfl (Nat.le_of_ble_eq_true rfl) dX8_command_209 (fun H locs hP hD hS => ?_)
    have hP : va_P D vwCl [(bd 0, .inr (8, [.ref (bd 1), .ref (bd 2), .ref (bd 3), .ref (bd 4), .ref (bd 5), .ref (bd 6), .ref (bd 7), .int (iI (cn)), .ref (bd 8), .int (iI (mp)), .ref (bd 9), .int (iI (ty)), .int (iI (th)), .ref (bd 10), .ref (bd 11), .int (iI (((sp + 1) - 1))), .int (iI (ta)), .int (iI (ke)), .int (iI (on)), .int (iI (tw))])), (bd 9, .inl (cC, 80, .inl (iA (Tx))))] H := hP
    have hD : va_D AA [(bd 0, .inr (8, [.ref (bd 1), .ref (bd 2), .ref (bd 3), .ref (bd 4), .ref (bd 5), .ref (bd 6), .ref (bd 7), .int (iI (cn)), .ref (bd 8), .int (iI (mp)), .ref (bd 9), .int (iI (ty)), .int (iI (th)), .ref (bd 10), .ref (bd 11), .int (iI (((sp + 1) - 1))), .int (iI (ta)), .int (iI (ke)), .int (iI (on)), .int (iI (tw))])), (bd 9, .inl (cC, 80, .inl (iA (Tx))))] := hD
    refine lv_bipush (v := iI (32)) hx hb dX8_command_212 (by decide) ?_
    refine z_mretC ((((sp + 1) - 1), ta, ke, on, tw)) hx hb hr hlocks dX8_command_214 (by omega) hP hD hS ?_
    have h_n : ¬ isLt (sgn Tx ty sp) := fun q => by
      have q2 := (isLt_iff _).1 q
      first | (have := g_s1 (by omega); omega) | (have := g_s2 (by omega); omega)
    rw [cG_f h_n]
    exact ⟨by rw [if_neg (by show ¬ (0 : Int) = 1; decide)], by dsimp only; omega, ⟨by dsimp only; omega, by dsimp only; omega⟩, fun h => absurd h (by show ¬ (0 : Int) = 1; decide)⟩

