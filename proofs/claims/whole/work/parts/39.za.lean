set_option maxHeartbeats 600000 in
set_option maxRecDepth 100000 in
theorem c_X8_isHere (l : Launch) (D : va_G) (cI cZ cC : ClassId) (bd : Nat → Nat) (cn mp ty th sp ta ke on tw : Int) (Tx : Int → Int) (a b : Int) (g_Tx : ∀ j : Int, 0 ≤ j → j < 80 → 0 ≤ Tx j ∧ Tx j < 128) (g_ty : 0 ≤ ty ∧ ty ≤ 80) (g_sp : 0 ≤ sp ∧ sp ≤ ty) (g_a : 0 ≤ a ∧ a < 128) (g_b : 0 ≤ b ∧ b < 128) : zRo l yX8_isHere wsX8_isHere ({ frames := 1, cells := 0, slots := 0, locals := 22 }) D cI cZ cC [(bd 0, .inr (8, [.ref (bd 1), .ref (bd 2), .ref (bd 3), .ref (bd 4), .ref (bd 5), .ref (bd 6), .ref (bd 7), .int (iI (cn)), .ref (bd 8), .int (iI (mp)), .ref (bd 9), .int (iI (ty)), .int (iI (th)), .ref (bd 10), .ref (bd 11), .int (iI (sp)), .int (iI (ta)), .int (iI (ke)), .int (iI (on)), .int (iI (tw))])), (bd 9, .inl (cC, 80, .inl (iA (Tx))))] [.ref (bd 0), .int (iI (a)), .int (iI (b))] (bI (a ≤ sgn Tx ty sp ∧ sgn Tx ty sp ≤ b)) := by
  refine z_ofRo (cc := cX8_isHere) (maxL := 3) (ret := (some .boolean)) RX8 (by decide +kernel) rfl rfl (Nat.le_of_ble_eq_true rfl) ?_
  intro p0 en0 s0 m0 args0 below0 meth0 c0 ls hx hb hr hlocks hml hown hts hP hK hl
  have hl : lv_has ls 3 [(0, .ref (bd 0)), (1, .int (iI (a))), (2, .int (iI (b)))] := hl
  have g_s := sgn_b g_Tx ty sp
  have g_se : sgn Tx ty sp = if sp < ty then Tx sp else -1 := by
    unfold sgn
    split <;> split <;> first | rfl | omega
  have g_s1 := fun q : sp < ty => g_se.trans (if_pos q)
  have g_s2 := fun q : ¬ sp < ty => g_se.trans (if_neg q)
  clear g_se
  refine lv_aload_n hx hb dX8_isHere_0 rfl (lv_at hl 0 rfl) ?_
  refine va_get (D := D) (ci := 8) (v := .int (iI (sp))) (C := RX8) (T := TX8) (N := 20) hx hb hts (fun _ h => List.mem_cons_of_mem _ (List.mem_append_right _ (h))) hown hK.1 hP 0 rfl rfl 15 (by decide) (hts (.fieldLink RX8 142 "ForeignKeyStoreModel" "spot" "I") (List.mem_of_getElem? (i := 1) rfl)) (fun _ h9 => h9) rfl dX8_isHere_1 ?_
  refine lv_aload_n hx hb dX8_isHere_4 rfl (lv_at hl 0 rfl) ?_
  refine va_get (D := D) (ci := 8) (v := .int (iI (ty))) (C := RX8) (T := TX8) (N := 20) hx hb hts (fun _ h => List.mem_cons_of_mem _ (List.mem_append_right _ (h))) hown hK.1 hP 0 rfl rfl 11 (by decide) (hts (.fieldLink RX8 139 "ForeignKeyStoreModel" "typed" "I") (List.mem_of_getElem? (i := 2) rfl)) (fun _ h9 => h9) rfl dX8_isHere_5 ?_
  refine z_icmp_ge (tgt := 32) hx hb dX8_isHere_8 (by decide) ⟨⟨by omega, by omega⟩, ⟨by omega, by omega⟩⟩ (fun c_1 => ?_) (fun c_1 => ?_)
  · refine lv_iconst (v := iI (0)) hx hb dX8_isHere_32 rfl ?_
    refine z_rretZ hx hb hr hlocks dX8_isHere_33 (by omega) ?_
    refine (bI_f ?_).symm
    first | (have h9 := g_s1 (by omega); omega) | (have h9 := g_s2 (by omega); omega)
  · refine lv_aload_n hx hb dX8_isHere_11 rfl (lv_at hl 0 rfl) ?_
    refine va_get (D := D) (ci := 8) (v := .ref (bd 9)) (C := RX8) (T := TX8) (N := 20) hx hb hts (fun _ h => List.mem_cons_of_mem _ (List.mem_append_right _ (h))) hown hK.1 hP 0 rfl rfl 10 (by decide) (hts (.fieldLink RX8 35 "ForeignKeyStoreModel" "text" "[C") (List.mem_of_getElem? (i := 3) rfl)) (fun _ h9 => h9) rfl dX8_isHere_12 ?_
    refine lv_aload_n hx hb dX8_isHere_15 rfl (lv_at hl 0 rfl) ?_
    refine va_get (D := D) (ci := 8) (v := .int (iI (sp))) (C := RX8) (T := TX8) (N := 20) hx hb hts (fun _ h => List.mem_cons_of_mem _ (List.mem_append_right _ (h))) hown hK.1 hP 0 rfl rfl 15 (by decide) (hts (.fieldLink RX8 142 "ForeignKeyStoreModel" "spot" "I") (List.mem_of_getElem? (i := 1) rfl)) (fun _ h9 => h9) rfl dX8_isHere_16 ?_
    refine z_cald hx hb hK.1 hP 1 2 rfl rfl (by omega) (by decide) dX8_isHere_19 ?_
    have hb_2 := g_Tx (sp) (by omega) (by omega)
    refine lv_iload_n hx hb dX8_isHere_20 rfl (lv_at hl 1 rfl) ?_
    refine lv_iload_n hx hb dX8_isHere_21 rfl (lv_at hl 2 rfl) ?_
    refine z_roS (As := [.int (iI ((Tx (sp)))), .int (iI (a)), .int (iI (b))]) (rest := []) ⟨hx, hb, hml, hown, hts⟩ (c_X8_in l D cI cZ cC ((Tx (sp))) (a) (b) (by first | assumption | omega) (by first | assumption | omega) (by first | assumption | omega)) (va_cwS 3 hts gX8_isHere_X8_in rfl rfl rfl (by decide +kernel) ⟨Nat.le_of_ble_eq_true rfl, Nat.le_of_ble_eq_true rfl⟩) hP hK [] rfl rfl hl.1 rfl (Nat.le_of_ble_eq_true rfl) dX8_isHere_22 ⟨by omega, by omega⟩ ?_
    refine z_b_eq (tgt := 32) hx hb dX8_isHere_25 (by decide) (fun c_3 => ?_) (fun c_3 => ?_)
    · refine lv_iconst (v := iI (0)) hx hb dX8_isHere_32 rfl ?_
      refine z_rretZ hx hb hr hlocks dX8_isHere_33 (by omega) ?_
      refine (bI_f ?_).symm
      first | (have h9 := g_s1 (by omega); omega) | (have h9 := g_s2 (by omega); omega)
    · refine lv_iconst (v := iI (1)) hx hb dX8_isHere_28 rfl ?_
      refine lv_goto (tgt := 33) hx hb dX8_isHere_29 (by decide) ?_
      refine z_rretZ hx hb hr hlocks dX8_isHere_33 (by omega) ?_
      refine (bI_t ?_).symm
      first | (have h9 := g_s1 (by omega); omega) | (have h9 := g_s2 (by omega); omega)

set_option maxHeartbeats 600000 in
set_option maxRecDepth 100000 in
theorem c_X8_takes (l : Launch) (D : va_G) (cI cZ cC : ClassId) (sz : Nat) (bd : Nat → Nat) (cn mp ty th sp ta ke on tw : Int) (Tx : Int → Int) (a : Int) (g_Tx : ∀ j : Int, 0 ≤ j → j < 80 → 0 ≤ Tx j ∧ Tx j < 128) (g_ty : 0 ≤ ty ∧ ty ≤ 80) (g_sp : 0 ≤ sp ∧ sp ≤ ty) (g_a : 0 ≤ a ∧ a < 128) : zMi l yX8_takes wsX8_takes ({ frames := 2, cells := 0, slots := 0, locals := 44 }) D cI cZ cC [(bd 0, .inr (8, [.ref (bd 1), .ref (bd 2), .ref (bd 3), .ref (bd 4), .ref (bd 5), .ref (bd 6), .ref (bd 7), .int (iI (cn)), .ref (bd 8), .int (iI (mp)), .ref (bd 9), .int (iI (ty)), .int (iI (th)), .ref (bd 10), .ref (bd 11), .int (iI (sp)), .int (iI (ta)), .int (iI (ke)), .int (iI (on)), .int (iI (tw))])), (bd 9, .inl (cC, 80, .inl (iA (Tx))))] sz [.ref (bd 0), .int (iI (a))] (0) (0) (fun (u : Int) => [(bd 0, .inr (8, [.ref (bd 1), .ref (bd 2), .ref (bd 3), .ref (bd 4), .ref (bd 5), .ref (bd 6), .ref (bd 7), .int (iI (cn)), .ref (bd 8), .int (iI (mp)), .ref (bd 9), .int (iI (ty)), .int (iI (th)), .ref (bd 10), .ref (bd 11), .int (iI (u)), .int (iI (ta)), .int (iI (ke)), .int (iI (on)), .int (iI (tw))])), (bd 9, .inl (cC, 80, .inl (iA (Tx))))]) (fun v (u : Int) => (v, u) = rS Tx ty a sp ∧ (v = 0 ∨ v = 1) ∧ 0 ≤ u ∧ u ≤ ty) := by
  refine z_ofMi (cc := cX8_takes) (maxL := 3) (ret := (some .boolean)) RX8 (by decide +kernel) rfl rfl (Nat.le_of_ble_eq_true rfl) ?_
  intro p0 en0 s0 m0 args0 below0 meth0 c0 ls AA hx hb hr hlocks hml hown hts hP hD hS hA hK hl
  have hl : lv_has ls 3 [(0, .ref (bd 0)), (1, .int (iI (a)))] := hl
  obtain ⟨H, hH⟩ : ∃ H, H = s0.heap := ⟨_, rfl⟩
  obtain ⟨locs, hlo⟩ : ∃ locs : List Loc, locs = [] := ⟨_, rfl⟩
  have hP : va_P D vwCl [(bd 0, .inr (8, [.ref (bd 1), .ref (bd 2), .ref (bd 3), .ref (bd 4), .ref (bd 5), .ref (bd 6), .ref (bd 7), .int (iI (cn)), .ref (bd 8), .int (iI (mp)), .ref (bd 9), .int (iI (ty)), .int (iI (th)), .ref (bd 10), .ref (bd 11), .int (iI (sp)), .int (iI (ta)), .int (iI (ke)), .int (iI (on)), .int (iI (tw))])), (bd 9, .inl (cC, 80, .inl (iA (Tx))))] H := by rw [hH]; exact hP
  have hS : va_S AA s0.heap H locs := by rw [hH, hlo]; exact hS
  suffices hW : W p0 l en0 (headSpec wsX8_takes ({ frames := 2, cells := 0, slots := 0, locals := 44 })).room s0 m0 args0 below0 meth0 c0 H locs 0 0 (QMi below0 D ((fun (u : Int) => [(bd 0, .inr (8, [.ref (bd 1), .ref (bd 2), .ref (bd 3), .ref (bd 4), .ref (bd 5), .ref (bd 6), .ref (bd 7), .int (iI (cn)), .ref (bd 8), .int (iI (mp)), .ref (bd 9), .int (iI (ty)), .int (iI (th)), .ref (bd 10), .ref (bd 11), .int (iI (u)), .int (iI (ta)), .int (iI (ke)), .int (iI (on)), .int (iI (tw))])), (bd 9, .inl (cC, 80, .inl (iA (Tx))))])) (fun v (u : Int) => (v, u) = rS Tx ty a sp ∧ (v = 0 ∨ v = 1) ∧ 0 ≤ u ∧ u ≤ ty) AA args0 s0 (0) (0)) (F0 m0 0 ls []) by rw [hH, hlo] at hW; exact hW
  have g_s := sgn_b g_Tx ty sp
  have g_se : sgn Tx ty sp = if sp < ty then Tx sp else -1 := by
    unfold sgn
    split <;> split <;> first | rfl | omega
  have g_s1 := fun q : sp < ty => g_se.trans (if_pos q)
  have g_s2 := fun q : ¬ sp < ty => g_se.trans (if_neg q)
  clear g_se
  refine lv_aload_n hx hb dX8_takes_0 rfl (lv_at hl 0 rfl) ?_
  refine lv_iload_n hx hb dX8_takes_1 rfl (lv_at hl 1 rfl) ?_
  refine lv_iload_n hx hb dX8_takes_2 rfl (lv_at hl 1 rfl) ?_
  refine z_roV (As := [.int (iI (a)), .int (iI (a))]) (rest := []) ⟨hx, hb, hml, hown, hts⟩ (c_X8_isHere l D cI cZ cC (bd) (cn) (mp) (ty) (th) (sp) (ta) (ke) (on) (tw) (Tx) (a) (a) (by first | assumption | omega) (by first | assumption | omega) (by first | assumption | omega) (by first | assumption | omega) (by first | assumption | omega)) (cwV 2 hts gX8_takes_X8_isHere rfl rfl rfl (by decide +kernel) ⟨Nat.le_of_ble_eq_true rfl, Nat.le_of_ble_eq_true rfl⟩) hP hK [0, 1] rfl 0 8 rfl rfl rfl rfl hl.1 rfl (Nat.le_of_ble_eq_true rfl) dX8_takes_3 ⟨by omega, by omega⟩ ?_
  refine lv_istore_n (lv' := [(2, .int (iI (bI (a ≤ sgn Tx ty sp ∧ sgn Tx ty sp ≤ a)))), (0, .ref (bd 0)), (1, .int (iI (a)))]) hx hb dX8_takes_6 rfl hl (by decide) rfl (fun ls hl => ?_)
  refine lv_aload_n hx hb dX8_takes_7 rfl (lv_at hl 1 rfl) ?_
  refine lv_dup hx hb dX8_takes_8 rfl ?_
  refine va_get (D := D) (ci := 8) (v := .int (iI (sp))) (C := RX8) (T := TX8) (N := 20) hx hb hts (fun _ h => List.mem_cons_of_mem _ (List.mem_append_right _ (h))) hown hK.1 hP 0 rfl rfl 15 (by decide) (hts (.fieldLink RX8 142 "ForeignKeyStoreModel" "spot" "I") (List.mem_of_getElem? (i := 1) rfl)) (fun _ h9 => h9) rfl dX8_takes_9 ?_
  refine lv_iload_n hx hb dX8_takes_12 rfl (lv_at hl 0 rfl) ?_
  refine z_b_eq (tgt := 20) hx hb dX8_takes_13 (by decide) (fun c_1 => ?_) (fun c_1 => ?_)
  · refine lv_iconst (v := iI (0)) hx hb dX8_takes_20 rfl ?_
    refine z_iadd hx hb dX8_takes_21 ?_
    refine va_put (D := D) (ci := 8) (v := .int (iI ((sp + 0)))) (ty := .int) (C := RX8) (T := TX8) (N := 20) hx hb hts (fun _ h => List.mem_cons_of_mem _ (List.mem_append_right _ (h))) tyX8 tyX8_ok nmX8 hown hK.1 hP hD hS 0 rfl rfl 15 (by decide) (hts (.fieldLink RX8 142 "ForeignKeyStoreModel" "spot" "I") (List.mem_of_getElem? (i := 1) rfl)) (fun _ h9 => h9) rfl (by decide +kernel) rfl rfl (Nat.le_of_ble_eq_true rfl) dX8_takes_22 (fun H locs hP hD hS => ?_)
    have hP : va_P D vwCl [(bd 0, .inr (8, [.ref (bd 1), .ref (bd 2), .ref (bd 3), .ref (bd 4), .ref (bd 5), .ref (bd 6), .ref (bd 7), .int (iI (cn)), .ref (bd 8), .int (iI (mp)), .ref (bd 9), .int (iI (ty)), .int (iI (th)), .ref (bd 10), .ref (bd 11), .int (iI ((sp + 0))), .int (iI (ta)), .int (iI (ke)), .int (iI (on)), .int (iI (tw))])), (bd 9, .inl (cC, 80, .inl (iA (Tx))))] H := hP
    have hD : va_D AA [(bd 0, .inr (8, [.ref (bd 1), .ref (bd 2), .ref (bd 3), .ref (bd 4), .ref (bd 5), .ref (bd 6), .ref (bd 7), .int (iI (cn)), .ref (bd 8), .int (iI (mp)), .ref (bd 9), .int (iI (ty)), .int (iI (th)), .ref (bd 10), .ref (bd 11), .int (iI ((sp + 0))), .int (iI (ta)), .int (iI (ke)), .int (iI (on)), .int (iI (tw))])), (bd 9, .inl (cC, 80, .inl (iA (Tx))))] := hD
    refine lv_iload_n hx hb dX8_takes_25 rfl (lv_at hl 0 rfl) ?_
    refine z_mretZ ((sp + 0)) hx hb hr hlocks dX8_takes_26 (by exact bI_01 _) hP hD hS ?_
    unfold rS
    first | (rw [if_pos (show sgn Tx ty sp = a by omega), bI_t (by omega)]; exact ⟨rfl, by omega, by omega, by omega⟩) | (rw [if_neg (show ¬ sgn Tx ty sp = a by omega), bI_f (by omega), Int.add_zero]; exact ⟨rfl, by omega, by omega, by omega⟩)
  · refine lv_iconst (v := iI (1)) hx hb dX8_takes_16 rfl ?_
    refine lv_goto (tgt := 21) hx hb dX8_takes_17 (by decide) ?_
    refine z_iadd hx hb dX8_takes_21 ?_
    refine va_put (D := D) (ci := 8) (v := .int (iI ((sp + 1)))) (ty := .int) (C := RX8) (T := TX8) (N := 20) hx hb hts (fun _ h => List.mem_cons_of_mem _ (List.mem_append_right _ (h))) tyX8 tyX8_ok nmX8 hown hK.1 hP hD hS 0 rfl rfl 15 (by decide) (hts (.fieldLink RX8 142 "ForeignKeyStoreModel" "spot" "I") (List.mem_of_getElem? (i := 1) rfl)) (fun _ h9 => h9) rfl (by decide +kernel) rfl rfl (Nat.le_of_ble_eq_true rfl) dX8_takes_22 (fun H locs hP hD hS => ?_)
    have hP : va_P D vwCl [(bd 0, .inr (8, [.ref (bd 1), .ref (bd 2), .ref (bd 3), .ref (bd 4), .ref (bd 5), .ref (bd 6), .ref (bd 7), .int (iI (cn)), .ref (bd 8), .int (iI (mp)), .ref (bd 9), .int (iI (ty)), .int (iI (th)), .ref (bd 10), .ref (bd 11), .int (iI ((sp + 1))), .int (iI (ta)), .int (iI (ke)), .int (iI (on)), .int (iI (tw))])), (bd 9, .inl (cC, 80, .inl (iA (Tx))))] H := hP
    have hD : va_D AA [(bd 0, .inr (8, [.ref (bd 1), .ref (bd 2), .ref (bd 3), .ref (bd 4), .ref (bd 5), .ref (bd 6), .ref (bd 7), .int (iI (cn)), .ref (bd 8), .int (iI (mp)), .ref (bd 9), .int (iI (ty)), .int (iI (th)), .ref (bd 10), .ref (bd 11), .int (iI ((sp + 1))), .int (iI (ta)), .int (iI (ke)), .int (iI (on)), .int (iI (tw))])), (bd 9, .inl (cC, 80, .inl (iA (Tx))))] := hD
    refine lv_iload_n hx hb dX8_takes_25 rfl (lv_at hl 0 rfl) ?_
    refine z_mretZ ((sp + 1)) hx hb hr hlocks dX8_takes_26 (by exact bI_01 _) hP hD hS ?_
    unfold rS
    first | (rw [if_pos (show sgn Tx ty sp = a by omega), bI_t (by omega)]; exact ⟨rfl, by omega, by omega, by omega⟩) | (rw [if_neg (show ¬ sgn Tx ty sp = a by omega), bI_f (by omega), Int.add_zero]; exact ⟨rfl, by omega, by omega, by omega⟩)

set_option maxHeartbeats 600000 in
set_option maxRecDepth 100000 in
theorem c_X8_digit (l : Launch) (D : va_G) (cI cZ cC : ClassId) (sz : Nat) (bd : Nat → Nat) (cn mp ty th sp ta ke on tw : Int) (Tx : Int → Int) (a : Int) (g_Tx : ∀ j : Int, 0 ≤ j → j < 80 → 0 ≤ Tx j ∧ Tx j < 128) (g_ty : 0 ≤ ty ∧ ty ≤ 80) (g_sp : 0 ≤ sp ∧ sp ≤ ty) (g_a : 48 ≤ a ∧ a < 58) : zMi l yX8_digit wsX8_digit ({ frames := 2, cells := 0, slots := 0, locals := 44 }) D cI cZ cC [(bd 0, .inr (8, [.ref (bd 1), .ref (bd 2), .ref (bd 3), .ref (bd 4), .ref (bd 5), .ref (bd 6), .ref (bd 7), .int (iI (cn)), .ref (bd 8), .int (iI (mp)), .ref (bd 9), .int (iI (ty)), .int (iI (th)), .ref (bd 10), .ref (bd 11), .int (iI (sp)), .int (iI (ta)), .int (iI (ke)), .int (iI (on)), .int (iI (tw))])), (bd 9, .inl (cC, 80, .inl (iA (Tx))))] sz [.ref (bd 0), .int (iI (a))] (0) (0) (fun (u : Int) => [(bd 0, .inr (8, [.ref (bd 1), .ref (bd 2), .ref (bd 3), .ref (bd 4), .ref (bd 5), .ref (bd 6), .ref (bd 7), .int (iI (cn)), .ref (bd 8), .int (iI (mp)), .ref (bd 9), .int (iI (ty)), .int (iI (th)), .ref (bd 10), .ref (bd 11), .int (iI (u)), .int (iI (ta)), .int (iI (ke)), .int (iI (on)), .int (iI (tw))])), (bd 9, .inl (cC, 80, .inl (iA (Tx))))]) (fun v (u : Int) => (v, u) = rD Tx ty (a - 48) sp ∧ (v = -2 ∨ (0 ≤ v ∧ v ≤ 9)) ∧ 0 ≤ u ∧ u ≤ ty) := by
  refine z_ofMi (cc := cX8_digit) (maxL := 3) (ret := (some .int)) RX8 (by decide +kernel) rfl rfl (Nat.le_of_ble_eq_true rfl) ?_
  intro p0 en0 s0 m0 args0 below0 meth0 c0 ls AA hx hb hr hlocks hml hown hts hP hD hS hA hK hl
  have hl : lv_has ls 3 [(0, .ref (bd 0)), (1, .int (iI (a)))] := hl
  obtain ⟨H, hH⟩ : ∃ H, H = s0.heap := ⟨_, rfl⟩
  obtain ⟨locs, hlo⟩ : ∃ locs : List Loc, locs = [] := ⟨_, rfl⟩
  have hP : va_P D vwCl [(bd 0, .inr (8, [.ref (bd 1), .ref (bd 2), .ref (bd 3), .ref (bd 4), .ref (bd 5), .ref (bd 6), .ref (bd 7), .int (iI (cn)), .ref (bd 8), .int (iI (mp)), .ref (bd 9), .int (iI (ty)), .int (iI (th)), .ref (bd 10), .ref (bd 11), .int (iI (sp)), .int (iI (ta)), .int (iI (ke)), .int (iI (on)), .int (iI (tw))])), (bd 9, .inl (cC, 80, .inl (iA (Tx))))] H := by rw [hH]; exact hP
  have hS : va_S AA s0.heap H locs := by rw [hH, hlo]; exact hS
  suffices hW : W p0 l en0 (headSpec wsX8_digit ({ frames := 2, cells := 0, slots := 0, locals := 44 })).room s0 m0 args0 below0 meth0 c0 H locs 0 0 (QMi below0 D ((fun (u : Int) => [(bd 0, .inr (8, [.ref (bd 1), .ref (bd 2), .ref (bd 3), .ref (bd 4), .ref (bd 5), .ref (bd 6), .ref (bd 7), .int (iI (cn)), .ref (bd 8), .int (iI (mp)), .ref (bd 9), .int (iI (ty)), .int (iI (th)), .ref (bd 10), .ref (bd 11), .int (iI (u)), .int (iI (ta)), .int (iI (ke)), .int (iI (on)), .int (iI (tw))])), (bd 9, .inl (cC, 80, .inl (iA (Tx))))])) (fun v (u : Int) => (v, u) = rD Tx ty (a - 48) sp ∧ (v = -2 ∨ (0 ≤ v ∧ v ≤ 9)) ∧ 0 ≤ u ∧ u ≤ ty) AA args0 s0 (0) (0)) (F0 m0 0 ls []) by rw [hH, hlo] at hW; exact hW
  have g_s := sgn_b g_Tx ty sp
  have g_se : sgn Tx ty sp = if sp < ty then Tx sp else -1 := by
    unfold sgn
    split <;> split <;> first | rfl | omega
  have g_s1 := fun q : sp < ty => g_se.trans (if_pos q)
  have g_s2 := fun q : ¬ sp < ty => g_se.trans (if_neg q)
  clear g_se
  refine lv_aload_n hx hb dX8_digit_0 rfl (lv_at hl 0 rfl) ?_
  refine lv_bipush (v := iI (48)) hx hb dX8_digit_1 (by decide) ?_
  refine lv_iload_n hx hb dX8_digit_3 rfl (lv_at hl 1 rfl) ?_
  refine z_roV (As := [.int (iI (48)), .int (iI (a))]) (rest := []) ⟨hx, hb, hml, hown, hts⟩ (c_X8_isHere l D cI cZ cC (bd) (cn) (mp) (ty) (th) (sp) (ta) (ke) (on) (tw) (Tx) (48) (a) (by first | assumption | omega) (by first | assumption | omega) (by first | assumption | omega) (by first | assumption | omega) (by first | assumption | omega)) (cwV 2 hts gX8_digit_X8_isHere rfl rfl rfl (by decide +kernel) ⟨Nat.le_of_ble_eq_true rfl, Nat.le_of_ble_eq_true rfl⟩) hP hK [0, 1] rfl 0 8 rfl rfl rfl rfl hl.1 rfl (Nat.le_of_ble_eq_true rfl) dX8_digit_4 ⟨by omega, by omega⟩ ?_
  refine z_b_eq (tgt := 25) hx hb dX8_digit_7 (by decide) (fun c_1 => ?_) (fun c_1 => ?_)
  · refine lv_bipush (v := iI (-2)) hx hb dX8_digit_25 (by decide) ?_
    refine lv_istore_n (lv' := [(2, .int (iI ((-2)))), (0, .ref (bd 0)), (1, .int (iI (a)))]) hx hb dX8_digit_27 rfl hl (by decide) rfl (fun ls hl => ?_)
    refine lv_aload_n hx hb dX8_digit_28 rfl (lv_at hl 1 rfl) ?_
    refine lv_dup hx hb dX8_digit_29 rfl ?_
    refine va_get (D := D) (ci := 8) (v := .int (iI (sp))) (C := RX8) (T := TX8) (N := 20) hx hb hts (fun _ h => List.mem_cons_of_mem _ (List.mem_append_right _ (h))) hown hK.1 hP 0 rfl rfl 15 (by decide) (hts (.fieldLink RX8 142 "ForeignKeyStoreModel" "spot" "I") (List.mem_of_getElem? (i := 2) rfl)) (fun _ h9 => h9) rfl dX8_digit_30 ?_
    refine lv_iload_n hx hb dX8_digit_33 rfl (lv_at hl 0 rfl) ?_
    refine lv_bipush (v := iI (-2)) hx hb dX8_digit_34 (by decide) ?_
    refine z_icmp_ne (tgt := 43) hx hb dX8_digit_36 (by decide) ⟨⟨by omega, by omega⟩, ⟨by omega, by omega⟩⟩ (fun c_2 => ?_) (fun c_2 => ?_)
    · exfalso
      omega
    · refine lv_iconst (v := iI (0)) hx hb dX8_digit_39 rfl ?_
      refine lv_goto (tgt := 44) hx hb dX8_digit_40 (by decide) ?_
      refine z_iadd hx hb dX8_digit_44 ?_
      refine va_put (D := D) (ci := 8) (v := .int (iI ((sp + 0)))) (ty := .int) (C := RX8) (T := TX8) (N := 20) hx hb hts (fun _ h => List.mem_cons_of_mem _ (List.mem_append_right _ (h))) tyX8 tyX8_ok nmX8 hown hK.1 hP hD hS 0 rfl rfl 15 (by decide) (hts (.fieldLink RX8 142 "ForeignKeyStoreModel" "spot" "I") (List.mem_of_getElem? (i := 2) rfl)) (fun _ h9 => h9) rfl (by decide +kernel) rfl rfl (Nat.le_of_ble_eq_true rfl) dX8_digit_45 (fun H locs hP hD hS => ?_)
      have hP : va_P D vwCl [(bd 0, .inr (8, [.ref (bd 1), .ref (bd 2), .ref (bd 3), .ref (bd 4), .ref (bd 5), .ref (bd 6), .ref (bd 7), .int (iI (cn)), .ref (bd 8), .int (iI (mp)), .ref (bd 9), .int (iI (ty)), .int (iI (th)), .ref (bd 10), .ref (bd 11), .int (iI ((sp + 0))), .int (iI (ta)), .int (iI (ke)), .int (iI (on)), .int (iI (tw))])), (bd 9, .inl (cC, 80, .inl (iA (Tx))))] H := hP
      have hD : va_D AA [(bd 0, .inr (8, [.ref (bd 1), .ref (bd 2), .ref (bd 3), .ref (bd 4), .ref (bd 5), .ref (bd 6), .ref (bd 7), .int (iI (cn)), .ref (bd 8), .int (iI (mp)), .ref (bd 9), .int (iI (ty)), .int (iI (th)), .ref (bd 10), .ref (bd 11), .int (iI ((sp + 0))), .int (iI (ta)), .int (iI (ke)), .int (iI (on)), .int (iI (tw))])), (bd 9, .inl (cC, 80, .inl (iA (Tx))))] := hD
      refine lv_iload_n hx hb dX8_digit_48 rfl (lv_at hl 0 rfl) ?_
      refine z_mret ((sp + 0)) hx hb hr hlocks dX8_digit_49 hP hD hS ?_
      have h9 := g_s1
      unfold rD
      first | (rw [if_neg (show ¬ (0 ≤ sgn Tx ty sp - 48 ∧ sgn Tx ty sp - 48 ≤ a - 48) by omega)]; exact ⟨by congr 1 <;> omega, by omega, by omega, by omega⟩) | (have h8 := g_s1 (by omega); rw [if_pos (show 0 ≤ sgn Tx ty sp - 48 ∧ sgn Tx ty sp - 48 ≤ a - 48 by omega)]; exact ⟨by rw [h8], by omega, by omega, by omega⟩)
  · refine lv_aload_n hx hb dX8_digit_10 rfl (lv_at hl 0 rfl) ?_
    refine va_get (D := D) (ci := 8) (v := .ref (bd 9)) (C := RX8) (T := TX8) (N := 20) hx hb hts (fun _ h => List.mem_cons_of_mem _ (List.mem_append_right _ (h))) hown hK.1 hP 0 rfl rfl 10 (by decide) (hts (.fieldLink RX8 35 "ForeignKeyStoreModel" "text" "[C") (List.mem_of_getElem? (i := 1) rfl)) (fun _ h9 => h9) rfl dX8_digit_11 ?_
    refine lv_aload_n hx hb dX8_digit_14 rfl (lv_at hl 0 rfl) ?_
    refine va_get (D := D) (ci := 8) (v := .int (iI (sp))) (C := RX8) (T := TX8) (N := 20) hx hb hts (fun _ h => List.mem_cons_of_mem _ (List.mem_append_right _ (h))) hown hK.1 hP 0 rfl rfl 15 (by decide) (hts (.fieldLink RX8 142 "ForeignKeyStoreModel" "spot" "I") (List.mem_of_getElem? (i := 2) rfl)) (fun _ h9 => h9) rfl dX8_digit_15 ?_
    refine z_cald hx hb hK.1 hP 1 2 rfl rfl (by omega) (by decide) dX8_digit_18 ?_
    have hb_3 := g_Tx (sp) (by omega) (by omega)
    refine lv_bipush (v := iI (48)) hx hb dX8_digit_19 (by decide) ?_
    refine z_isub hx hb dX8_digit_21 ?_
    refine lv_goto (tgt := 27) hx hb dX8_digit_22 (by decide) ?_
    refine lv_istore_n (lv' := [(2, .int (iI (((Tx (sp)) - 48)))), (0, .ref (bd 0)), (1, .int (iI (a)))]) hx hb dX8_digit_27 rfl hl (by decide) rfl (fun ls hl => ?_)
    refine lv_aload_n hx hb dX8_digit_28 rfl (lv_at hl 1 rfl) ?_
    refine lv_dup hx hb dX8_digit_29 rfl ?_
    refine va_get (D := D) (ci := 8) (v := .int (iI (sp))) (C := RX8) (T := TX8) (N := 20) hx hb hts (fun _ h => List.mem_cons_of_mem _ (List.mem_append_right _ (h))) hown hK.1 hP 0 rfl rfl 15 (by decide) (hts (.fieldLink RX8 142 "ForeignKeyStoreModel" "spot" "I") (List.mem_of_getElem? (i := 2) rfl)) (fun _ h9 => h9) rfl dX8_digit_30 ?_
    refine lv_iload_n hx hb dX8_digit_33 rfl (lv_at hl 0 rfl) ?_
    refine lv_bipush (v := iI (-2)) hx hb dX8_digit_34 (by decide) ?_
    refine z_icmp_ne (tgt := 43) hx hb dX8_digit_36 (by decide) ⟨⟨by omega, by omega⟩, ⟨by omega, by omega⟩⟩ (fun c_4 => ?_) (fun c_4 => ?_)
    · refine lv_iconst (v := iI (1)) hx hb dX8_digit_43 rfl ?_
      refine z_iadd hx hb dX8_digit_44 ?_
      refine va_put (D := D) (ci := 8) (v := .int (iI ((sp + 1)))) (ty := .int) (C := RX8) (T := TX8) (N := 20) hx hb hts (fun _ h => List.mem_cons_of_mem _ (List.mem_append_right _ (h))) tyX8 tyX8_ok nmX8 hown hK.1 hP hD hS 0 rfl rfl 15 (by decide) (hts (.fieldLink RX8 142 "ForeignKeyStoreModel" "spot" "I") (List.mem_of_getElem? (i := 2) rfl)) (fun _ h9 => h9) rfl (by decide +kernel) rfl rfl (Nat.le_of_ble_eq_true rfl) dX8_digit_45 (fun H locs hP hD hS => ?_)
      have hP : va_P D vwCl [(bd 0, .inr (8, [.ref (bd 1), .ref (bd 2), .ref (bd 3), .ref (bd 4), .ref (bd 5), .ref (bd 6), .ref (bd 7), .int (iI (cn)), .ref (bd 8), .int (iI (mp)), .ref (bd 9), .int (iI (ty)), .int (iI (th)), .ref (bd 10), .ref (bd 11), .int (iI ((sp + 1))), .int (iI (ta)), .int (iI (ke)), .int (iI (on)), .int (iI (tw))])), (bd 9, .inl (cC, 80, .inl (iA (Tx))))] H := hP
      have hD : va_D AA [(bd 0, .inr (8, [.ref (bd 1), .ref (bd 2), .ref (bd 3), .ref (bd 4), .ref (bd 5), .ref (bd 6), .ref (bd 7), .int (iI (cn)), .ref (bd 8), .int (iI (mp)), .ref (bd 9), .int (iI (ty)), .int (iI (th)), .ref (bd 10), .ref (bd 11), .int (iI ((sp + 1))), .int (iI (ta)), .int (iI (ke)), .int (iI (on)), .int (iI (tw))])), (bd 9, .inl (cC, 80, .inl (iA (Tx))))] := hD
      refine lv_iload_n hx hb dX8_digit_48 rfl (lv_at hl 0 rfl) ?_
      refine z_mret ((sp + 1)) hx hb hr hlocks dX8_digit_49 hP hD hS ?_
      have h9 := g_s1
      unfold rD
      first | (rw [if_neg (show ¬ (0 ≤ sgn Tx ty sp - 48 ∧ sgn Tx ty sp - 48 ≤ a - 48) by omega)]; exact ⟨by congr 1 <;> omega, by omega, by omega, by omega⟩) | (have h8 := g_s1 (by omega); rw [if_pos (show 0 ≤ sgn Tx ty sp - 48 ∧ sgn Tx ty sp - 48 ≤ a - 48 by omega)]; exact ⟨by rw [h8], by omega, by omega, by omega⟩)
    · refine lv_iconst (v := iI (0)) hx hb dX8_digit_39 rfl ?_
      refine lv_goto (tgt := 44) hx hb dX8_digit_40 (by decide) ?_
      refine z_iadd hx hb dX8_digit_44 ?_
      refine va_put (D := D) (ci := 8) (v := .int (iI ((sp + 0)))) (ty := .int) (C := RX8) (T := TX8) (N := 20) hx hb hts (fun _ h => List.mem_cons_of_mem _ (List.mem_append_right _ (h))) tyX8 tyX8_ok nmX8 hown hK.1 hP hD hS 0 rfl rfl 15 (by decide) (hts (.fieldLink RX8 142 "ForeignKeyStoreModel" "spot" "I") (List.mem_of_getElem? (i := 2) rfl)) (fun _ h9 => h9) rfl (by decide +kernel) rfl rfl (Nat.le_of_ble_eq_true rfl) dX8_digit_45 (fun H locs hP hD hS => ?_)
      have hP : va_P D vwCl [(bd 0, .inr (8, [.ref (bd 1), .ref (bd 2), .ref (bd 3), .ref (bd 4), .ref (bd 5), .ref (bd 6), .ref (bd 7), .int (iI (cn)), .ref (bd 8), .int (iI (mp)), .ref (bd 9), .int (iI (ty)), .int (iI (th)), .ref (bd 10), .ref (bd 11), .int (iI ((sp + 0))), .int (iI (ta)), .int (iI (ke)), .int (iI (on)), .int (iI (tw))])), (bd 9, .inl (cC, 80, .inl (iA (Tx))))] H := hP
      have hD : va_D AA [(bd 0, .inr (8, [.ref (bd 1), .ref (bd 2), .ref (bd 3), .ref (bd 4), .ref (bd 5), .ref (bd 6), .ref (bd 7), .int (iI (cn)), .ref (bd 8), .int (iI (mp)), .ref (bd 9), .int (iI (ty)), .int (iI (th)), .ref (bd 10), .ref (bd 11), .int (iI ((sp + 0))), .int (iI (ta)), .int (iI (ke)), .int (iI (on)), .int (iI (tw))])), (bd 9, .inl (cC, 80, .inl (iA (Tx))))] := hD
      refine lv_iload_n hx hb dX8_digit_48 rfl (lv_at hl 0 rfl) ?_
      refine z_mret ((sp + 0)) hx hb hr hlocks dX8_digit_49 hP hD hS ?_
      have h9 := g_s1
      unfold rD
      first | (rw [if_neg (show ¬ (0 ≤ sgn Tx ty sp - 48 ∧ sgn Tx ty sp - 48 ≤ a - 48) by omega)]; exact ⟨by congr 1 <;> omega, by omega, by omega, by omega⟩) | (have h8 := g_s1 (by omega); rw [if_pos (show 0 ≤ sgn Tx ty sp - 48 ∧ sgn Tx ty sp - 48 ≤ a - 48 by omega)]; exact ⟨by rw [h8], by omega, by omega, by omega⟩)

