theorem sgn_at {SG : Int → Int} {tl p : Int} (h : 0 ≤ sgn SG tl p) : 0 ≤ p ∧ p < tl ∧ p < 80 ∧ sgn SG tl p = SG p := by
  unfold sgn at h ⊢
  by_cases q : 0 ≤ p ∧ p < tl ∧ p < 80
  · rw [if_pos q]
    exact ⟨q.1, q.2.1, q.2.2, rfl⟩
  · rw [if_neg q] at h
    omega
theorem rG_v0 {SG : Int → Int} {tl ch p : Int} {cs as : List Int} (q : isV ch) (z : (vP SG tl ch p).1 = -2) : rG SG tl (ch :: cs) p as = (0, (vP SG tl ch p).2, as) := by rw [rG, if_pos q, if_pos z]
theorem rG_v1 {SG : Int → Int} {tl ch p : Int} {cs as : List Int} (q : isV ch) (z : ¬ (vP SG tl ch p).1 = -2) : rG SG tl (ch :: cs) p as = rG SG tl cs (vP SG tl ch p).2 (as ++ [(vP SG tl ch p).1]) := by rw [rG, if_pos q, if_neg z]
theorem rG_s0 {SG : Int → Int} {tl ch p : Int} {cs as : List Int} (q : ¬ isV ch) (z : (rS SG tl ch p).1 = 0) : rG SG tl (ch :: cs) p as = (0, (rS SG tl ch p).2, as) := by rw [rG, if_neg q, if_pos z]
theorem rG_s1 {SG : Int → Int} {tl ch p : Int} {cs as : List Int} (q : ¬ isV ch) (z : ¬ (rS SG tl ch p).1 = 0) : rG SG tl (ch :: cs) p as = rG SG tl cs (rS SG tl ch p).2 as := by rw [rG, if_neg q, if_neg z]
theorem rG_app (SG : Int → Int) (tl : Int) (ds : List Int) : ∀ (cs : List Int) (p : Int) (as : List Int), rG SG tl (cs ++ ds) p as = if (rG SG tl cs p as).1 = 0 then rG SG tl cs p as else rG SG tl ds (rG SG tl cs p as).2.1 (rG SG tl cs p as).2.2
  | [], p, as => by rw [List.nil_append, rG, if_neg (by show ¬ (1 : Int) = 0; decide)]
  | ch :: cs, p, as => by
    rw [List.cons_append, rG, rG]
    by_cases q : isV ch
    · rw [if_pos q, if_pos q]
      by_cases z : (vP SG tl ch p).1 = -2
      · rw [if_pos z, if_pos z, if_pos rfl]
      · rw [if_neg z, if_neg z]
        exact rG_app SG tl ds cs _ _
    · rw [if_neg q, if_neg q]
      by_cases z : (rS SG tl ch p).1 = 0
      · rw [if_pos z, if_pos z, if_pos rfl]
      · rw [if_neg z, if_neg z]
        exact rG_app SG tl ds cs _ _

set_option maxHeartbeats 600000 in
set_option maxRecDepth 100000 in
theorem c_X8_isHere (l : Launch) (D : va_G) (cI cZ cC : ClassId) (bd : Nat → Nat) (cn mp ty th sp ta ke on tw : Int) (Tx : Int → Int) (a b : Int) (g_Tx : ∀ j : Int, 0 ≤ j → j < 80 → 0 ≤ Tx j ∧ Tx j < 128) (g_ty : 0 ≤ ty ∧ ty ≤ 80) (g_sp : 0 ≤ sp ∧ sp ≤ ty) (g_a : 0 ≤ a ∧ a < 128) (g_b : 0 ≤ b ∧ b < 128) : zRo l yX8_isHere wsX8_isHere ({ frames := 1, cells := 0, slots := 0, locals := 22 }) D cI cZ cC [(bd 0, .inr (8, [.ref (bd 1), .ref (bd 2), .ref (bd 3), .ref (bd 4), .ref (bd 5), .ref (bd 6), .ref (bd 7), .int (iI (cn)), .ref (bd 8), .int (iI (mp)), .ref (bd 9), .int (iI (ty)), .int (iI (th)), .ref (bd 10), .ref (bd 11), .int (iI (sp)), .int (iI (ta)), .int (iI (ke)), .int (iI (on)), .int (iI (tw))])), (bd 9, .inl (cC, 80, .inl (iA (Tx))))] [.ref (bd 0), .int (iI (a)), .int (iI (b))] (bI (a ≤ sgn Tx ty sp ∧ sgn Tx ty sp ≤ b)) := by
  refine z_ofRo (cc := cX8_isHere) (maxL := 3) (ret := (some .boolean)) RX8 (by decide +kernel) rfl rfl (Nat.le_of_ble_eq_true rfl) ?_
  intro p0 en0 s0 m0 args0 below0 meth0 c0 ls hx hb hr hlocks hml hown hts hP hK hl
  have hl : lv_has ls 3 [(0, .ref (bd 0)), (1, .int (iI (a))), (2, .int (iI (b)))] := hl
  have g_s := sgn_b g_Tx ty sp
  have g_se : sgn Tx ty sp = if sp < ty then Tx sp else -1 := by
    unfold sgn
    split <;> split <;> first | rfl | omega
  have g_s1 := fun q : sp < ty => g_se.trans (if_pos q)
  have g_s2 := fun q : ¬ sp < ty => g_se.trans (if_neg q)
  clear g_se
  refine lv_aload_n hx hb dX8_isHere_0 rfl (lv_at hl 0 rfl) ?_
  refine va_get (D := D) (ci := 8) (v := .int (iI (sp))) (C := RX8) (T := TX8) (N := 20) hx hb hts (fun _ h => List.mem_cons_of_mem _ (List.mem_append_right _ (h))) hown hK.1 hP 0 rfl rfl 15 (by decide) (hts (.fieldLink RX8 142 "ForeignKeyStoreModel" "spot" "I") (List.mem_of_getElem? (i := 1) rfl)) (fun _ h9 => h9) rfl dX8_isHere_1 ?_
  refine lv_aload_n hx hb dX8_isHere_4 rfl (lv_at hl 0 rfl) ?_
  refine va_get (D := D) (ci := 8) (v := .int (iI (ty))) (C := RX8) (T := TX8) (N := 20) hx hb hts (fun _ h => List.mem_cons_of_mem _ (List.mem_append_right _ (h))) hown hK.1 hP 0 rfl rfl 11 (by decide) (hts (.fieldLink RX8 139 "ForeignKeyStoreModel" "typed" "I") (List.mem_of_getElem? (i := 2) rfl)) (fun _ h9 => h9) rfl dX8_isHere_5 ?_
  refine z_icmp_ge (tgt := 32) hx hb dX8_isHere_8 (by decide) ⟨⟨by omega, by omega⟩, ⟨by omega, by omega⟩⟩ (fun c_1 => ?_) (fun c_1 => ?_)
  · refine lv_iconst (v := iI (0)) hx hb dX8_isHere_32 rfl ?_
    refine z_rretZ hx hb hr hlocks dX8_isHere_33 (by omega) ?_
    refine (bI_f ?_).symm
    first | (have h9 := g_s1 (by omega); omega) | (have h9 := g_s2 (by omega); omega)
  · refine lv_aload_n hx hb dX8_isHere_11 rfl (lv_at hl 0 rfl) ?_
    refine va_get (D := D) (ci := 8) (v := .ref (bd 9)) (C := RX8) (T := TX8) (N := 20) hx hb hts (fun _ h => List.mem_cons_of_mem _ (List.mem_append_right _ (h))) hown hK.1 hP 0 rfl rfl 10 (by decide) (hts (.fieldLink RX8 35 "ForeignKeyStoreModel" "text" "[C") (List.mem_of_getElem? (i := 3) rfl)) (fun _ h9 => h9) rfl dX8_isHere_12 ?_
    refine lv_aload_n hx hb dX8_isHere_15 rfl (lv_at hl 0 rfl) ?_
    refine va_get (D := D) (ci := 8) (v := .int (iI (sp))) (C := RX8) (T := TX8) (N := 20) hx hb hts (fun _ h => List.mem_cons_of_mem _ (List.mem_append_right _ (h))) hown hK.1 hP 0 rfl rfl 15 (by decide) (hts (.fieldLink RX8 142 "ForeignKeyStoreModel" "spot" "I") (List.mem_of_getElem? (i := 1) rfl)) (fun _ h9 => h9) rfl dX8_isHere_16 ?_
    refine z_cald hx hb hK.1 hP 1 2 rfl rfl (by omega) (by decide) dX8_isHere_19 ?_
    have hb_2 := g_Tx (sp) (by omega) (by omega)
    refine lv_iload_n hx hb dX8_isHere_20 rfl (lv_at hl 1 rfl) ?_
    refine lv_iload_n hx hb dX8_isHere_21 rfl (lv_at hl 2 rfl) ?_
    refine z_roS (As := [.int (iI ((Tx (sp)))), .int (iI (a)), .int (iI (b))]) (rest := []) ⟨hx, hb, hml, hown, hts⟩ (c_X8_in l D cI cZ cC ((Tx (sp))) (a) (b) (by first | assumption | omega) (by first | assumption | omega) (by first | assumption | omega)) (va_cwS 3 hts gX8_isHere_X8_in rfl rfl rfl (by decide +kernel) ⟨Nat.le_of_ble_eq_true rfl, Nat.le_of_ble_eq_true rfl⟩) hP hK [] rfl rfl hl.1 rfl (Nat.le_of_ble_eq_true rfl) dX8_isHere_22 ⟨by omega, by omega⟩ ?_
    refine z_b_eq (tgt := 32) hx hb dX8_isHere_25 (by decide) (fun c_3 => ?_) (fun c_3 => ?_)
    · refine lv_iconst (v := iI (0)) hx hb dX8_isHere_32 rfl ?_
      refine z_rretZ hx hb hr hlocks dX8_isHere_33 (by omega) ?_
      refine (bI_f ?_).symm
      first | (have h9 := g_s1 (by omega); omega) | (have h9 := g_s2 (by omega); omega)
    · refine lv_iconst (v := iI (1)) hx hb dX8_isHere_28 rfl ?_
      refine lv_goto (tgt := 33) hx hb dX8_isHere_29 (by decide) ?_
      refine z_rretZ hx hb hr hlocks dX8_isHere_33 (by omega) ?_
      refine (bI_t ?_).symm
      first | (have h9 := g_s1 (by omega); omega) | (have h9 := g_s2 (by omega); omega)

set_option maxHeartbeats 600000 in
set_option maxRecDepth 100000 in
theorem c_X8_takes (l : Launch) (D : va_G) (cI cZ cC : ClassId) (sz : Nat) (bd : Nat → Nat) (cn mp ty th sp ta ke on tw : Int) (Tx : Int → Int) (a : Int) (g_Tx : ∀ j : Int, 0 ≤ j → j < 80 → 0 ≤ Tx j ∧ Tx j < 128) (g_ty : 0 ≤ ty ∧ ty ≤ 80) (g_sp : 0 ≤ sp ∧ sp ≤ ty) (g_a : 0 ≤ a ∧ a < 128) : zMi l yX8_takes wsX8_takes ({ frames := 2, cells := 0, slots := 0, locals := 44 }) D cI cZ cC [(bd 0, .inr (8, [.ref (bd 1), .ref (bd 2), .ref (bd 3), .ref (bd 4), .ref (bd 5), .ref (bd 6), .ref (bd 7), .int (iI (cn)), .ref (bd 8), .int (iI (mp)), .ref (bd 9), .int (iI (ty)), .int (iI (th)), .ref (bd 10), .ref (bd 11), .int (iI (sp)), .int (iI (ta)), .int (iI (ke)), .int (iI (on)), .int (iI (tw))])), (bd 9, .inl (cC, 80, .inl (iA (Tx))))] sz [.ref (bd 0), .int (iI (a))] (0) (0) (fun (u : Int) => [(bd 0, .inr (8, [.ref (bd 1), .ref (bd 2), .ref (bd 3), .ref (bd 4), .ref (bd 5), .ref (bd 6), .ref (bd 7), .int (iI (cn)), .ref (bd 8), .int (iI (mp)), .ref (bd 9), .int (iI (ty)), .int (iI (th)), .ref (bd 10), .ref (bd 11), .int (iI (u)), .int (iI (ta)), .int (iI (ke)), .int (iI (on)), .int (iI (tw))])), (bd 9, .inl (cC, 80, .inl (iA (Tx))))]) (fun v (u : Int) => (v, u) = rS Tx ty a sp ∧ (v = 0 ∨ v = 1) ∧ 0 ≤ u ∧ u ≤ ty) := by
  refine z_ofMi (cc := cX8_takes) (maxL := 3) (ret := (some .boolean)) RX8 (by decide +kernel) rfl rfl (Nat.le_of_ble_eq_true rfl) ?_
  intro p0 en0 s0 m0 args0 below0 meth0 c0 ls AA hx hb hr hlocks hml hown hts hP hD hS hA hK hl
  have hl : lv_has ls 3 [(0, .ref (bd 0)), (1, .int (iI (a)))] := hl
  obtain ⟨H, hH⟩ : ∃ H, H = s0.heap := ⟨_, rfl⟩
  obtain ⟨locs, hlo⟩ : ∃ locs : List Loc, locs = [] := ⟨_, rfl⟩
  have hP : va_P D vwCl [(bd 0, .inr (8, [.ref (bd 1), .ref (bd 2), .ref (bd 3), .ref (bd 4), .ref (bd 5), .ref (bd 6), .ref (bd 7), .int (iI (cn)), .ref (bd 8), .int (iI (mp)), .ref (bd 9), .int (iI (ty)), .int (iI (th)), .ref (bd 10), .ref (bd 11), .int (iI (sp)), .int (iI (ta)), .int (iI (ke)), .int (iI (on)), .int (iI (tw))])), (bd 9, .inl (cC, 80, .inl (iA (Tx))))] H := by rw [hH]; exact hP
  have hS : va_S AA s0.heap H locs := by rw [hH, hlo]; exact hS
  suffices hW : W p0 l en0 (headSpec wsX8_takes ({ frames := 2, cells := 0, slots := 0, locals := 44 })).room s0 m0 args0 below0 meth0 c0 H locs 0 0 (QMi below0 D ((fun (u : Int) => [(bd 0, .inr (8, [.ref (bd 1), .ref (bd 2), .ref (bd 3), .ref (bd 4), .ref (bd 5), .ref (bd 6), .ref (bd 7), .int (iI (cn)), .ref (bd 8), .int (iI (mp)), .ref (bd 9), .int (iI (ty)), .int (iI (th)), .ref (bd 10), .ref (bd 11), .int (iI (u)), .int (iI (ta)), .int (iI (ke)), .int (iI (on)), .int (iI (tw))])), (bd 9, .inl (cC, 80, .inl (iA (Tx))))])) (fun v (u : Int) => (v, u) = rS Tx ty a sp ∧ (v = 0 ∨ v = 1) ∧ 0 ≤ u ∧ u ≤ ty) AA args0 s0 (0) (0)) (F0 m0 0 ls []) by rw [hH, hlo] at hW; exact hW
  have g_s := sgn_b g_Tx ty sp
  have g_se : sgn Tx ty sp = if sp < ty then Tx sp else -1 := by
    unfold sgn
    split <;> split <;> first | rfl | omega
  have g_s1 := fun q : sp < ty => g_se.trans (if_pos q)
  have g_s2 := fun q : ¬ sp < ty => g_se.trans (if_neg q)
  clear g_se
  refine lv_aload_n hx hb dX8_takes_0 rfl (lv_at hl 0 rfl) ?_
  refine lv_iload_n hx hb dX8_takes_1 rfl (lv_at hl 1 rfl) ?_
  refine lv_iload_n hx hb dX8_takes_2 rfl (lv_at hl 1 rfl) ?_
  refine z_roV (As := [.int (iI (a)), .int (iI (a))]) (rest := []) ⟨hx, hb, hml, hown, hts⟩ (c_X8_isHere l D cI cZ cC (bd) (cn) (mp) (ty) (th) (sp) (ta) (ke) (on) (tw) (Tx) (a) (a) (by first | assumption | omega) (by first | assumption | omega) (by first | assumption | omega) (by first | assumption | omega) (by first | assumption | omega)) (cwV 2 hts gX8_takes_X8_isHere rfl rfl rfl (by decide +kernel) ⟨Nat.le_of_ble_eq_true rfl, Nat.le_of_ble_eq_true rfl⟩) hP hK [0, 1] rfl 0 8 rfl rfl rfl rfl hl.1 rfl (Nat.le_of_ble_eq_true rfl) dX8_takes_3 ⟨by omega, by omega⟩ ?_
  refine lv_istore_n (lv' := [(2, .int (iI (bI (a ≤ sgn Tx ty sp ∧ sgn Tx ty sp ≤ a)))), (0, .ref (bd 0)), (1, .int (iI (a)))]) hx hb dX8_takes_6 rfl hl (by decide) rfl (fun ls hl => ?_)
  refine lv_aload_n hx hb dX8_takes_7 rfl (lv_at hl 1 rfl) ?_
  refine lv_dup hx hb dX8_takes_8 rfl ?_
  refine va_get (D := D) (ci := 8) (v := .int (iI (sp))) (C := RX8) (T := TX8) (N := 20) hx hb hts (fun _ h => List.mem_cons_of_mem _ (List.mem_append_right _ (h))) hown hK.1 hP 0 rfl rfl 15 (by decide) (hts (.fieldLink RX8 142 "ForeignKeyStoreModel" "spot" "I") (List.mem_of_getElem? (i := 1) rfl)) (fun _ h9 => h9) rfl dX8_takes_9 ?_
  refine lv_iload_n hx hb dX8_takes_12 rfl (lv_at hl 0 rfl) ?_
  refine z_b_eq (tgt := 20) hx hb dX8_takes_13 (by decide) (fun c_1 => ?_) (fun c_1 => ?_)
  · refine lv_iconst (v := iI (0)) hx hb dX8_takes_20 rfl ?_
    refine z_iadd hx hb dX8_takes_21 ?_
    refine va_put (D := D) (ci := 8) (v := .int (iI ((sp + 0)))) (ty := .int) (C := RX8) (T := TX8) (N := 20) hx hb hts (fun _ h => List.mem_cons_of_mem _ (List.mem_append_right _ (h))) tyX8 tyX8_ok nmX8 hown hK.1 hP hD hS 0 rfl rfl 15 (by decide) (hts (.fieldLink RX8 142 "ForeignKeyStoreModel" "spot" "I") (List.mem_of_getElem? (i := 1) rfl)) (fun _ h9 => h9) rfl (by decide +kernel) rfl rfl (Nat.le_of_ble_eq_true rfl) dX8_takes_22 (fun H locs hP hD hS => ?_)
    have hP : va_P D vwCl [(bd 0, .inr (8, [.ref (bd 1), .ref (bd 2), .ref (bd 3), .ref (bd 4), .ref (bd 5), .ref (bd 6), .ref (bd 7), .int (iI (cn)), .ref (bd 8), .int (iI (mp)), .ref (bd 9), .int (iI (ty)), .int (iI (th)), .ref (bd 10), .ref (bd 11), .int (iI ((sp + 0))), .int (iI (ta)), .int (iI (ke)), .int (iI (on)), .int (iI (tw))])), (bd 9, .inl (cC, 80, .inl (iA (Tx))))] H := hP
    have hD : va_D AA [(bd 0, .inr (8, [.ref (bd 1), .ref (bd 2), .ref (bd 3), .ref (bd 4), .ref (bd 5), .ref (bd 6), .ref (bd 7), .int (iI (cn)), .ref (bd 8), .int (iI (mp)), .ref (bd 9), .int (iI (ty)), .int (iI (th)), .ref (bd 10), .ref (bd 11), .int (iI ((sp + 0))), .int (iI (ta)), .int (iI (ke)), .int (iI (on)), .int (iI (tw))])), (bd 9, .inl (cC, 80, .inl (iA (Tx))))] := hD
    refine lv_iload_n hx hb dX8_takes_25 rfl (lv_at hl 0 rfl) ?_
    refine z_mretZ ((sp + 0)) hx hb hr hlocks dX8_takes_26 (by exact bI_01 _) hP hD hS ?_
    unfold rS
    first | (rw [if_pos (show sgn Tx ty sp = a by omega), bI_t (by omega)]; exact ⟨rfl, by omega, by omega, by omega⟩) | (rw [if_neg (show ¬ sgn Tx ty sp = a by omega), bI_f (by omega), Int.add_zero]; exact ⟨rfl, by omega, by omega, by omega⟩)
  · refine lv_iconst (v := iI (1)) hx hb dX8_takes_16 rfl ?_
    refine lv_goto (tgt := 21) hx hb dX8_takes_17 (by decide) ?_
    refine z_iadd hx hb dX8_takes_21 ?_
    refine va_put (D := D) (ci := 8) (v := .int (iI ((sp + 1)))) (ty := .int) (C := RX8) (T := TX8) (N := 20) hx hb hts (fun _ h => List.mem_cons_of_mem _ (List.mem_append_right _ (h))) tyX8 tyX8_ok nmX8 hown hK.1 hP hD hS 0 rfl rfl 15 (by decide) (hts (.fieldLink RX8 142 "ForeignKeyStoreModel" "spot" "I") (List.mem_of_getElem? (i := 1) rfl)) (fun _ h9 => h9) rfl (by decide +kernel) rfl rfl (Nat.le_of_ble_eq_true rfl) dX8_takes_22 (fun H locs hP hD hS => ?_)
    have hP : va_P D vwCl [(bd 0, .inr (8, [.ref (bd 1), .ref (bd 2), .ref (bd 3), .ref (bd 4), .ref (bd 5), .ref (bd 6), .ref (bd 7), .int (iI (cn)), .ref (bd 8), .int (iI (mp)), .ref (bd 9), .int (iI (ty)), .int (iI (th)), .ref (bd 10), .ref (bd 11), .int (iI ((sp + 1))), .int (iI (ta)), .int (iI (ke)), .int (iI (on)), .int (iI (tw))])), (bd 9, .inl (cC, 80, .inl (iA (Tx))))] H := hP
    have hD : va_D AA [(bd 0, .inr (8, [.ref (bd 1), .ref (bd 2), .ref (bd 3), .ref (bd 4), .ref (bd 5), .ref (bd 6), .ref (bd 7), .int (iI (cn)), .ref (bd 8), .int (iI (mp)), .ref (bd 9), .int (iI (ty)), .int (iI (th)), .ref (bd 10), .ref (bd 11), .int (iI ((sp + 1))), .int (iI (ta)), .int (iI (ke)), .int (iI (on)), .int (iI (tw))])), (bd 9, .inl (cC, 80, .inl (iA (Tx))))] := hD
    refine lv_iload_n hx hb dX8_takes_25 rfl (lv_at hl 0 rfl) ?_
    refine z_mretZ ((sp + 1)) hx hb hr hlocks dX8_takes_26 (by exact bI_01 _) hP hD hS ?_
    unfold rS
    first | (rw [if_pos (show sgn Tx ty sp = a by omega), bI_t (by omega)]; exact ⟨rfl, by omega, by omega, by omega⟩) | (rw [if_neg (show ¬ sgn Tx ty sp = a by omega), bI_f (by omega), Int.add_zero]; exact ⟨rfl, by omega, by omega, by omega⟩)

set_option maxHeartbeats 600000 in
set_option maxRecDepth 100000 in
theorem c_X8_digit (l : Launch) (D : va_G) (cI cZ cC : ClassId) (sz : Nat) (bd : Nat → Nat) (cn mp ty th sp ta ke on tw : Int) (Tx : Int → Int) (a : Int) (g_Tx : ∀ j : Int, 0 ≤ j → j < 80 → 0 ≤ Tx j ∧ Tx j < 128) (g_ty : 0 ≤ ty ∧ ty ≤ 80) (g_sp : 0 ≤ sp ∧ sp ≤ ty) (g_a : 48 ≤ a ∧ a < 58) : zMi l yX8_digit wsX8_digit ({ frames := 2, cells := 0, slots := 0, locals := 44 }) D cI cZ cC [(bd 0, .inr (8, [.ref (bd 1), .ref (bd 2), .ref (bd 3), .ref (bd 4), .ref (bd 5), .ref (bd 6), .ref (bd 7), .int (iI (cn)), .ref (bd 8), .int (iI (mp)), .ref (bd 9), .int (iI (ty)), .int (iI (th)), .ref (bd 10), .ref (bd 11), .int (iI (sp)), .int (iI (ta)), .int (iI (ke)), .int (iI (on)), .int (iI (tw))])), (bd 9, .inl (cC, 80, .inl (iA (Tx))))] sz [.ref (bd 0), .int (iI (a))] (0) (0) (fun (u : Int) => [(bd 0, .inr (8, [.ref (bd 1), .ref (bd 2), .ref (bd 3), .ref (bd 4), .ref (bd 5), .ref (bd 6), .ref (bd 7), .int (iI (cn)), .ref (bd 8), .int (iI (mp)), .ref (bd 9), .int (iI (ty)), .int (iI (th)), .ref (bd 10), .ref (bd 11), .int (iI (u)), .int (iI (ta)), .int (iI (ke)), .int (iI (on)), .int (iI (tw))])), (bd 9, .inl (cC, 80, .inl (iA (Tx))))]) (fun v (u : Int) => (v, u) = rD Tx ty (a - 48) sp ∧ (v = -2 ∨ (0 ≤ v ∧ v ≤ a - 48)) ∧ 0 ≤ u ∧ u ≤ ty) := by
  refine z_ofMi (cc := cX8_digit) (maxL := 3) (ret := (some .int)) RX8 (by decide +kernel) rfl rfl (Nat.le_of_ble_eq_true rfl) ?_
  intro p0 en0 s0 m0 args0 below0 meth0 c0 ls AA hx hb hr hlocks hml hown hts hP hD hS hA hK hl
  have hl : lv_has ls 3 [(0, .ref (bd 0)), (1, .int (iI (a)))] := hl
  obtain ⟨H, hH⟩ : ∃ H, H = s0.heap := ⟨_, rfl⟩
  obtain ⟨locs, hlo⟩ : ∃ locs : List Loc, locs = [] := ⟨_, rfl⟩
  have hP : va_P D vwCl [(bd 0, .inr (8, [.ref (bd 1), .ref (bd 2), .ref (bd 3), .ref (bd 4), .ref (bd 5), .ref (bd 6), .ref (bd 7), .int (iI (cn)), .ref (bd 8), .int (iI (mp)), .ref (bd 9), .int (iI (ty)), .int (iI (th)), .ref (bd 10), .ref (bd 11), .int (iI (sp)), .int (iI (ta)), .int (iI (ke)), .int (iI (on)), .int (iI (tw))])), (bd 9, .inl (cC, 80, .inl (iA (Tx))))] H := by rw [hH]; exact hP
  have hS : va_S AA s0.heap H locs := by rw [hH, hlo]; exact hS
  suffices hW : W p0 l en0 (headSpec wsX8_digit ({ frames := 2, cells := 0, slots := 0, locals := 44 })).room s0 m0 args0 below0 meth0 c0 H locs 0 0 (QMi below0 D ((fun (u : Int) => [(bd 0, .inr (8, [.ref (bd 1), .ref (bd 2), .ref (bd 3), .ref (bd 4), .ref (bd 5), .ref (bd 6), .ref (bd 7), .int (iI (cn)), .ref (bd 8), .int (iI (mp)), .ref (bd 9), .int (iI (ty)), .int (iI (th)), .ref (bd 10), .ref (bd 11), .int (iI (u)), .int (iI (ta)), .int (iI (ke)), .int (iI (on)), .int (iI (tw))])), (bd 9, .inl (cC, 80, .inl (iA (Tx))))])) (fun v (u : Int) => (v, u) = rD Tx ty (a - 48) sp ∧ (v = -2 ∨ (0 ≤ v ∧ v ≤ a - 48)) ∧ 0 ≤ u ∧ u ≤ ty) AA args0 s0 (0) (0)) (F0 m0 0 ls []) by rw [hH, hlo] at hW; exact hW
  have g_s := sgn_b g_Tx ty sp
  have g_se : sgn Tx ty sp = if sp < ty then Tx sp else -1 := by
    unfold sgn
    split <;> split <;> first | rfl | omega
  have g_s1 := fun q : sp < ty => g_se.trans (if_pos q)
  have g_s2 := fun q : ¬ sp < ty => g_se.trans (if_neg q)
  clear g_se
  refine lv_aload_n hx hb dX8_digit_0 rfl (lv_at hl 0 rfl) ?_
  refine lv_bipush (v := iI (48)) hx hb dX8_digit_1 (by decide) ?_
  refine lv_iload_n hx hb dX8_digit_3 rfl (lv_at hl 1 rfl) ?_
  refine z_roV (As := [.int (iI (48)), .int (iI (a))]) (rest := []) ⟨hx, hb, hml, hown, hts⟩ (c_X8_isHere l D cI cZ cC (bd) (cn) (mp) (ty) (th) (sp) (ta) (ke) (on) (tw) (Tx) (48) (a) (by first | assumption | omega) (by first | assumption | omega) (by first | assumption | omega) (by first | assumption | omega) (by first | assumption | omega)) (cwV 2 hts gX8_digit_X8_isHere rfl rfl rfl (by decide +kernel) ⟨Nat.le_of_ble_eq_true rfl, Nat.le_of_ble_eq_true rfl⟩) hP hK [0, 1] rfl 0 8 rfl rfl rfl rfl hl.1 rfl (Nat.le_of_ble_eq_true rfl) dX8_digit_4 ⟨by omega, by omega⟩ ?_
  refine z_b_eq (tgt := 25) hx hb dX8_digit_7 (by decide) (fun c_1 => ?_) (fun c_1 => ?_)
  · refine lv_bipush (v := iI (-2)) hx hb dX8_digit_25 (by decide) ?_
    refine lv_istore_n (lv' := [(2, .int (iI ((-2)))), (0, .ref (bd 0)), (1, .int (iI (a)))]) hx hb dX8_digit_27 rfl hl (by decide) rfl (fun ls hl => ?_)
    refine lv_aload_n hx hb dX8_digit_28 rfl (lv_at hl 1 rfl) ?_
    refine lv_dup hx hb dX8_digit_29 rfl ?_
    refine va_get (D := D) (ci := 8) (v := .int (iI (sp))) (C := RX8) (T := TX8) (N := 20) hx hb hts (fun _ h => List.mem_cons_of_mem _ (List.mem_append_right _ (h))) hown hK.1 hP 0 rfl rfl 15 (by decide) (hts (.fieldLink RX8 142 "ForeignKeyStoreModel" "spot" "I") (List.mem_of_getElem? (i := 2) rfl)) (fun _ h9 => h9) rfl dX8_digit_30 ?_
    refine lv_iload_n hx hb dX8_digit_33 rfl (lv_at hl 0 rfl) ?_
    refine lv_bipush (v := iI (-2)) hx hb dX8_digit_34 (by decide) ?_
    refine z_icmp_ne (tgt := 43) hx hb dX8_digit_36 (by decide) ⟨⟨by omega, by omega⟩, ⟨by omega, by omega⟩⟩ (fun c_2 => ?_) (fun c_2 => ?_)
    · exfalso
      omega
    · refine lv_iconst (v := iI (0)) hx hb dX8_digit_39 rfl ?_
      refine lv_goto (tgt := 44) hx hb dX8_digit_40 (by decide) ?_
      refine z_iadd hx hb dX8_digit_44 ?_
      refine va_put (D := D) (ci := 8) (v := .int (iI ((sp + 0)))) (ty := .int) (C := RX8) (T := TX8) (N := 20) hx hb hts (fun _ h => List.mem_cons_of_mem _ (List.mem_append_right _ (h))) tyX8 tyX8_ok nmX8 hown hK.1 hP hD hS 0 rfl rfl 15 (by decide) (hts (.fieldLink RX8 142 "ForeignKeyStoreModel" "spot" "I") (List.mem_of_getElem? (i := 2) rfl)) (fun _ h9 => h9) rfl (by decide +kernel) rfl rfl (Nat.le_of_ble_eq_true rfl) dX8_digit_45 (fun H locs hP hD hS => ?_)
      have hP : va_P D vwCl [(bd 0, .inr (8, [.ref (bd 1), .ref (bd 2), .ref (bd 3), .ref (bd 4), .ref (bd 5), .ref (bd 6), .ref (bd 7), .int (iI (cn)), .ref (bd 8), .int (iI (mp)), .ref (bd 9), .int (iI (ty)), .int (iI (th)), .ref (bd 10), .ref (bd 11), .int (iI ((sp + 0))), .int (iI (ta)), .int (iI (ke)), .int (iI (on)), .int (iI (tw))])), (bd 9, .inl (cC, 80, .inl (iA (Tx))))] H := hP
      have hD : va_D AA [(bd 0, .inr (8, [.ref (bd 1), .ref (bd 2), .ref (bd 3), .ref (bd 4), .ref (bd 5), .ref (bd 6), .ref (bd 7), .int (iI (cn)), .ref (bd 8), .int (iI (mp)), .ref (bd 9), .int (iI (ty)), .int (iI (th)), .ref (bd 10), .ref (bd 11), .int (iI ((sp + 0))), .int (iI (ta)), .int (iI (ke)), .int (iI (on)), .int (iI (tw))])), (bd 9, .inl (cC, 80, .inl (iA (Tx))))] := hD
      refine lv_iload_n hx hb dX8_digit_48 rfl (lv_at hl 0 rfl) ?_
      refine z_mret ((sp + 0)) hx hb hr hlocks dX8_digit_49 hP hD hS ?_
      have h9 := g_s1
      unfold rD
      first | (rw [if_neg (show ¬ (0 ≤ sgn Tx ty sp - 48 ∧ sgn Tx ty sp - 48 ≤ a - 48) by omega)]; exact ⟨by congr 1 <;> omega, by omega, by omega, by omega⟩) | (have h8 := g_s1 (by omega); rw [if_pos (show 0 ≤ sgn Tx ty sp - 48 ∧ sgn Tx ty sp - 48 ≤ a - 48 by omega)]; exact ⟨by rw [h8], by omega, by omega, by omega⟩)
  · refine lv_aload_n hx hb dX8_digit_10 rfl (lv_at hl 0 rfl) ?_
    refine va_get (D := D) (ci := 8) (v := .ref (bd 9)) (C := RX8) (T := TX8) (N := 20) hx hb hts (fun _ h => List.mem_cons_of_mem _ (List.mem_append_right _ (h))) hown hK.1 hP 0 rfl rfl 10 (by decide) (hts (.fieldLink RX8 35 "ForeignKeyStoreModel" "text" "[C") (List.mem_of_getElem? (i := 1) rfl)) (fun _ h9 => h9) rfl dX8_digit_11 ?_
    refine lv_aload_n hx hb dX8_digit_14 rfl (lv_at hl 0 rfl) ?_
    refine va_get (D := D) (ci := 8) (v := .int (iI (sp))) (C := RX8) (T := TX8) (N := 20) hx hb hts (fun _ h => List.mem_cons_of_mem _ (List.mem_append_right _ (h))) hown hK.1 hP 0 rfl rfl 15 (by decide) (hts (.fieldLink RX8 142 "ForeignKeyStoreModel" "spot" "I") (List.mem_of_getElem? (i := 2) rfl)) (fun _ h9 => h9) rfl dX8_digit_15 ?_
    refine z_cald hx hb hK.1 hP 1 2 rfl rfl (by omega) (by decide) dX8_digit_18 ?_
    have hb_3 := g_Tx (sp) (by omega) (by omega)
    refine lv_bipush (v := iI (48)) hx hb dX8_digit_19 (by decide) ?_
    refine z_isub hx hb dX8_digit_21 ?_
    refine lv_goto (tgt := 27) hx hb dX8_digit_22 (by decide) ?_
    refine lv_istore_n (lv' := [(2, .int (iI (((Tx (sp)) - 48)))), (0, .ref (bd 0)), (1, .int (iI (a)))]) hx hb dX8_digit_27 rfl hl (by decide) rfl (fun ls hl => ?_)
    refine lv_aload_n hx hb dX8_digit_28 rfl (lv_at hl 1 rfl) ?_
    refine lv_dup hx hb dX8_digit_29 rfl ?_
    refine va_get (D := D) (ci := 8) (v := .int (iI (sp))) (C := RX8) (T := TX8) (N := 20) hx hb hts (fun _ h => List.mem_cons_of_mem _ (List.mem_append_right _ (h))) hown hK.1 hP 0 rfl rfl 15 (by decide) (hts (.fieldLink RX8 142 "ForeignKeyStoreModel" "spot" "I") (List.mem_of_getElem? (i := 2) rfl)) (fun _ h9 => h9) rfl dX8_digit_30 ?_
    refine lv_iload_n hx hb dX8_digit_33 rfl (lv_at hl 0 rfl) ?_
    refine lv_bipush (v := iI (-2)) hx hb dX8_digit_34 (by decide) ?_
    refine z_icmp_ne (tgt := 43) hx hb dX8_digit_36 (by decide) ⟨⟨by omega, by omega⟩, ⟨by omega, by omega⟩⟩ (fun c_4 => ?_) (fun c_4 => ?_)
    · refine lv_iconst (v := iI (1)) hx hb dX8_digit_43 rfl ?_
      refine z_iadd hx hb dX8_digit_44 ?_
      refine va_put (D := D) (ci := 8) (v := .int (iI ((sp + 1)))) (ty := .int) (C := RX8) (T := TX8) (N := 20) hx hb hts (fun _ h => List.mem_cons_of_mem _ (List.mem_append_right _ (h))) tyX8 tyX8_ok nmX8 hown hK.1 hP hD hS 0 rfl rfl 15 (by decide) (hts (.fieldLink RX8 142 "ForeignKeyStoreModel" "spot" "I") (List.mem_of_getElem? (i := 2) rfl)) (fun _ h9 => h9) rfl (by decide +kernel) rfl rfl (Nat.le_of_ble_eq_true rfl) dX8_digit_45 (fun H locs hP hD hS => ?_)
      have hP : va_P D vwCl [(bd 0, .inr (8, [.ref (bd 1), .ref (bd 2), .ref (bd 3), .ref (bd 4), .ref (bd 5), .ref (bd 6), .ref (bd 7), .int (iI (cn)), .ref (bd 8), .int (iI (mp)), .ref (bd 9), .int (iI (ty)), .int (iI (th)), .ref (bd 10), .ref (bd 11), .int (iI ((sp + 1))), .int (iI (ta)), .int (iI (ke)), .int (iI (on)), .int (iI (tw))])), (bd 9, .inl (cC, 80, .inl (iA (Tx))))] H := hP
      have hD : va_D AA [(bd 0, .inr (8, [.ref (bd 1), .ref (bd 2), .ref (bd 3), .ref (bd 4), .ref (bd 5), .ref (bd 6), .ref (bd 7), .int (iI (cn)), .ref (bd 8), .int (iI (mp)), .ref (bd 9), .int (iI (ty)), .int (iI (th)), .ref (bd 10), .ref (bd 11), .int (iI ((sp + 1))), .int (iI (ta)), .int (iI (ke)), .int (iI (on)), .int (iI (tw))])), (bd 9, .inl (cC, 80, .inl (iA (Tx))))] := hD
      refine lv_iload_n hx hb dX8_digit_48 rfl (lv_at hl 0 rfl) ?_
      refine z_mret ((sp + 1)) hx hb hr hlocks dX8_digit_49 hP hD hS ?_
      have h9 := g_s1
      unfold rD
      first | (rw [if_neg (show ¬ (0 ≤ sgn Tx ty sp - 48 ∧ sgn Tx ty sp - 48 ≤ a - 48) by omega)]; exact ⟨by congr 1 <;> omega, by omega, by omega, by omega⟩) | (have h8 := g_s1 (by omega); rw [if_pos (show 0 ≤ sgn Tx ty sp - 48 ∧ sgn Tx ty sp - 48 ≤ a - 48 by omega)]; exact ⟨by rw [h8], by omega, by omega, by omega⟩)
    · refine lv_iconst (v := iI (0)) hx hb dX8_digit_39 rfl ?_
      refine lv_goto (tgt := 44) hx hb dX8_digit_40 (by decide) ?_
      refine z_iadd hx hb dX8_digit_44 ?_
      refine va_put (D := D) (ci := 8) (v := .int (iI ((sp + 0)))) (ty := .int) (C := RX8) (T := TX8) (N := 20) hx hb hts (fun _ h => List.mem_cons_of_mem _ (List.mem_append_right _ (h))) tyX8 tyX8_ok nmX8 hown hK.1 hP hD hS 0 rfl rfl 15 (by decide) (hts (.fieldLink RX8 142 "ForeignKeyStoreModel" "spot" "I") (List.mem_of_getElem? (i := 2) rfl)) (fun _ h9 => h9) rfl (by decide +kernel) rfl rfl (Nat.le_of_ble_eq_true rfl) dX8_digit_45 (fun H locs hP hD hS => ?_)
      have hP : va_P D vwCl [(bd 0, .inr (8, [.ref (bd 1), .ref (bd 2), .ref (bd 3), .ref (bd 4), .ref (bd 5), .ref (bd 6), .ref (bd 7), .int (iI (cn)), .ref (bd 8), .int (iI (mp)), .ref (bd 9), .int (iI (ty)), .int (iI (th)), .ref (bd 10), .ref (bd 11), .int (iI ((sp + 0))), .int (iI (ta)), .int (iI (ke)), .int (iI (on)), .int (iI (tw))])), (bd 9, .inl (cC, 80, .inl (iA (Tx))))] H := hP
      have hD : va_D AA [(bd 0, .inr (8, [.ref (bd 1), .ref (bd 2), .ref (bd 3), .ref (bd 4), .ref (bd 5), .ref (bd 6), .ref (bd 7), .int (iI (cn)), .ref (bd 8), .int (iI (mp)), .ref (bd 9), .int (iI (ty)), .int (iI (th)), .ref (bd 10), .ref (bd 11), .int (iI ((sp + 0))), .int (iI (ta)), .int (iI (ke)), .int (iI (on)), .int (iI (tw))])), (bd 9, .inl (cC, 80, .inl (iA (Tx))))] := hD
      refine lv_iload_n hx hb dX8_digit_48 rfl (lv_at hl 0 rfl) ?_
      refine z_mret ((sp + 0)) hx hb hr hlocks dX8_digit_49 hP hD hS ?_
      have h9 := g_s1
      unfold rD
      first | (rw [if_neg (show ¬ (0 ≤ sgn Tx ty sp - 48 ∧ sgn Tx ty sp - 48 ≤ a - 48) by omega)]; exact ⟨by congr 1 <;> omega, by omega, by omega, by omega⟩) | (have h8 := g_s1 (by omega); rw [if_pos (show 0 ≤ sgn Tx ty sp - 48 ∧ sgn Tx ty sp - 48 ≤ a - 48 by omega)]; exact ⟨by rw [h8], by omega, by omega, by omega⟩)

set_option maxHeartbeats 600000 in
set_option maxRecDepth 100000 in
theorem c_X8_readsKey (l : Launch) (D : va_G) (cI cZ cC : ClassId) (sz : Nat) (bd : Nat → Nat) (cn mp ty th sp ta ke on tw : Int) (Tx : Int → Int) (g_Tx : ∀ j : Int, 0 ≤ j → j < 80 → 0 ≤ Tx j ∧ Tx j < 128) (g_ty : 0 ≤ ty ∧ ty ≤ 80) (g_sp : 0 ≤ sp ∧ sp ≤ ty) : zMi l yX8_readsKey wsX8_readsKey ({ frames := 3, cells := 0, slots := 0, locals := 66 }) D cI cZ cC [(bd 0, .inr (8, [.ref (bd 1), .ref (bd 2), .ref (bd 3), .ref (bd 4), .ref (bd 5), .ref (bd 6), .ref (bd 7), .int (iI (cn)), .ref (bd 8), .int (iI (mp)), .ref (bd 9), .int (iI (ty)), .int (iI (th)), .ref (bd 10), .ref (bd 11), .int (iI (sp)), .int (iI (ta)), .int (iI (ke)), .int (iI (on)), .int (iI (tw))])), (bd 9, .inl (cC, 80, .inl (iA (Tx))))] sz [.ref (bd 0)] (0) (0) (fun (u : Int) => [(bd 0, .inr (8, [.ref (bd 1), .ref (bd 2), .ref (bd 3), .ref (bd 4), .ref (bd 5), .ref (bd 6), .ref (bd 7), .int (iI (cn)), .ref (bd 8), .int (iI (mp)), .ref (bd 9), .int (iI (ty)), .int (iI (th)), .ref (bd 10), .ref (bd 11), .int (iI (u)), .int (iI (ta)), .int (iI (ke)), .int (iI (on)), .int (iI (tw))])), (bd 9, .inl (cC, 80, .inl (iA (Tx))))]) (fun v (u : Int) => (v, u) = rK Tx ty sp ∧ (v = -2 ∨ (0 ≤ v ∧ v ≤ 19)) ∧ 0 ≤ u ∧ u ≤ ty) := by
  refine z_ofMi (cc := cX8_readsKey) (maxL := 2) (ret := (some .int)) RX8 (by decide +kernel) rfl rfl (Nat.le_of_ble_eq_true rfl) ?_
  intro p0 en0 s0 m0 args0 below0 meth0 c0 ls AA hx hb hr hlocks hml hown hts hP hD hS hA hK hl
  have hl : lv_has ls 2 [(0, .ref (bd 0))] := hl
  obtain ⟨H, hH⟩ : ∃ H, H = s0.heap := ⟨_, rfl⟩
  obtain ⟨locs, hlo⟩ : ∃ locs : List Loc, locs = [] := ⟨_, rfl⟩
  have hP : va_P D vwCl [(bd 0, .inr (8, [.ref (bd 1), .ref (bd 2), .ref (bd 3), .ref (bd 4), .ref (bd 5), .ref (bd 6), .ref (bd 7), .int (iI (cn)), .ref (bd 8), .int (iI (mp)), .ref (bd 9), .int (iI (ty)), .int (iI (th)), .ref (bd 10), .ref (bd 11), .int (iI (sp)), .int (iI (ta)), .int (iI (ke)), .int (iI (on)), .int (iI (tw))])), (bd 9, .inl (cC, 80, .inl (iA (Tx))))] H := by rw [hH]; exact hP
  have hS : va_S AA s0.heap H locs := by rw [hH, hlo]; exact hS
  suffices hW : W p0 l en0 (headSpec wsX8_readsKey ({ frames := 3, cells := 0, slots := 0, locals := 66 })).room s0 m0 args0 below0 meth0 c0 H locs 0 0 (QMi below0 D ((fun (u : Int) => [(bd 0, .inr (8, [.ref (bd 1), .ref (bd 2), .ref (bd 3), .ref (bd 4), .ref (bd 5), .ref (bd 6), .ref (bd 7), .int (iI (cn)), .ref (bd 8), .int (iI (mp)), .ref (bd 9), .int (iI (ty)), .int (iI (th)), .ref (bd 10), .ref (bd 11), .int (iI (u)), .int (iI (ta)), .int (iI (ke)), .int (iI (on)), .int (iI (tw))])), (bd 9, .inl (cC, 80, .inl (iA (Tx))))])) (fun v (u : Int) => (v, u) = rK Tx ty sp ∧ (v = -2 ∨ (0 ≤ v ∧ v ≤ 19)) ∧ 0 ≤ u ∧ u ≤ ty) AA args0 s0 (0) (0)) (F0 m0 0 ls []) by rw [hH, hlo] at hW; exact hW
  refine lv_aload_n hx hb dX8_readsKey_0 rfl (lv_at hl 0 rfl) ?_
  refine lv_bipush (v := iI (57)) hx hb dX8_readsKey_1 (by decide) ?_
  refine z_muV (As := [.int (iI (57))]) (rest := []) (wr := []) (ws2 := (fun (u : Int) => [(bd 0, .inr (8, [.ref (bd 1), .ref (bd 2), .ref (bd 3), .ref (bd 4), .ref (bd 5), .ref (bd 6), .ref (bd 7), .int (iI (cn)), .ref (bd 8), .int (iI (mp)), .ref (bd 9), .int (iI (ty)), .int (iI (th)), .ref (bd 10), .ref (bd 11), .int (iI (u)), .int (iI (ta)), .int (iI (ke)), .int (iI (on)), .int (iI (tw))])), (bd 9, .inl (cC, 80, .inl (iA (Tx))))])) ⟨hx, hb, hml, hown, hts⟩ (c_X8_digit l D cI cZ cC H.size (bd) (cn) (mp) (ty) (th) (sp) (ta) (ke) (on) (tw) (Tx) (57) (by first | assumption | omega) (by first | assumption | omega) (by first | assumption | omega) (by first | assumption | omega)) (cwV 1 hts gX8_readsKey_X8_digit rfl rfl rfl (by decide +kernel) ⟨Nat.le_of_ble_eq_true rfl, Nat.le_of_ble_eq_true rfl⟩) hP hD hS hA hK [0, 1] [] [0, 1] rfl (by decide) rfl (by decide) (by decide) (by decide) (fun _ => rfl) 0 8 rfl rfl rfl rfl hl.1 rfl (Nat.le_of_ble_eq_true rfl) dX8_readsKey_3 ⟨by omega, by omega⟩ (fun r_2 u H locs hq_1 hP hD hS => ?_)
  obtain ⟨sp_3, rfl⟩ : ∃ z, z = u := ⟨_, rfl⟩
  have hP : va_P D vwCl [(bd 0, .inr (8, [.ref (bd 1), .ref (bd 2), .ref (bd 3), .ref (bd 4), .ref (bd 5), .ref (bd 6), .ref (bd 7), .int (iI (cn)), .ref (bd 8), .int (iI (mp)), .ref (bd 9), .int (iI (ty)), .int (iI (th)), .ref (bd 10), .ref (bd 11), .int (iI (sp_3)), .int (iI (ta)), .int (iI (ke)), .int (iI (on)), .int (iI (tw))])), (bd 9, .inl (cC, 80, .inl (iA (Tx))))] H := hP
  have hD : va_D AA [(bd 0, .inr (8, [.ref (bd 1), .ref (bd 2), .ref (bd 3), .ref (bd 4), .ref (bd 5), .ref (bd 6), .ref (bd 7), .int (iI (cn)), .ref (bd 8), .int (iI (mp)), .ref (bd 9), .int (iI (ty)), .int (iI (th)), .ref (bd 10), .ref (bd 11), .int (iI (sp_3)), .int (iI (ta)), .int (iI (ke)), .int (iI (on)), .int (iI (tw))])), (bd 9, .inl (cC, 80, .inl (iA (Tx))))] := hD
  try dsimp only at hq_1
  obtain ⟨h_d, h_dv, h_du⟩ := hq_1
  have h_d1 : r_2 = (rD Tx ty 9 sp).1 := congrArg Prod.fst h_d
  have h_d2 : sp_3 = (rD Tx ty 9 sp).2 := congrArg Prod.snd h_d
  refine lv_istore_n (lv' := [(1, .int (iI (r_2))), (0, .ref (bd 0))]) hx hb dX8_readsKey_6 rfl hl (by decide) rfl (fun ls hl => ?_)
  refine lv_iload_n hx hb dX8_readsKey_7 rfl (lv_at hl 0 rfl) ?_
  refine lv_iconst (v := iI (1)) hx hb dX8_readsKey_8 rfl ?_
  refine z_icmp_ne (tgt := 49) hx hb dX8_readsKey_9 (by decide) ⟨⟨by omega, by omega⟩, ⟨by omega, by omega⟩⟩ (fun c_4 => ?_) (fun c_4 => ?_)
  · refine lv_iload_n hx hb dX8_readsKey_49 rfl (lv_at hl 0 rfl) ?_
    refine z_mret (sp_3) hx hb hr hlocks dX8_readsKey_50 hP hD hS ?_
    have e9 : rK Tx ty sp = rD Tx ty 9 sp := by
      unfold rK
      rw [if_neg (show ¬ (rD Tx ty 9 sp).1 = 1 by omega)]
    exact ⟨by rw [e9]; exact h_d, by omega, by omega, by omega⟩
  · refine lv_aload_n hx hb dX8_readsKey_12 rfl (lv_at hl 1 rfl) ?_
    refine lv_bipush (v := iI (48)) hx hb dX8_readsKey_13 (by decide) ?_
    refine lv_bipush (v := iI (57)) hx hb dX8_readsKey_15 (by decide) ?_
    refine z_roV (As := [.int (iI (48)), .int (iI (57))]) (rest := []) ⟨hx, hb, hml, hown, hts⟩ (c_X8_isHere l D cI cZ cC (bd) (cn) (mp) (ty) (th) (sp_3) (ta) (ke) (on) (tw) (Tx) (48) (57) (by first | assumption | omega) (by first | assumption | omega) (by first | assumption | omega) (by first | assumption | omega) (by first | assumption | omega)) (cwV 2 hts gX8_readsKey_X8_isHere rfl rfl rfl (by decide +kernel) ⟨Nat.le_of_ble_eq_true rfl, Nat.le_of_ble_eq_true rfl⟩) hP hK [0, 1] rfl 0 8 rfl rfl rfl rfl hl.1 rfl (Nat.le_of_ble_eq_true rfl) dX8_readsKey_17 ⟨by omega, by omega⟩ ?_
    refine z_b_eq (tgt := 49) hx hb dX8_readsKey_20 (by decide) (fun c_5 => ?_) (fun c_5 => ?_)
    · refine lv_iload_n hx hb dX8_readsKey_49 rfl (lv_at hl 0 rfl) ?_
      refine z_mret (sp_3) hx hb hr hlocks dX8_readsKey_50 hP hD hS ?_
      have e8 : rD Tx ty 9 sp_3 = (-2, sp_3) := if_neg (by omega)
      have e9 : rK Tx ty sp = (1, sp_3) := by
        unfold rK
        rw [if_pos (show (rD Tx ty 9 sp).1 = 1 by omega), ← h_d2, e8, if_pos rfl]
      exact ⟨by rw [e9, show r_2 = 1 by omega], by omega, by omega, by omega⟩
    · have h_at := sgn_at (SG := Tx) (tl := ty) (p := sp_3) (by omega)
      refine lv_bipush (v := iI (10)) hx hb dX8_readsKey_23 (by decide) ?_
      refine lv_aload_n hx hb dX8_readsKey_25 rfl (lv_at hl 1 rfl) ?_
      refine va_get (D := D) (ci := 8) (v := .ref (bd 9)) (C := RX8) (T := TX8) (N := 20) hx hb hts (fun _ h => List.mem_cons_of_mem _ (List.mem_append_right _ (h))) hown hK.1 hP 0 rfl rfl 10 (by decide) (hts (.fieldLink RX8 35 "ForeignKeyStoreModel" "text" "[C") (List.mem_of_getElem? (i := 1) rfl)) (fun _ h9 => h9) rfl dX8_readsKey_26 ?_
      refine lv_aload_n hx hb dX8_readsKey_29 rfl (lv_at hl 1 rfl) ?_
      refine va_get (D := D) (ci := 8) (v := .int (iI (sp_3))) (C := RX8) (T := TX8) (N := 20) hx hb hts (fun _ h => List.mem_cons_of_mem _ (List.mem_append_right _ (h))) hown hK.1 hP 0 rfl rfl 15 (by decide) (hts (.fieldLink RX8 142 "ForeignKeyStoreModel" "spot" "I") (List.mem_of_getElem? (i := 2) rfl)) (fun _ h9 => h9) rfl dX8_readsKey_30 ?_
      refine z_cald hx hb hK.1 hP 1 2 rfl rfl (by omega) (by decide) dX8_readsKey_33 ?_
      have hb_6 := g_Tx (sp_3) (by omega) (by omega)
      refine z_iadd hx hb dX8_readsKey_34 ?_
      refine lv_bipush (v := iI (48)) hx hb dX8_readsKey_35 (by decide) ?_
      refine z_isub hx hb dX8_readsKey_37 ?_
      refine lv_istore_n (lv' := [(1, .int (iI (((10 + (Tx (sp_3))) - 48)))), (0, .ref (bd 0))]) hx hb dX8_readsKey_38 rfl hl (by decide) rfl (fun ls hl => ?_)
      refine lv_aload_n hx hb dX8_readsKey_39 rfl (lv_at hl 1 rfl) ?_
      refine lv_dup hx hb dX8_readsKey_40 rfl ?_
      refine va_get (D := D) (ci := 8) (v := .int (iI (sp_3))) (C := RX8) (T := TX8) (N := 20) hx hb hts (fun _ h => List.mem_cons_of_mem _ (List.mem_append_right _ (h))) hown hK.1 hP 0 rfl rfl 15 (by decide) (hts (.fieldLink RX8 142 "ForeignKeyStoreModel" "spot" "I") (List.mem_of_getElem? (i := 2) rfl)) (fun _ h9 => h9) rfl dX8_readsKey_41 ?_
      refine lv_iconst (v := iI (1)) hx hb dX8_readsKey_44 rfl ?_
      refine z_iadd hx hb dX8_readsKey_45 ?_
      refine va_put (D := D) (ci := 8) (v := .int (iI ((sp_3 + 1)))) (ty := .int) (C := RX8) (T := TX8) (N := 20) hx hb hts (fun _ h => List.mem_cons_of_mem _ (List.mem_append_right _ (h))) tyX8 tyX8_ok nmX8 hown hK.1 hP hD hS 0 rfl rfl 15 (by decide) (hts (.fieldLink RX8 142 "ForeignKeyStoreModel" "spot" "I") (List.mem_of_getElem? (i := 2) rfl)) (fun _ h9 => h9) rfl (by decide +kernel) rfl rfl (Nat.le_of_ble_eq_true rfl) dX8_readsKey_46 (fun H locs hP hD hS => ?_)
      have hP : va_P D vwCl [(bd 0, .inr (8, [.ref (bd 1), .ref (bd 2), .ref (bd 3), .ref (bd 4), .ref (bd 5), .ref (bd 6), .ref (bd 7), .int (iI (cn)), .ref (bd 8), .int (iI (mp)), .ref (bd 9), .int (iI (ty)), .int (iI (th)), .ref (bd 10), .ref (bd 11), .int (iI ((sp_3 + 1))), .int (iI (ta)), .int (iI (ke)), .int (iI (on)), .int (iI (tw))])), (bd 9, .inl (cC, 80, .inl (iA (Tx))))] H := hP
      have hD : va_D AA [(bd 0, .inr (8, [.ref (bd 1), .ref (bd 2), .ref (bd 3), .ref (bd 4), .ref (bd 5), .ref (bd 6), .ref (bd 7), .int (iI (cn)), .ref (bd 8), .int (iI (mp)), .ref (bd 9), .int (iI (ty)), .int (iI (th)), .ref (bd 10), .ref (bd 11), .int (iI ((sp_3 + 1))), .int (iI (ta)), .int (iI (ke)), .int (iI (on)), .int (iI (tw))])), (bd 9, .inl (cC, 80, .inl (iA (Tx))))] := hD
      refine lv_iload_n hx hb dX8_readsKey_49 rfl (lv_at hl 0 rfl) ?_
      refine z_mret ((sp_3 + 1)) hx hb hr hlocks dX8_readsKey_50 hP hD hS ?_
      have e8 : rD Tx ty 9 sp_3 = (sgn Tx ty sp_3 - 48, sp_3 + 1) := if_pos (by omega)
      have e9 : rK Tx ty sp = (10 + (sgn Tx ty sp_3 - 48), sp_3 + 1) := by
        unfold rK
        rw [if_pos (show (rD Tx ty 9 sp).1 = 1 by omega), ← h_d2, e8, if_neg (by show ¬ _ = (-2 : Int); omega)]
      exact ⟨by rw [e9, show ((10 + (Tx (sp_3))) - 48) = 10 + (sgn Tx ty sp_3 - 48) by omega], by omega, by omega, by omega⟩

set_option maxHeartbeats 600000 in
set_option maxRecDepth 100000 in
theorem c_X8_readsValue (l : Launch) (D : va_G) (cI cZ cC : ClassId) (sz : Nat) (bd : Nat → Nat) (cn mp ty th sp ta ke on tw : Int) (Tx : Int → Int) (g_Tx : ∀ j : Int, 0 ≤ j → j < 80 → 0 ≤ Tx j ∧ Tx j < 128) (g_ty : 0 ≤ ty ∧ ty ≤ 80) (g_sp : 0 ≤ sp ∧ sp ≤ ty) : zMi l yX8_readsValue wsX8_readsValue ({ frames := 4, cells := 0, slots := 0, locals := 87 }) D cI cZ cC [(bd 0, .inr (8, [.ref (bd 1), .ref (bd 2), .ref (bd 3), .ref (bd 4), .ref (bd 5), .ref (bd 6), .ref (bd 7), .int (iI (cn)), .ref (bd 8), .int (iI (mp)), .ref (bd 9), .int (iI (ty)), .int (iI (th)), .ref (bd 10), .ref (bd 11), .int (iI (sp)), .int (iI (ta)), .int (iI (ke)), .int (iI (on)), .int (iI (tw))])), (bd 9, .inl (cC, 80, .inl (iA (Tx))))] sz [.ref (bd 0)] (0) (0) (fun (u : Int) => [(bd 0, .inr (8, [.ref (bd 1), .ref (bd 2), .ref (bd 3), .ref (bd 4), .ref (bd 5), .ref (bd 6), .ref (bd 7), .int (iI (cn)), .ref (bd 8), .int (iI (mp)), .ref (bd 9), .int (iI (ty)), .int (iI (th)), .ref (bd 10), .ref (bd 11), .int (iI (u)), .int (iI (ta)), .int (iI (ke)), .int (iI (on)), .int (iI (tw))])), (bd 9, .inl (cC, 80, .inl (iA (Tx))))]) (fun v (u : Int) => (v, u) = vP Tx ty 118 sp ∧ (v = -2 ∨ (-1 ≤ v ∧ v ≤ 19)) ∧ 0 ≤ u ∧ u ≤ ty) := by
  refine z_ofMi (cc := cX8_readsValue) (maxL := 1) (ret := (some .int)) RX8 (by decide +kernel) rfl rfl (Nat.le_of_ble_eq_true rfl) ?_
  intro p0 en0 s0 m0 args0 below0 meth0 c0 ls AA hx hb hr hlocks hml hown hts hP hD hS hA hK hl
  have hl : lv_has ls 1 [(0, .ref (bd 0))] := hl
  obtain ⟨H, hH⟩ : ∃ H, H = s0.heap := ⟨_, rfl⟩
  obtain ⟨locs, hlo⟩ : ∃ locs : List Loc, locs = [] := ⟨_, rfl⟩
  have hP : va_P D vwCl [(bd 0, .inr (8, [.ref (bd 1), .ref (bd 2), .ref (bd 3), .ref (bd 4), .ref (bd 5), .ref (bd 6), .ref (bd 7), .int (iI (cn)), .ref (bd 8), .int (iI (mp)), .ref (bd 9), .int (iI (ty)), .int (iI (th)), .ref (bd 10), .ref (bd 11), .int (iI (sp)), .int (iI (ta)), .int (iI (ke)), .int (iI (on)), .int (iI (tw))])), (bd 9, .inl (cC, 80, .inl (iA (Tx))))] H := by rw [hH]; exact hP
  have hS : va_S AA s0.heap H locs := by rw [hH, hlo]; exact hS
  suffices hW : W p0 l en0 (headSpec wsX8_readsValue ({ frames := 4, cells := 0, slots := 0, locals := 87 })).room s0 m0 args0 below0 meth0 c0 H locs 0 0 (QMi below0 D ((fun (u : Int) => [(bd 0, .inr (8, [.ref (bd 1), .ref (bd 2), .ref (bd 3), .ref (bd 4), .ref (bd 5), .ref (bd 6), .ref (bd 7), .int (iI (cn)), .ref (bd 8), .int (iI (mp)), .ref (bd 9), .int (iI (ty)), .int (iI (th)), .ref (bd 10), .ref (bd 11), .int (iI (u)), .int (iI (ta)), .int (iI (ke)), .int (iI (on)), .int (iI (tw))])), (bd 9, .inl (cC, 80, .inl (iA (Tx))))])) (fun v (u : Int) => (v, u) = vP Tx ty 118 sp ∧ (v = -2 ∨ (-1 ≤ v ∧ v ≤ 19)) ∧ 0 ≤ u ∧ u ≤ ty) AA args0 s0 (0) (0)) (F0 m0 0 ls []) by rw [hH, hlo] at hW; exact hW
  have e_v : vP Tx ty 118 sp = if (rS Tx ty 110 sp).1 = 0 then rK Tx ty (rS Tx ty 110 sp).2 else (-1, (rS Tx ty 110 sp).2) := rfl
  refine lv_aload_n hx hb dX8_readsValue_0 rfl (lv_at hl 0 rfl) ?_
  refine lv_bipush (v := iI (110)) hx hb dX8_readsValue_1 (by decide) ?_
  refine z_muV (As := [.int (iI (110))]) (rest := []) (wr := []) (ws2 := (fun (u : Int) => [(bd 0, .inr (8, [.ref (bd 1), .ref (bd 2), .ref (bd 3), .ref (bd 4), .ref (bd 5), .ref (bd 6), .ref (bd 7), .int (iI (cn)), .ref (bd 8), .int (iI (mp)), .ref (bd 9), .int (iI (ty)), .int (iI (th)), .ref (bd 10), .ref (bd 11), .int (iI (u)), .int (iI (ta)), .int (iI (ke)), .int (iI (on)), .int (iI (tw))])), (bd 9, .inl (cC, 80, .inl (iA (Tx))))])) ⟨hx, hb, hml, hown, hts⟩ (c_X8_takes l D cI cZ cC H.size (bd) (cn) (mp) (ty) (th) (sp) (ta) (ke) (on) (tw) (Tx) (110) (by first | assumption | omega) (by first | assumption | omega) (by first | assumption | omega) (by first | assumption | omega)) (cwV 1 hts gX8_readsValue_X8_takes rfl rfl rfl (by decide +kernel) ⟨Nat.le_of_ble_eq_true rfl, Nat.le_of_ble_eq_true rfl⟩) hP hD hS hA hK [0, 1] [] [0, 1] rfl (by decide) rfl (by decide) (by decide) (by decide) (fun _ => rfl) 0 8 rfl rfl rfl rfl hl.1 rfl (Nat.le_of_ble_eq_true rfl) dX8_readsValue_3 ⟨by omega, by omega⟩ (fun r_2 u H locs hq_1 hP hD hS => ?_)
  obtain ⟨sp_3, rfl⟩ : ∃ z, z = u := ⟨_, rfl⟩
  have hP : va_P D vwCl [(bd 0, .inr (8, [.ref (bd 1), .ref (bd 2), .ref (bd 3), .ref (bd 4), .ref (bd 5), .ref (bd 6), .ref (bd 7), .int (iI (cn)), .ref (bd 8), .int (iI (mp)), .ref (bd 9), .int (iI (ty)), .int (iI (th)), .ref (bd 10), .ref (bd 11), .int (iI (sp_3)), .int (iI (ta)), .int (iI (ke)), .int (iI (on)), .int (iI (tw))])), (bd 9, .inl (cC, 80, .inl (iA (Tx))))] H := hP
  have hD : va_D AA [(bd 0, .inr (8, [.ref (bd 1), .ref (bd 2), .ref (bd 3), .ref (bd 4), .ref (bd 5), .ref (bd 6), .ref (bd 7), .int (iI (cn)), .ref (bd 8), .int (iI (mp)), .ref (bd 9), .int (iI (ty)), .int (iI (th)), .ref (bd 10), .ref (bd 11), .int (iI (sp_3)), .int (iI (ta)), .int (iI (ke)), .int (iI (on)), .int (iI (tw))])), (bd 9, .inl (cC, 80, .inl (iA (Tx))))] := hD
  try dsimp only at hq_1
  obtain ⟨h_s, h_sv, h_su⟩ := hq_1
  have h_s1 : r_2 = (rS Tx ty 110 sp).1 := congrArg Prod.fst h_s
  have h_s2 : sp_3 = (rS Tx ty 110 sp).2 := congrArg Prod.snd h_s
  refine z_if_eq (tgt := 13) hx hb dX8_readsValue_6 (by decide) ⟨by omega, by omega⟩ (fun c_4 => ?_) (fun c_4 => ?_)
  · refine lv_aload_n hx hb dX8_readsValue_13 rfl (lv_at hl 0 rfl) ?_
    refine z_muV (As := []) (rest := []) (wr := []) (ws2 := (fun (u : Int) => [(bd 0, .inr (8, [.ref (bd 1), .ref (bd 2), .ref (bd 3), .ref (bd 4), .ref (bd 5), .ref (bd 6), .ref (bd 7), .int (iI (cn)), .ref (bd 8), .int (iI (mp)), .ref (bd 9), .int (iI (ty)), .int (iI (th)), .ref (bd 10), .ref (bd 11), .int (iI (u)), .int (iI (ta)), .int (iI (ke)), .int (iI (on)), .int (iI (tw))])), (bd 9, .inl (cC, 80, .inl (iA (Tx))))])) ⟨hx, hb, hml, hown, hts⟩ (c_X8_readsKey l D cI cZ cC H.size (bd) (cn) (mp) (ty) (th) (sp_3) (ta) (ke) (on) (tw) (Tx) (by first | assumption | omega) (by first | assumption | omega) (by first | assumption | omega)) (cwV 0 hts gX8_readsValue_X8_readsKey rfl rfl rfl (by decide +kernel) ⟨Nat.le_of_ble_eq_true rfl, Nat.le_of_ble_eq_true rfl⟩) hP hD hS hA hK [0, 1] [] [0, 1] rfl (by decide) rfl (by decide) (by decide) (by decide) (fun _ => rfl) 0 8 rfl rfl rfl rfl hl.1 rfl (Nat.le_of_ble_eq_true rfl) dX8_readsValue_14 ⟨by omega, by omega⟩ (fun r_6 u H locs hq_5 hP hD hS => ?_)
    obtain ⟨sp_7, rfl⟩ : ∃ z, z = u := ⟨_, rfl⟩
    have hP : va_P D vwCl [(bd 0, .inr (8, [.ref (bd 1), .ref (bd 2), .ref (bd 3), .ref (bd 4), .ref (bd 5), .ref (bd 6), .ref (bd 7), .int (iI (cn)), .ref (bd 8), .int (iI (mp)), .ref (bd 9), .int (iI (ty)), .int (iI (th)), .ref (bd 10), .ref (bd 11), .int (iI (sp_7)), .int (iI (ta)), .int (iI (ke)), .int (iI (on)), .int (iI (tw))])), (bd 9, .inl (cC, 80, .inl (iA (Tx))))] H := hP
    have hD : va_D AA [(bd 0, .inr (8, [.ref (bd 1), .ref (bd 2), .ref (bd 3), .ref (bd 4), .ref (bd 5), .ref (bd 6), .ref (bd 7), .int (iI (cn)), .ref (bd 8), .int (iI (mp)), .ref (bd 9), .int (iI (ty)), .int (iI (th)), .ref (bd 10), .ref (bd 11), .int (iI (sp_7)), .int (iI (ta)), .int (iI (ke)), .int (iI (on)), .int (iI (tw))])), (bd 9, .inl (cC, 80, .inl (iA (Tx))))] := hD
    try dsimp only at hq_5
    refine z_mret (sp_7) hx hb hr hlocks dX8_readsValue_17 hP hD hS ?_
    rw [e_v]
    rw [if_pos (show (rS Tx ty 110 sp).1 = 0 by omega), ← h_s2]
    obtain ⟨y1, y2, y3⟩ := hq_5
    exact ⟨y1, by omega, by omega, by omega⟩
  · refine lv_iconst (v := iI (-1)) hx hb dX8_readsValue_9 rfl ?_
    refine lv_goto (tgt := 17) hx hb dX8_readsValue_10 (by decide) ?_
    refine z_mret (sp_3) hx hb hr hlocks dX8_readsValue_17 hP hD hS ?_
    rw [e_v]
    rw [if_neg (show ¬ (rS Tx ty 110 sp).1 = 0 by omega), ← h_s2]
    exact ⟨rfl, by omega, by omega, by omega⟩

set_option maxHeartbeats 600000 in
set_option maxRecDepth 100000 in
theorem c_X8_readsRow (l : Launch) (D : va_G) (cI cZ cC : ClassId) (sz : Nat) (bd : Nat → Nat) (cn mp ty th sp ta ke on tw : Int) (Tx : Int → Int) (g_Tx : ∀ j : Int, 0 ≤ j → j < 80 → 0 ≤ Tx j ∧ Tx j < 128) (g_ty : 0 ≤ ty ∧ ty ≤ 80) (g_sp : 0 ≤ sp ∧ sp ≤ ty) : zMi l yX8_readsRow wsX8_readsRow ({ frames := 4, cells := 0, slots := 0, locals := 87 }) D cI cZ cC [(bd 0, .inr (8, [.ref (bd 1), .ref (bd 2), .ref (bd 3), .ref (bd 4), .ref (bd 5), .ref (bd 6), .ref (bd 7), .int (iI (cn)), .ref (bd 8), .int (iI (mp)), .ref (bd 9), .int (iI (ty)), .int (iI (th)), .ref (bd 10), .ref (bd 11), .int (iI (sp)), .int (iI (ta)), .int (iI (ke)), .int (iI (on)), .int (iI (tw))])), (bd 9, .inl (cC, 80, .inl (iA (Tx))))] sz [.ref (bd 0)] (0) (0) (fun (u : Int × Int × Int) => [(bd 0, .inr (8, [.ref (bd 1), .ref (bd 2), .ref (bd 3), .ref (bd 4), .ref (bd 5), .ref (bd 6), .ref (bd 7), .int (iI (cn)), .ref (bd 8), .int (iI (mp)), .ref (bd 9), .int (iI (ty)), .int (iI (th)), .ref (bd 10), .ref (bd 11), .int (iI (u.1)), .int (iI (u.2.1)), .int (iI (u.2.2)), .int (iI (on)), .int (iI (tw))])), (bd 9, .inl (cC, 80, .inl (iA (Tx))))]) (fun v (u : Int × Int × Int) => v = (rG Tx ty [116, 44, 107] sp []).1 ∧ u.1 = (rG Tx ty [116, 44, 107] sp []).2.1 ∧ (v = 0 ∨ v = 1) ∧ (0 ≤ u.1 ∧ u.1 ≤ ty) ∧ (v = 1 → (rG Tx ty [116, 44, 107] sp []).2.2 = [u.2.1, u.2.2] ∧ 0 ≤ u.2.1 ∧ u.2.1 ≤ 3 ∧ 0 ≤ u.2.2 ∧ u.2.2 ≤ 19)) := by
  refine z_ofMi (cc := cX8_readsRow) (maxL := 1) (ret := (some .boolean)) RX8 (by decide +kernel) rfl rfl (Nat.le_of_ble_eq_true rfl) ?_
  intro p0 en0 s0 m0 args0 below0 meth0 c0 ls AA hx hb hr hlocks hml hown hts hP hD hS hA hK hl
  have hl : lv_has ls 1 [(0, .ref (bd 0))] := hl
  obtain ⟨H, hH⟩ : ∃ H, H = s0.heap := ⟨_, rfl⟩
  obtain ⟨locs, hlo⟩ : ∃ locs : List Loc, locs = [] := ⟨_, rfl⟩
  have hP : va_P D vwCl [(bd 0, .inr (8, [.ref (bd 1), .ref (bd 2), .ref (bd 3), .ref (bd 4), .ref (bd 5), .ref (bd 6), .ref (bd 7), .int (iI (cn)), .ref (bd 8), .int (iI (mp)), .ref (bd 9), .int (iI (ty)), .int (iI (th)), .ref (bd 10), .ref (bd 11), .int (iI (sp)), .int (iI (ta)), .int (iI (ke)), .int (iI (on)), .int (iI (tw))])), (bd 9, .inl (cC, 80, .inl (iA (Tx))))] H := by rw [hH]; exact hP
  have hS : va_S AA s0.heap H locs := by rw [hH, hlo]; exact hS
  suffices hW : W p0 l en0 (headSpec wsX8_readsRow ({ frames := 4, cells := 0, slots := 0, locals := 87 })).room s0 m0 args0 below0 meth0 c0 H locs 0 0 (QMi below0 D ((fun (u : Int × Int × Int) => [(bd 0, .inr (8, [.ref (bd 1), .ref (bd 2), .ref (bd 3), .ref (bd 4), .ref (bd 5), .ref (bd 6), .ref (bd 7), .int (iI (cn)), .ref (bd 8), .int (iI (mp)), .ref (bd 9), .int (iI (ty)), .int (iI (th)), .ref (bd 10), .ref (bd 11), .int (iI (u.1)), .int (iI (u.2.1)), .int (iI (u.2.2)), .int (iI (on)), .int (iI (tw))])), (bd 9, .inl (cC, 80, .inl (iA (Tx))))])) (fun v (u : Int × Int × Int) => v = (rG Tx ty [116, 44, 107] sp []).1 ∧ u.1 = (rG Tx ty [116, 44, 107] sp []).2.1 ∧ (v = 0 ∨ v = 1) ∧ (0 ≤ u.1 ∧ u.1 ≤ ty) ∧ (v = 1 → (rG Tx ty [116, 44, 107] sp []).2.2 = [u.2.1, u.2.2] ∧ 0 ≤ u.2.1 ∧ u.2.1 ≤ 3 ∧ 0 ≤ u.2.2 ∧ u.2.2 ≤ 19)) AA args0 s0 (0) (0)) (F0 m0 0 ls []) by rw [hH, hlo] at hW; exact hW
  have e_t : vP Tx ty 116 sp = rD Tx ty 3 sp := rfl
  refine lv_aload_n hx hb dX8_readsRow_0 rfl (lv_at hl 0 rfl) ?_
  refine lv_aload_n hx hb dX8_readsRow_1 rfl (lv_at hl 0 rfl) ?_
  refine lv_bipush (v := iI (51)) hx hb dX8_readsRow_2 (by decide) ?_
  refine z_muV (As := [.int (iI (51))]) (rest := [.ref (bd 0)]) (wr := []) (ws2 := (fun (u : Int) => [(bd 0, .inr (8, [.ref (bd 1), .ref (bd 2), .ref (bd 3), .ref (bd 4), .ref (bd 5), .ref (bd 6), .ref (bd 7), .int (iI (cn)), .ref (bd 8), .int (iI (mp)), .ref (bd 9), .int (iI (ty)), .int (iI (th)), .ref (bd 10), .ref (bd 11), .int (iI (u)), .int (iI (ta)), .int (iI (ke)), .int (iI (on)), .int (iI (tw))])), (bd 9, .inl (cC, 80, .inl (iA (Tx))))])) ⟨hx, hb, hml, hown, hts⟩ (c_X8_digit l D cI cZ cC H.size (bd) (cn) (mp) (ty) (th) (sp) (ta) (ke) (on) (tw) (Tx) (51) (by first | assumption | omega) (by first | assumption | omega) (by first | assumption | omega) (by first | assumption | omega)) (cwV 1 hts gX8_readsRow_X8_digit rfl rfl rfl (by decide +kernel) ⟨Nat.le_of_ble_eq_true rfl, Nat.le_of_ble_eq_true rfl⟩) hP hD hS hA hK [0, 1] [] [0, 1] rfl (by decide) rfl (by decide) (by decide) (by decide) (fun _ => rfl) 0 8 rfl rfl rfl rfl hl.1 rfl (Nat.le_of_ble_eq_true rfl) dX8_readsRow_4 ⟨by omega, by omega⟩ (fun r_2 u H locs hq_1 hP hD hS => ?_)
  obtain ⟨sp_3, rfl⟩ : ∃ z, z = u := ⟨_, rfl⟩
  have hP : va_P D vwCl [(bd 0, .inr (8, [.ref (bd 1), .ref (bd 2), .ref (bd 3), .ref (bd 4), .ref (bd 5), .ref (bd 6), .ref (bd 7), .int (iI (cn)), .ref (bd 8), .int (iI (mp)), .ref (bd 9), .int (iI (ty)), .int (iI (th)), .ref (bd 10), .ref (bd 11), .int (iI (sp_3)), .int (iI (ta)), .int (iI (ke)), .int (iI (on)), .int (iI (tw))])), (bd 9, .inl (cC, 80, .inl (iA (Tx))))] H := hP
  have hD : va_D AA [(bd 0, .inr (8, [.ref (bd 1), .ref (bd 2), .ref (bd 3), .ref (bd 4), .ref (bd 5), .ref (bd 6), .ref (bd 7), .int (iI (cn)), .ref (bd 8), .int (iI (mp)), .ref (bd 9), .int (iI (ty)), .int (iI (th)), .ref (bd 10), .ref (bd 11), .int (iI (sp_3)), .int (iI (ta)), .int (iI (ke)), .int (iI (on)), .int (iI (tw))])), (bd 9, .inl (cC, 80, .inl (iA (Tx))))] := hD
  try dsimp only at hq_1
  obtain ⟨h_t, h_tv, h_tu⟩ := hq_1
  have h_t1 : r_2 = (rD Tx ty 3 sp).1 := congrArg Prod.fst h_t
  have h_t2 : sp_3 = (rD Tx ty 3 sp).2 := congrArg Prod.snd h_t
  refine va_put (D := D) (ci := 8) (v := .int (iI (r_2))) (ty := .int) (C := RX8) (T := TX8) (N := 20) hx hb hts (fun _ h => List.mem_cons_of_mem _ (List.mem_append_right _ (h))) tyX8 tyX8_ok nmX8 hown hK.1 hP hD hS 0 rfl rfl 16 (by decide) (hts (.fieldLink RX8 160 "ForeignKeyStoreModel" "table" "I") (List.mem_of_getElem? (i := 1) rfl)) (fun _ h9 => h9) rfl (by decide +kernel) rfl rfl (Nat.le_of_ble_eq_true rfl) dX8_readsRow_7 (fun H locs hP hD hS => ?_)
  have hP : va_P D vwCl [(bd 0, .inr (8, [.ref (bd 1), .ref (bd 2), .ref (bd 3), .ref (bd 4), .ref (bd 5), .ref (bd 6), .ref (bd 7), .int (iI (cn)), .ref (bd 8), .int (iI (mp)), .ref (bd 9), .int (iI (ty)), .int (iI (th)), .ref (bd 10), .ref (bd 11), .int (iI (sp_3)), .int (iI (r_2)), .int (iI (ke)), .int (iI (on)), .int (iI (tw))])), (bd 9, .inl (cC, 80, .inl (iA (Tx))))] H := hP
  have hD : va_D AA [(bd 0, .inr (8, [.ref (bd 1), .ref (bd 2), .ref (bd 3), .ref (bd 4), .ref (bd 5), .ref (bd 6), .ref (bd 7), .int (iI (cn)), .ref (bd 8), .int (iI (mp)), .ref (bd 9), .int (iI (ty)), .int (iI (th)), .ref (bd 10), .ref (bd 11), .int (iI (sp_3)), .int (iI (r_2)), .int (iI (ke)), .int (iI (on)), .int (iI (tw))])), (bd 9, .inl (cC, 80, .inl (iA (Tx))))] := hD
  refine lv_aload_n hx hb dX8_readsRow_10 rfl (lv_at hl 0 rfl) ?_
  refine lv_aload_n hx hb dX8_readsRow_11 rfl (lv_at hl 0 rfl) ?_
  refine va_get (D := D) (ci := 8) (v := .int (iI (r_2))) (C := RX8) (T := TX8) (N := 20) hx hb hts (fun _ h => List.mem_cons_of_mem _ (List.mem_append_right _ (h))) hown hK.1 hP 0 rfl rfl 16 (by decide) (hts (.fieldLink RX8 160 "ForeignKeyStoreModel" "table" "I") (List.mem_of_getElem? (i := 1) rfl)) (fun _ h9 => h9) rfl dX8_readsRow_12 ?_
  refine lv_bipush (v := iI (-2)) hx hb dX8_readsRow_15 (by decide) ?_
  refine z_icmp_eq (tgt := 36) hx hb dX8_readsRow_17 (by decide) ⟨⟨by omega, by omega⟩, ⟨by omega, by omega⟩⟩ (fun c_4 => ?_) (fun c_4 => ?_)
  · refine lv_bipush (v := iI (-2)) hx hb dX8_readsRow_36 (by decide) ?_
    refine va_put (D := D) (ci := 8) (v := .int (iI ((-2)))) (ty := .int) (C := RX8) (T := TX8) (N := 20) hx hb hts (fun _ h => List.mem_cons_of_mem _ (List.mem_append_right _ (h))) tyX8 tyX8_ok nmX8 hown hK.1 hP hD hS 0 rfl rfl 17 (by decide) (hts (.fieldLink RX8 163 "ForeignKeyStoreModel" "key" "I") (List.mem_of_getElem? (i := 2) rfl)) (fun _ h9 => h9) rfl (by decide +kernel) rfl rfl (Nat.le_of_ble_eq_true rfl) dX8_readsRow_38 (fun H locs hP hD hS => ?_)
    have hP : va_P D vwCl [(bd 0, .inr (8, [.ref (bd 1), .ref (bd 2), .ref (bd 3), .ref (bd 4), .ref (bd 5), .ref (bd 6), .ref (bd 7), .int (iI (cn)), .ref (bd 8), .int (iI (mp)), .ref (bd 9), .int (iI (ty)), .int (iI (th)), .ref (bd 10), .ref (bd 11), .int (iI (sp_3)), .int (iI (r_2)), .int (iI ((-2))), .int (iI (on)), .int (iI (tw))])), (bd 9, .inl (cC, 80, .inl (iA (Tx))))] H := hP
    have hD : va_D AA [(bd 0, .inr (8, [.ref (bd 1), .ref (bd 2), .ref (bd 3), .ref (bd 4), .ref (bd 5), .ref (bd 6), .ref (bd 7), .int (iI (cn)), .ref (bd 8), .int (iI (mp)), .ref (bd 9), .int (iI (ty)), .int (iI (th)), .ref (bd 10), .ref (bd 11), .int (iI (sp_3)), .int (iI (r_2)), .int (iI ((-2))), .int (iI (on)), .int (iI (tw))])), (bd 9, .inl (cC, 80, .inl (iA (Tx))))] := hD
    refine lv_aload_n hx hb dX8_readsRow_41 rfl (lv_at hl 0 rfl) ?_
    refine va_get (D := D) (ci := 8) (v := .int (iI ((-2)))) (C := RX8) (T := TX8) (N := 20) hx hb hts (fun _ h => List.mem_cons_of_mem _ (List.mem_append_right _ (h))) hown hK.1 hP 0 rfl rfl 17 (by decide) (hts (.fieldLink RX8 163 "ForeignKeyStoreModel" "key" "I") (List.mem_of_getElem? (i := 2) rfl)) (fun _ h9 => h9) rfl dX8_readsRow_42 ?_
    refine lv_bipush (v := iI (-2)) hx hb dX8_readsRow_45 (by decide) ?_
    refine z_icmp_eq (tgt := 54) hx hb dX8_readsRow_47 (by decide) ⟨⟨by omega, by omega⟩, ⟨by omega, by omega⟩⟩ (fun c_5 => ?_) (fun c_5 => ?_)
    · refine lv_iconst (v := iI (0)) hx hb dX8_readsRow_54 rfl ?_
      refine z_mretZ ((sp_3, r_2, (-2))) hx hb hr hlocks dX8_readsRow_55 (by omega) hP hD hS ?_
      rw [rG_v0 (by decide) (show (vP Tx ty 116 sp).1 = -2 by rw [e_t, ← h_t1]; omega), e_t, ← h_t2]
      exact ⟨rfl, rfl, Or.inl rfl, ⟨by omega, by omega⟩, fun h => absurd h (by decide)⟩
    · exfalso
      omega
  · refine lv_aload_n hx hb dX8_readsRow_20 rfl (lv_at hl 0 rfl) ?_
    refine lv_bipush (v := iI (44)) hx hb dX8_readsRow_21 (by decide) ?_
    refine z_muV (As := [.int (iI (44))]) (rest := [.ref (bd 0)]) (wr := []) (ws2 := (fun (u : Int) => [(bd 0, .inr (8, [.ref (bd 1), .ref (bd 2), .ref (bd 3), .ref (bd 4), .ref (bd 5), .ref (bd 6), .ref (bd 7), .int (iI (cn)), .ref (bd 8), .int (iI (mp)), .ref (bd 9), .int (iI (ty)), .int (iI (th)), .ref (bd 10), .ref (bd 11), .int (iI (u)), .int (iI (r_2)), .int (iI (ke)), .int (iI (on)), .int (iI (tw))])), (bd 9, .inl (cC, 80, .inl (iA (Tx))))])) ⟨hx, hb, hml, hown, hts⟩ (c_X8_takes l D cI cZ cC H.size (bd) (cn) (mp) (ty) (th) (sp_3) (r_2) (ke) (on) (tw) (Tx) (44) (by first | assumption | omega) (by first | assumption | omega) (by first | assumption | omega) (by first | assumption | omega)) (cwV 1 hts gX8_readsRow_X8_takes rfl rfl rfl (by decide +kernel) ⟨Nat.le_of_ble_eq_true rfl, Nat.le_of_ble_eq_true rfl⟩) hP hD hS hA hK [0, 1] [] [0, 1] rfl (by decide) rfl (by decide) (by decide) (by decide) (fun _ => rfl) 0 8 rfl rfl rfl rfl hl.1 rfl (Nat.le_of_ble_eq_true rfl) dX8_readsRow_23 ⟨by omega, by omega⟩ (fun r_7 u H locs hq_6 hP hD hS => ?_)
    obtain ⟨sp_8, rfl⟩ : ∃ z, z = u := ⟨_, rfl⟩
    have hP : va_P D vwCl [(bd 0, .inr (8, [.ref (bd 1), .ref (bd 2), .ref (bd 3), .ref (bd 4), .ref (bd 5), .ref (bd 6), .ref (bd 7), .int (iI (cn)), .ref (bd 8), .int (iI (mp)), .ref (bd 9), .int (iI (ty)), .int (iI (th)), .ref (bd 10), .ref (bd 11), .int (iI (sp_8)), .int (iI (r_2)), .int (iI (ke)), .int (iI (on)), .int (iI (tw))])), (bd 9, .inl (cC, 80, .inl (iA (Tx))))] H := hP
    have hD : va_D AA [(bd 0, .inr (8, [.ref (bd 1), .ref (bd 2), .ref (bd 3), .ref (bd 4), .ref (bd 5), .ref (bd 6), .ref (bd 7), .int (iI (cn)), .ref (bd 8), .int (iI (mp)), .ref (bd 9), .int (iI (ty)), .int (iI (th)), .ref (bd 10), .ref (bd 11), .int (iI (sp_8)), .int (iI (r_2)), .int (iI (ke)), .int (iI (on)), .int (iI (tw))])), (bd 9, .inl (cC, 80, .inl (iA (Tx))))] := hD
    try dsimp only at hq_6
    obtain ⟨h_c, h_cv, h_cu⟩ := hq_6
    have h_c1 : r_7 = (rS Tx ty 44 sp_3).1 := congrArg Prod.fst h_c
    have h_c2 : sp_8 = (rS Tx ty 44 sp_3).2 := congrArg Prod.snd h_c
    refine z_if_eq (tgt := 36) hx hb dX8_readsRow_26 (by decide) ⟨by omega, by omega⟩ (fun c_9 => ?_) (fun c_9 => ?_)
    · refine lv_bipush (v := iI (-2)) hx hb dX8_readsRow_36 (by decide) ?_
      refine va_put (D := D) (ci := 8) (v := .int (iI ((-2)))) (ty := .int) (C := RX8) (T := TX8) (N := 20) hx hb hts (fun _ h => List.mem_cons_of_mem _ (List.mem_append_right _ (h))) tyX8 tyX8_ok nmX8 hown hK.1 hP hD hS 0 rfl rfl 17 (by decide) (hts (.fieldLink RX8 163 "ForeignKeyStoreModel" "key" "I") (List.mem_of_getElem? (i := 2) rfl)) (fun _ h9 => h9) rfl (by decide +kernel) rfl rfl (Nat.le_of_ble_eq_true rfl) dX8_readsRow_38 (fun H locs hP hD hS => ?_)
      have hP : va_P D vwCl [(bd 0, .inr (8, [.ref (bd 1), .ref (bd 2), .ref (bd 3), .ref (bd 4), .ref (bd 5), .ref (bd 6), .ref (bd 7), .int (iI (cn)), .ref (bd 8), .int (iI (mp)), .ref (bd 9), .int (iI (ty)), .int (iI (th)), .ref (bd 10), .ref (bd 11), .int (iI (sp_8)), .int (iI (r_2)), .int (iI ((-2))), .int (iI (on)), .int (iI (tw))])), (bd 9, .inl (cC, 80, .inl (iA (Tx))))] H := hP
      have hD : va_D AA [(bd 0, .inr (8, [.ref (bd 1), .ref (bd 2), .ref (bd 3), .ref (bd 4), .ref (bd 5), .ref (bd 6), .ref (bd 7), .int (iI (cn)), .ref (bd 8), .int (iI (mp)), .ref (bd 9), .int (iI (ty)), .int (iI (th)), .ref (bd 10), .ref (bd 11), .int (iI (sp_8)), .int (iI (r_2)), .int (iI ((-2))), .int (iI (on)), .int (iI (tw))])), (bd 9, .inl (cC, 80, .inl (iA (Tx))))] := hD
      refine lv_aload_n hx hb dX8_readsRow_41 rfl (lv_at hl 0 rfl) ?_
      refine va_get (D := D) (ci := 8) (v := .int (iI ((-2)))) (C := RX8) (T := TX8) (N := 20) hx hb hts (fun _ h => List.mem_cons_of_mem _ (List.mem_append_right _ (h))) hown hK.1 hP 0 rfl rfl 17 (by decide) (hts (.fieldLink RX8 163 "ForeignKeyStoreModel" "key" "I") (List.mem_of_getElem? (i := 2) rfl)) (fun _ h9 => h9) rfl dX8_readsRow_42 ?_
      refine lv_bipush (v := iI (-2)) hx hb dX8_readsRow_45 (by decide) ?_
      refine z_icmp_eq (tgt := 54) hx hb dX8_readsRow_47 (by decide) ⟨⟨by omega, by omega⟩, ⟨by omega, by omega⟩⟩ (fun c_10 => ?_) (fun c_10 => ?_)
      · refine lv_iconst (v := iI (0)) hx hb dX8_readsRow_54 rfl ?_
        refine z_mretZ ((sp_8, r_2, (-2))) hx hb hr hlocks dX8_readsRow_55 (by omega) hP hD hS ?_
        rw [rG_v1 (by decide) (show ¬ (vP Tx ty 116 sp).1 = -2 by rw [e_t, ← h_t1]; omega), e_t, ← h_t2, ← h_t1]
        rw [rG_s0 (by decide) (show (rS Tx ty 44 _).1 = 0 by rw [← h_c1]; omega), ← h_c2]
        exact ⟨rfl, rfl, Or.inl rfl, ⟨by omega, by omega⟩, fun h => absurd h (by decide)⟩
      · exfalso
        omega
    · refine lv_aload_n hx hb dX8_readsRow_29 rfl (lv_at hl 0 rfl) ?_
      refine z_muV (As := []) (rest := [.ref (bd 0)]) (wr := []) (ws2 := (fun (u : Int) => [(bd 0, .inr (8, [.ref (bd 1), .ref (bd 2), .ref (bd 3), .ref (bd 4), .ref (bd 5), .ref (bd 6), .ref (bd 7), .int (iI (cn)), .ref (bd 8), .int (iI (mp)), .ref (bd 9), .int (iI (ty)), .int (iI (th)), .ref (bd 10), .ref (bd 11), .int (iI (u)), .int (iI (r_2)), .int (iI (ke)), .int (iI (on)), .int (iI (tw))])), (bd 9, .inl (cC, 80, .inl (iA (Tx))))])) ⟨hx, hb, hml, hown, hts⟩ (c_X8_readsKey l D cI cZ cC H.size (bd) (cn) (mp) (ty) (th) (sp_8) (r_2) (ke) (on) (tw) (Tx) (by first | assumption | omega) (by first | assumption | omega) (by first | assumption | omega)) (cwV 0 hts gX8_readsRow_X8_readsKey rfl rfl rfl (by decide +kernel) ⟨Nat.le_of_ble_eq_true rfl, Nat.le_of_ble_eq_true rfl⟩) hP hD hS hA hK [0, 1] [] [0, 1] rfl (by decide) rfl (by decide) (by decide) (by decide) (fun _ => rfl) 0 8 rfl rfl rfl rfl hl.1 rfl (Nat.le_of_ble_eq_true rfl) dX8_readsRow_30 ⟨by omega, by omega⟩ (fun r_12 u H locs hq_11 hP hD hS => ?_)
      obtain ⟨sp_13, rfl⟩ : ∃ z, z = u := ⟨_, rfl⟩
      have hP : va_P D vwCl [(bd 0, .inr (8, [.ref (bd 1), .ref (bd 2), .ref (bd 3), .ref (bd 4), .ref (bd 5), .ref (bd 6), .ref (bd 7), .int (iI (cn)), .ref (bd 8), .int (iI (mp)), .ref (bd 9), .int (iI (ty)), .int (iI (th)), .ref (bd 10), .ref (bd 11), .int (iI (sp_13)), .int (iI (r_2)), .int (iI (ke)), .int (iI (on)), .int (iI (tw))])), (bd 9, .inl (cC, 80, .inl (iA (Tx))))] H := hP
      have hD : va_D AA [(bd 0, .inr (8, [.ref (bd 1), .ref (bd 2), .ref (bd 3), .ref (bd 4), .ref (bd 5), .ref (bd 6), .ref (bd 7), .int (iI (cn)), .ref (bd 8), .int (iI (mp)), .ref (bd 9), .int (iI (ty)), .int (iI (th)), .ref (bd 10), .ref (bd 11), .int (iI (sp_13)), .int (iI (r_2)), .int (iI (ke)), .int (iI (on)), .int (iI (tw))])), (bd 9, .inl (cC, 80, .inl (iA (Tx))))] := hD
      try dsimp only at hq_11
      obtain ⟨h_k, h_kv, h_ku⟩ := hq_11
      have h_k1 : r_12 = (rK Tx ty sp_8).1 := congrArg Prod.fst h_k
      have h_k2 : sp_13 = (rK Tx ty sp_8).2 := congrArg Prod.snd h_k
      refine lv_goto (tgt := 38) hx hb dX8_readsRow_33 (by decide) ?_
      refine va_put (D := D) (ci := 8) (v := .int (iI (r_12))) (ty := .int) (C := RX8) (T := TX8) (N := 20) hx hb hts (fun _ h => List.mem_cons_of_mem _ (List.mem_append_right _ (h))) tyX8 tyX8_ok nmX8 hown hK.1 hP hD hS 0 rfl rfl 17 (by decide) (hts (.fieldLink RX8 163 "ForeignKeyStoreModel" "key" "I") (List.mem_of_getElem? (i := 2) rfl)) (fun _ h9 => h9) rfl (by decide +kernel) rfl rfl (Nat.le_of_ble_eq_true rfl) dX8_readsRow_38 (fun H locs hP hD hS => ?_)
      have hP : va_P D vwCl [(bd 0, .inr (8, [.ref (bd 1), .ref (bd 2), .ref (bd 3), .ref (bd 4), .ref (bd 5), .ref (bd 6), .ref (bd 7), .int (iI (cn)), .ref (bd 8), .int (iI (mp)), .ref (bd 9), .int (iI (ty)), .int (iI (th)), .ref (bd 10), .ref (bd 11), .int (iI (sp_13)), .int (iI (r_2)), .int (iI (r_12)), .int (iI (on)), .int (iI (tw))])), (bd 9, .inl (cC, 80, .inl (iA (Tx))))] H := hP
      have hD : va_D AA [(bd 0, .inr (8, [.ref (bd 1), .ref (bd 2), .ref (bd 3), .ref (bd 4), .ref (bd 5), .ref (bd 6), .ref (bd 7), .int (iI (cn)), .ref (bd 8), .int (iI (mp)), .ref (bd 9), .int (iI (ty)), .int (iI (th)), .ref (bd 10), .ref (bd 11), .int (iI (sp_13)), .int (iI (r_2)), .int (iI (r_12)), .int (iI (on)), .int (iI (tw))])), (bd 9, .inl (cC, 80, .inl (iA (Tx))))] := hD
      refine lv_aload_n hx hb dX8_readsRow_41 rfl (lv_at hl 0 rfl) ?_
      refine va_get (D := D) (ci := 8) (v := .int (iI (r_12))) (C := RX8) (T := TX8) (N := 20) hx hb hts (fun _ h => List.mem_cons_of_mem _ (List.mem_append_right _ (h))) hown hK.1 hP 0 rfl rfl 17 (by decide) (hts (.fieldLink RX8 163 "ForeignKeyStoreModel" "key" "I") (List.mem_of_getElem? (i := 2) rfl)) (fun _ h9 => h9) rfl dX8_readsRow_42 ?_
      refine lv_bipush (v := iI (-2)) hx hb dX8_readsRow_45 (by decide) ?_
      refine z_icmp_eq (tgt := 54) hx hb dX8_readsRow_47 (by decide) ⟨⟨by omega, by omega⟩, ⟨by omega, by omega⟩⟩ (fun c_14 => ?_) (fun c_14 => ?_)
      · refine lv_iconst (v := iI (0)) hx hb dX8_readsRow_54 rfl ?_
        refine z_mretZ ((sp_13, r_2, r_12)) hx hb hr hlocks dX8_readsRow_55 (by omega) hP hD hS ?_
        rw [rG_v1 (by decide) (show ¬ (vP Tx ty 116 sp).1 = -2 by rw [e_t, ← h_t1]; omega), e_t, ← h_t2, ← h_t1]
        rw [rG_s1 (by decide) (show ¬ (rS Tx ty 44 _).1 = 0 by rw [← h_c1]; omega), ← h_c2]
        rw [rG_v0 (by decide) (show (vP Tx ty 107 _).1 = -2 by show (rK Tx ty _).1 = -2; rw [← h_k1]; omega)]
        exact ⟨rfl, h_k2, Or.inl rfl, ⟨by omega, by omega⟩, fun h => absurd h (by decide)⟩
      · refine lv_iconst (v := iI (1)) hx hb dX8_readsRow_50 rfl ?_
        refine lv_goto (tgt := 55) hx hb dX8_readsRow_51 (by decide) ?_
        refine z_mretZ ((sp_13, r_2, r_12)) hx hb hr hlocks dX8_readsRow_55 (by omega) hP hD hS ?_
        rw [rG_v1 (by decide) (show ¬ (vP Tx ty 116 sp).1 = -2 by rw [e_t, ← h_t1]; omega), e_t, ← h_t2, ← h_t1]
        rw [rG_s1 (by decide) (show ¬ (rS Tx ty 44 _).1 = 0 by rw [← h_c1]; omega), ← h_c2]
        rw [rG_v1 (by decide) (show ¬ (vP Tx ty 107 _).1 = -2 by show ¬ (rK Tx ty _).1 = -2; rw [← h_k1]; omega)]
        exact ⟨rfl, h_k2, Or.inr rfl, ⟨by omega, by omega⟩, fun _ => ⟨by rw [h_k1]; rfl, by dsimp only; omega, by dsimp only; omega, by dsimp only; omega, by dsimp only; omega⟩⟩

