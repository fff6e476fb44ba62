def pkM (x r c a b : Int) : Int := (((x * 80 + r) * 2 + c) * 21 + a + 1) * 21 + b + 1
/-- a number in the model's list tells what was before a change -/
def relE (v : Int) (e : Int × Int × Int) : Prop := 0 ≤ v ∧ v < 211680 ∧ v / 882 % 80 = e.1 ∧ ((v / 882 / 80 = 0 ∧ e.2.1 = -2 ∧ e.2.2 = -2) ∨ (¬ v / 882 / 80 = 0 ∧ e.2.1 = v / 21 % 21 - 1 ∧ e.2.2 = v % 21 - 1))
def isM : Lg → (Int → Int) → Int → Prop
  | [], _, n => n = 0
  | e :: lg, L, n => relE (L (n - 1)) e ∧ isM lg L (n - 1)
theorem isM_n : ∀ {lg : Lg} {L : Int → Int} {n : Int}, isM lg L n → n = (lg.length : Int)
  | [], _, _, h => h
  | e :: lg, L, n, h => by
    have h1 := isM_n h.2
    simp
    omega
theorem isM_ag : ∀ {lg : Lg} {L L2 : Int → Int} {n : Int}, isM lg L n → (∀ j : Int, 0 ≤ j → j < n → L2 j = L j) → isM lg L2 n
  | [], _, _, _, h, _ => h
  | e :: lg, L, L2, n, h, g => by
    have h1 := isM_n h.2
    refine ⟨?_, isM_ag h.2 (fun j a b => g j a (by omega))⟩
    rw [g (n - 1) (by omega) (by omega)]
    exact h.1
theorem isM_push {lg : Lg} {L : Int → Int} {n v : Int} {e : Int × Int × Int} (h : isM lg L n) (g : relE v e) : isM (e :: lg) (uI L n v) (n + 1) := by
  have h1 := isM_n h
  refine ⟨?_, ?_⟩
  · rw [show n + 1 - 1 = n by omega]
    rw [show uI L n v n = v from if_pos rfl]
    exact g
  · rw [show n + 1 - 1 = n by omega]
    exact isM_ag h (fun j a b => if_neg (by omega))
theorem relE_pk {x r c a b : Int} {e : Int × Int × Int} (hx : 0 ≤ x ∧ x ≤ 2) (hr : 0 ≤ r ∧ r < 80) (hc : c = 0 ∨ c = 1) (ha : -1 ≤ a ∧ a ≤ 19 ∧ -1 ≤ b ∧ b ≤ 19) (he : e.1 = r) (h : (x = 0 ∧ e.2.1 = -2 ∧ e.2.2 = -2) ∨ (¬ x = 0 ∧ e.2.1 = a ∧ e.2.2 = b)) : relE (pkM x r c a b) e := by
  have e1 : pkM x r c a b / 882 = x * 80 + r := by unfold pkM; omega
  have e2 : pkM x r c a b / 21 % 21 = a + 1 := by unfold pkM; omega
  have e3 : pkM x r c a b % 21 = b + 1 := by unfold pkM; omega
  unfold relE
  rw [e1, e2, e3]
  refine ⟨by unfold pkM; omega, by unfold pkM; omega, by omega, by omega⟩
theorem rV_wr {Ir Vm V : Int → Int} {r a b x y f : Int} (h : rV Ir Vm V) (ha : -1 ≤ a ∧ a ≤ 19 ∧ -1 ≤ b ∧ b ≤ 19) (hf : (f = 1 ∧ x = a ∧ y = b) ∨ (f = 0 ∧ x = -2 ∧ y = -2)) : rV (uI Ir r f) (uI (uI Vm (2 * r) a) (2 * r + 1) b) (wrV V r x y) := by
  intro z h1 h2
  have h3 := h z h1 h2
  unfold wrV uI
  by_cases e : z = r
  · subst e
    rw [if_neg (show ¬ 2 * z = 2 * z + 1 by omega), if_pos rfl, if_pos rfl, if_pos rfl, if_neg (show ¬ z * 2 = z * 2 + 1 by omega), if_pos rfl, if_pos rfl]
    omega
  · rw [if_neg (show ¬ 2 * z = 2 * r + 1 by omega), if_neg (show ¬ 2 * z = 2 * r by omega), if_neg (show ¬ 2 * z + 1 = 2 * r + 1 by omega), if_neg (show ¬ 2 * z + 1 = 2 * r by omega), if_neg e, if_neg (show ¬ z * 2 = r * 2 + 1 by omega), if_neg (show ¬ z * 2 = r * 2 by omega), if_neg (show ¬ z * 2 + 1 = r * 2 + 1 by omega), if_neg (show ¬ z * 2 + 1 = r * 2 by omega)]
    exact h3
theorem rV_ag {Ir Ir2 Vm Vm2 V V2 : Int → Int} (h : rV Ir Vm V) (h1 : ∀ j : Int, 0 ≤ j → j < 80 → Ir2 j = Ir j) (h2 : ∀ j : Int, 0 ≤ j → j < 160 → Vm2 j = Vm j) (h3 : ∀ j : Int, 0 ≤ j → j < 160 → V2 j = V j) : rV Ir2 Vm2 V2 := fun r a b => by
  rw [h1 r a b, h2 (2 * r) (by omega) (by omega), h2 (2 * r + 1) (by omega) (by omega), h3 (r * 2) (by omega) (by omega), h3 (r * 2 + 1) (by omega) (by omega)]
  exact h r a b
theorem rV_rm {Ir Vm V : Int → Int} {r : Int} (h : rV Ir Vm V) : rV (uI Ir r 0) Vm (wrV V r (-2) (-2)) := by
  intro z h1 h2
  have h3 := h z h1 h2
  unfold wrV uI
  by_cases e : z = r
  · subst e
    rw [if_pos rfl, if_neg (show ¬ z * 2 = z * 2 + 1 by omega), if_pos rfl, if_pos rfl]
    omega
  · rw [if_neg e, if_neg (show ¬ z * 2 = r * 2 + 1 by omega), if_neg (show ¬ z * 2 = r * 2 by omega), if_neg (show ¬ z * 2 + 1 = r * 2 + 1 by omega), if_neg (show ¬ z * 2 + 1 = r * 2 by omega)]
    exact h3
theorem rV_set {Ir Vm V : Int → Int} {r c v : Int} (h : rV Ir Vm V) (hr : 0 ≤ r ∧ r < 80) (hp : Ir r = 1) (hc : c = 0 ∨ c = 1) (hv : -1 ≤ v ∧ v ≤ 19) : rV Ir (uI Vm (2 * r + c) v) (wcV V r c v) := by
  rw [wcV_eq hr]
  intro z h1 h2
  have h3 := h z h1 h2
  have h4 := h r hr.1 hr.2
  unfold wrV uI
  by_cases e : z = r
  · subst e
    rw [if_neg (show ¬ z * 2 = z * 2 + 1 by omega), if_pos rfl, if_pos rfl]
    rcases hc with rfl | rfl
    · rw [if_pos (show 2 * z = 2 * z + 0 by omega), if_neg (show ¬ 2 * z + 1 = 2 * z + 0 by omega), if_pos rfl, if_neg (by decide)]
      omega
    · rw [if_neg (show ¬ 2 * z = 2 * z + 1 by omega), if_pos rfl, if_neg (by decide), if_pos rfl]
      omega
  · rw [if_neg (show ¬ 2 * z = 2 * r + c by omega), if_neg (show ¬ 2 * z + 1 = 2 * r + c by omega), if_neg (show ¬ z * 2 = r * 2 + 1 by omega), if_neg (show ¬ z * 2 = r * 2 by omega), if_neg (show ¬ z * 2 + 1 = r * 2 + 1 by omega), if_neg (show ¬ z * 2 + 1 = r * 2 by omega)]
    exact h3

set_option maxHeartbeats 600000 in
set_option maxRecDepth 100000 in
theorem c_X8_notes (l : Launch) (D : va_G) (cI cZ cC : ClassId) (sz : Nat) (bd : Nat → Nat) (cn mp ty th sp ta ke on tw : Int) (Vm Lm : Int → Int) (x r c : Int) (g_Vm : ∀ j : Int, 0 ≤ j → j < 160 → -1 ≤ Vm j ∧ Vm j ≤ 19) (g_cn : 0 ≤ cn ∧ cn < 16384) (g_r : 0 ≤ r ∧ r < 80) (g_x : 0 ≤ x ∧ x ≤ 2) (g_c : c = 0 ∨ c = 1) : zMv l yX8_notes wsX8_notes ({ frames := 0, cells := 0, slots := 0, locals := 0 }) D cI cZ cC [(bd 0, .inr (8, [.ref (bd 1), .ref (bd 2), .ref (bd 3), .ref (bd 4), .ref (bd 5), .ref (bd 6), .ref (bd 7), .int (iI (cn)), .ref (bd 8), .int (iI (mp)), .ref (bd 9), .int (iI (ty)), .int (iI (th)), .ref (bd 10), .ref (bd 11), .int (iI (sp)), .int (iI (ta)), .int (iI (ke)), .int (iI (on)), .int (iI (tw))])), (bd 2, .inl (cI, 160, .inl (iA (Vm)))), (bd 7, .inl (cI, 16384, .inl (iA (Lm))))] sz [.ref (bd 0), .int (iI (x)), .int (iI (r)), .int (iI (c))] (0) (0) (fun (u : Unit) => [(bd 0, .inr (8, [.ref (bd 1), .ref (bd 2), .ref (bd 3), .ref (bd 4), .ref (bd 5), .ref (bd 6), .ref (bd 7), .int (iI (cn + 1)), .ref (bd 8), .int (iI (mp)), .ref (bd 9), .int (iI (ty)), .int (iI (th)), .ref (bd 10), .ref (bd 11), .int (iI (sp)), .int (iI (ta)), .int (iI (ke)), .int (iI (on)), .int (iI (tw))])), (bd 2, .inl (cI, 160, .inl (iA (Vm)))), (bd 7, .inl (cI, 16384, .inl (iA (uI Lm cn (pkM x r c (Vm (2 * r)) (Vm (2 * r + 1)))))))]) (fun _ => True) := by
  refine z_ofMv (cc := cX8_notes) (maxL := 4) (ret := none) RX8 (by decide +kernel) rfl rfl (Nat.le_of_ble_eq_true rfl) ?_
  intro p0 en0 s0 m0 args0 below0 meth0 c0 ls AA hx hb hr hlocks hnm hml hown hts hP hD hS hA hK hl
  have hl : lv_has ls 4 [(0, .ref (bd 0)), (1, .int (iI (x))), (2, .int (iI (r))), (3, .int (iI (c)))] := hl
  obtain ⟨H, hH⟩ : ∃ H, H = s0.heap := ⟨_, rfl⟩
  obtain ⟨locs, hlo⟩ : ∃ locs : List Loc, locs = [] := ⟨_, rfl⟩
  have hP : va_P D vwCl [(bd 0, .inr (8, [.ref (bd 1), .ref (bd 2), .ref (bd 3), .ref (bd 4), .ref (bd 5), .ref (bd 6), .ref (bd 7), .int (iI (cn)), .ref (bd 8), .int (iI (mp)), .ref (bd 9), .int (iI (ty)), .int (iI (th)), .ref (bd 10), .ref (bd 11), .int (iI (sp)), .int (iI (ta)), .int (iI (ke)), .int (iI (on)), .int (iI (tw))])), (bd 2, .inl (cI, 160, .inl (iA (Vm)))), (bd 7, .inl (cI, 16384, .inl (iA (Lm))))] H := by rw [hH]; exact hP
  have hS : va_S AA s0.heap H locs := by rw [hH, hlo]; exact hS
  suffices hW : W p0 l en0 (headSpec wsX8_notes ({ frames := 0, cells := 0, slots := 0, locals := 0 })).room s0 m0 args0 below0 meth0 c0 H locs 0 0 (QMv below0 D ((fun (u : Unit) => [(bd 0, .inr (8, [.ref (bd 1), .ref (bd 2), .ref (bd 3), .ref (bd 4), .ref (bd 5), .ref (bd 6), .ref (bd 7), .int (iI (cn + 1)), .ref (bd 8), .int (iI (mp)), .ref (bd 9), .int (iI (ty)), .int (iI (th)), .ref (bd 10), .ref (bd 11), .int (iI (sp)), .int (iI (ta)), .int (iI (ke)), .int (iI (on)), .int (iI (tw))])), (bd 2, .inl (cI, 160, .inl (iA (Vm)))), (bd 7, .inl (cI, 16384, .inl (iA (uI Lm cn (pkM x r c (Vm (2 * r)) (Vm (2 * r + 1)))))))])) (fun _ => True) AA args0 s0 (0) (0)) (F0 m0 0 ls []) by rw [hH, hlo] at hW; exact hW
  refine lv_aload_n hx hb dX8_notes_0 rfl (lv_at hl 0 rfl) ?_
  refine va_get (D := D) (ci := 8) (v := .ref (bd 7)) (C := RX8) (T := TX8) (N := 20) hx hb hts (fun _ h => List.mem_cons_of_mem _ (List.mem_append_right _ (h))) hown hK.1 hP 0 rfl rfl 6 (by decide) (hts (.fieldLink RX8 29 "ForeignKeyStoreModel" "list" "[I") (List.mem_of_getElem? (i := 1) rfl)) (fun _ h9 => h9) rfl dX8_notes_1 ?_
  refine lv_aload_n hx hb dX8_notes_4 rfl (lv_at hl 0 rfl) ?_
  refine va_get (D := D) (ci := 8) (v := .int (iI (cn))) (C := RX8) (T := TX8) (N := 20) hx hb hts (fun _ h => List.mem_cons_of_mem _ (List.mem_append_right _ (h))) hown hK.1 hP 0 rfl rfl 7 (by decide) (hts (.fieldLink RX8 67 "ForeignKeyStoreModel" "changes" "I") (List.mem_of_getElem? (i := 2) rfl)) (fun _ h9 => h9) rfl dX8_notes_5 ?_
  refine lv_iload_n hx hb dX8_notes_8 rfl (lv_at hl 1 rfl) ?_
  refine lv_bipush (v := iI (80)) hx hb dX8_notes_9 (by decide) ?_
  refine z_imul hx hb dX8_notes_11 ?_
  refine lv_iload_n hx hb dX8_notes_12 rfl (lv_at hl 2 rfl) ?_
  refine z_iadd hx hb dX8_notes_13 ?_
  refine lv_iconst (v := iI (2)) hx hb dX8_notes_14 rfl ?_
  refine z_imul hx hb dX8_notes_15 ?_
  refine lv_iload_n hx hb dX8_notes_16 rfl (lv_at hl 3 rfl) ?_
  refine z_iadd hx hb dX8_notes_17 ?_
  refine lv_bipush (v := iI (21)) hx hb dX8_notes_18 (by decide) ?_
  refine z_imul hx hb dX8_notes_20 ?_
  refine lv_aload_n hx hb dX8_notes_21 rfl (lv_at hl 0 rfl) ?_
  refine va_get (D := D) (ci := 8) (v := .ref (bd 2)) (C := RX8) (T := TX8) (N := 20) hx hb hts (fun _ h => List.mem_cons_of_mem _ (List.mem_append_right _ (h))) hown hK.1 hP 0 rfl rfl 1 (by decide) (hts (.fieldLink RX8 13 "ForeignKeyStoreModel" "values" "[I") (List.mem_of_getElem? (i := 3) rfl)) (fun _ h9 => h9) rfl dX8_notes_22 ?_
  refine lv_iconst (v := iI (2)) hx hb dX8_notes_25 rfl ?_
  refine lv_iload_n hx hb dX8_notes_26 rfl (lv_at hl 2 rfl) ?_
  refine z_imul hx hb dX8_notes_27 ?_
  refine z_iald hx hb hK.1 hP 1 0 rfl rfl (by omega) (by decide) dX8_notes_28 ?_
  have hb_1 := g_Vm ((2 * r)) (by omega) (by omega)
  refine z_iadd hx hb dX8_notes_29 ?_
  refine lv_iconst (v := iI (1)) hx hb dX8_notes_30 rfl ?_
  refine z_iadd hx hb dX8_notes_31 ?_
  refine lv_bipush (v := iI (21)) hx hb dX8_notes_32 (by decide) ?_
  refine z_imul hx hb dX8_notes_34 ?_
  refine lv_aload_n hx hb dX8_notes_35 rfl (lv_at hl 0 rfl) ?_
  refine va_get (D := D) (ci := 8) (v := .ref (bd 2)) (C := RX8) (T := TX8) (N := 20) hx hb hts (fun _ h => List.mem_cons_of_mem _ (List.mem_append_right _ (h))) hown hK.1 hP 0 rfl rfl 1 (by decide) (hts (.fieldLink RX8 13 "ForeignKeyStoreModel" "values" "[I") (List.mem_of_getElem? (i := 3) rfl)) (fun _ h9 => h9) rfl dX8_notes_36 ?_
  refine lv_iconst (v := iI (2)) hx hb dX8_notes_39 rfl ?_
  refine lv_iload_n hx hb dX8_notes_40 rfl (lv_at hl 2 rfl) ?_
  refine z_imul hx hb dX8_notes_41 ?_
  refine lv_iconst (v := iI (1)) hx hb dX8_notes_42 rfl ?_
  refine z_iadd hx hb dX8_notes_43 ?_
  refine z_iald hx hb hK.1 hP 1 0 rfl rfl (by omega) (by decide) dX8_notes_44 ?_
  have hb_2 := g_Vm (((2 * r) + 1)) (by omega) (by omega)
  refine z_iadd hx hb dX8_notes_45 ?_
  refine lv_iconst (v := iI (1)) hx hb dX8_notes_46 rfl ?_
  refine z_iadd hx hb dX8_notes_47 ?_
  refine z_iast hx hb hK.1 hP hD hS 2 0 rfl rfl (by omega) (by decide) dX8_notes_48 (fun H locs hP hD hS => ?_)
  have hP : va_P D vwCl [(bd 0, .inr (8, [.ref (bd 1), .ref (bd 2), .ref (bd 3), .ref (bd 4), .ref (bd 5), .ref (bd 6), .ref (bd 7), .int (iI (cn)), .ref (bd 8), .int (iI (mp)), .ref (bd 9), .int (iI (ty)), .int (iI (th)), .ref (bd 10), .ref (bd 11), .int (iI (sp)), .int (iI (ta)), .int (iI (ke)), .int (iI (on)), .int (iI (tw))])), (bd 2, .inl (cI, 160, .inl (iA (Vm)))), (bd 7, .inl (cI, 16384, .inl (iA (uI (Lm) (cn) (((((((((((x * 80) + r) * 2) + c) * 21) + (Vm ((2 * r)))) + 1) * 21) + (Vm (((2 * r) + 1)))) + 1))))))] H := hP
  have hD : va_D AA [(bd 0, .inr (8, [.ref (bd 1), .ref (bd 2), .ref (bd 3), .ref (bd 4), .ref (bd 5), .ref (bd 6), .ref (bd 7), .int (iI (cn)), .ref (bd 8), .int (iI (mp)), .ref (bd 9), .int (iI (ty)), .int (iI (th)), .ref (bd 10), .ref (bd 11), .int (iI (sp)), .int (iI (ta)), .int (iI (ke)), .int (iI (on)), .int (iI (tw))])), (bd 2, .inl (cI, 160, .inl (iA (Vm)))), (bd 7, .inl (cI, 16384, .inl (iA (uI (Lm) (cn) (((((((((((x * 80) + r) * 2) + c) * 21) + (Vm ((2 * r)))) + 1) * 21) + (Vm (((2 * r) + 1)))) + 1))))))] := hD
  refine lv_aload_n hx hb dX8_notes_49 rfl (lv_at hl 0 rfl) ?_
  refine lv_dup hx hb dX8_notes_50 rfl ?_
  refine va_get (D := D) (ci := 8) (v := .int (iI (cn))) (C := RX8) (T := TX8) (N := 20) hx hb hts (fun _ h => List.mem_cons_of_mem _ (List.mem_append_right _ (h))) hown hK.1 hP 0 rfl rfl 7 (by decide) (hts (.fieldLink RX8 67 "ForeignKeyStoreModel" "changes" "I") (List.mem_of_getElem? (i := 2) rfl)) (fun _ h9 => h9) rfl dX8_notes_51 ?_
  refine lv_iconst (v := iI (1)) hx hb dX8_notes_54 rfl ?_
  refine z_iadd hx hb dX8_notes_55 ?_
  refine va_put (D := D) (ci := 8) (v := .int (iI ((cn + 1)))) (ty := .int) (C := RX8) (T := TX8) (N := 20) hx hb hts (fun _ h => List.mem_cons_of_mem _ (List.mem_append_right _ (h))) tyX8 tyX8_ok nmX8 hown hK.1 hP hD hS 0 rfl rfl 7 (by decide) (hts (.fieldLink RX8 67 "ForeignKeyStoreModel" "changes" "I") (List.mem_of_getElem? (i := 2) rfl)) (fun _ h9 => h9) rfl (by decide +kernel) rfl rfl (Nat.le_of_ble_eq_true rfl) dX8_notes_56 (fun H locs hP hD hS => ?_)
  have hP : va_P D vwCl [(bd 0, .inr (8, [.ref (bd 1), .ref (bd 2), .ref (bd 3), .ref (bd 4), .ref (bd 5), .ref (bd 6), .ref (bd 7), .int (iI ((cn + 1))), .ref (bd 8), .int (iI (mp)), .ref (bd 9), .int (iI (ty)), .int (iI (th)), .ref (bd 10), .ref (bd 11), .int (iI (sp)), .int (iI (ta)), .int (iI (ke)), .int (iI (on)), .int (iI (tw))])), (bd 2, .inl (cI, 160, .inl (iA (Vm)))), (bd 7, .inl (cI, 16384, .inl (iA (uI (Lm) (cn) (((((((((((x * 80) + r) * 2) + c) * 21) + (Vm ((2 * r)))) + 1) * 21) + (Vm (((2 * r) + 1)))) + 1))))))] H := hP
  have hD : va_D AA [(bd 0, .inr (8, [.ref (bd 1), .ref (bd 2), .ref (bd 3), .ref (bd 4), .ref (bd 5), .ref (bd 6), .ref (bd 7), .int (iI ((cn + 1))), .ref (bd 8), .int (iI (mp)), .ref (bd 9), .int (iI (ty)), .int (iI (th)), .ref (bd 10), .ref (bd 11), .int (iI (sp)), .int (iI (ta)), .int (iI (ke)), .int (iI (on)), .int (iI (tw))])), (bd 2, .inl (cI, 160, .inl (iA (Vm)))), (bd 7, .inl (cI, 16384, .inl (iA (uI (Lm) (cn) (((((((((((x * 80) + r) * 2) + c) * 21) + (Vm ((2 * r)))) + 1) * 21) + (Vm (((2 * r) + 1)))) + 1))))))] := hD
  refine z_vret (()) hx hb hr hlocks dX8_notes_59 hP hD hS ?_
  exact trivial

set_option maxHeartbeats 600000 in
set_option maxRecDepth 100000 in
theorem c_X8_puts (l : Launch) (D : va_G) (cI cZ cC : ClassId) (sz : Nat) (bd : Nat → Nat) (cn mp ty th sp ta ke on tw : Int) (Ir Vm Lm : Int → Int) (r a b : Int) (g_Vm : ∀ j : Int, 0 ≤ j → j < 160 → -1 ≤ Vm j ∧ Vm j ≤ 19) (g_cn : 0 ≤ cn ∧ cn < 16384) (g_r : 0 ≤ r ∧ r < 80) (g_a : -1 ≤ a ∧ a ≤ 19) (g_b : -1 ≤ b ∧ b ≤ 19) : zMv l yX8_puts wsX8_puts ({ frames := 1, cells := 0, slots := 0, locals := 23 }) D cI cZ cC [(bd 0, .inr (8, [.ref (bd 1), .ref (bd 2), .ref (bd 3), .ref (bd 4), .ref (bd 5), .ref (bd 6), .ref (bd 7), .int (iI (cn)), .ref (bd 8), .int (iI (mp)), .ref (bd 9), .int (iI (ty)), .int (iI (th)), .ref (bd 10), .ref (bd 11), .int (iI (sp)), .int (iI (ta)), .int (iI (ke)), .int (iI (on)), .int (iI (tw))])), (bd 1, .inl (cZ, 80, .inl (iA (Ir)))), (bd 2, .inl (cI, 160, .inl (iA (Vm)))), (bd 7, .inl (cI, 16384, .inl (iA (Lm))))] sz [.ref (bd 0), .int (iI (r)), .int (iI (a)), .int (iI (b))] (0) (0) (fun (u : Unit) => [(bd 0, .inr (8, [.ref (bd 1), .ref (bd 2), .ref (bd 3), .ref (bd 4), .ref (bd 5), .ref (bd 6), .ref (bd 7), .int (iI (cn + 1)), .ref (bd 8), .int (iI (mp)), .ref (bd 9), .int (iI (ty)), .int (iI (th)), .ref (bd 10), .ref (bd 11), .int (iI (sp)), .int (iI (ta)), .int (iI (ke)), .int (iI (on)), .int (iI (tw))])), (bd 1, .inl (cZ, 80, .inl (iA (uI Ir r 1)))), (bd 2, .inl (cI, 160, .inl (iA (uI (uI Vm (2 * r) a) (2 * r + 1) b)))), (bd 7, .inl (cI, 16384, .inl (iA (uI Lm cn (pkM 0 r 0 (Vm (2 * r)) (Vm (2 * r + 1)))))))]) (fun _ => True) := by
  refine z_ofMv (cc := cX8_puts) (maxL := 4) (ret := none) RX8 (by decide +kernel) rfl rfl (Nat.le_of_ble_eq_true rfl) ?_
  intro p0 en0 s0 m0 args0 below0 meth0 c0 ls AA hx hb hr hlocks hnm hml hown hts hP hD hS hA hK hl
  have hl : lv_has ls 4 [(0, .ref (bd 0)), (1, .int (iI (r))), (2, .int (iI (a))), (3, .int (iI (b)))] := hl
  obtain ⟨H, hH⟩ : ∃ H, H = s0.heap := ⟨_, rfl⟩
  obtain ⟨locs, hlo⟩ : ∃ locs : List Loc, locs = [] := ⟨_, rfl⟩
  have hP : va_P D vwCl [(bd 0, .inr (8, [.ref (bd 1), .ref (bd 2), .ref (bd 3), .ref (bd 4), .ref (bd 5), .ref (bd 6), .ref (bd 7), .int (iI (cn)), .ref (bd 8), .int (iI (mp)), .ref (bd 9), .int (iI (ty)), .int (iI (th)), .ref (bd 10), .ref (bd 11), .int (iI (sp)), .int (iI (ta)), .int (iI (ke)), .int (iI (on)), .int (iI (tw))])), (bd 1, .inl (cZ, 80, .inl (iA (Ir)))), (bd 2, .inl (cI, 160, .inl (iA (Vm)))), (bd 7, .inl (cI, 16384, .inl (iA (Lm))))] H := by rw [hH]; exact hP
  have hS : va_S AA s0.heap H locs := by rw [hH, hlo]; exact hS
  suffices hW : W p0 l en0 (headSpec wsX8_puts ({ frames := 1, cells := 0, slots := 0, locals := 23 })).room s0 m0 args0 below0 meth0 c0 H locs 0 0 (QMv below0 D ((fun (u : Unit) => [(bd 0, .inr (8, [.ref (bd 1), .ref (bd 2), .ref (bd 3), .ref (bd 4), .ref (bd 5), .ref (bd 6), .ref (bd 7), .int (iI (cn + 1)), .ref (bd 8), .int (iI (mp)), .ref (bd 9), .int (iI (ty)), .int (iI (th)), .ref (bd 10), .ref (bd 11), .int (iI (sp)), .int (iI (ta)), .int (iI (ke)), .int (iI (on)), .int (iI (tw))])), (bd 1, .inl (cZ, 80, .inl (iA (uI Ir r 1)))), (bd 2, .inl (cI, 160, .inl (iA (uI (uI Vm (2 * r) a) (2 * r + 1) b)))), (bd 7, .inl (cI, 16384, .inl (iA (uI Lm cn (pkM 0 r 0 (Vm (2 * r)) (Vm (2 * r + 1)))))))])) (fun _ => True) AA args0 s0 (0) (0)) (F0 m0 0 ls []) by rw [hH, hlo] at hW; exact hW
  refine lv_aload_n hx hb dX8_puts_0 rfl (lv_at hl 0 rfl) ?_
  refine lv_iconst (v := iI (0)) hx hb dX8_puts_1 rfl ?_
  refine lv_iload_n hx hb dX8_puts_2 rfl (lv_at hl 1 rfl) ?_
  refine lv_iconst (v := iI (0)) hx hb dX8_puts_3 rfl ?_
  refine z_mvV (As := [.int (iI (0)), .int (iI (r)), .int (iI (0))]) (rest := []) (wr := [(bd 1, .inl (cZ, 80, .inl (iA (Ir))))]) (ws2 := (fun (u : Unit) => [(bd 0, .inr (8, [.ref (bd 1), .ref (bd 2), .ref (bd 3), .ref (bd 4), .ref (bd 5), .ref (bd 6), .ref (bd 7), .int (iI (cn + 1)), .ref (bd 8), .int (iI (mp)), .ref (bd 9), .int (iI (ty)), .int (iI (th)), .ref (bd 10), .ref (bd 11), .int (iI (sp)), .int (iI (ta)), .int (iI (ke)), .int (iI (on)), .int (iI (tw))])), (bd 1, .inl (cZ, 80, .inl (iA (Ir)))), (bd 2, .inl (cI, 160, .inl (iA (Vm)))), (bd 7, .inl (cI, 16384, .inl (iA (uI Lm cn (pkM 0 r 0 (Vm (2 * r)) (Vm (2 * r + 1)))))))])) ⟨hx, hb, hml, hown, hts⟩ (c_X8_notes l D cI cZ cC H.size (bd) (cn) (mp) (ty) (th) (sp) (ta) (ke) (on) (tw) (Vm) (Lm) (0) (r) (0) (by first | assumption | omega) (by first | assumption | omega) (by first | assumption | omega) (by first | assumption | omega) (by first | assumption | omega)) (cwV 3 hts gX8_puts_X8_notes rfl rfl rfl (by decide +kernel) ⟨Nat.le_of_ble_eq_true rfl, Nat.le_of_ble_eq_true rfl⟩) hP hD hS hA hK [0, 2, 3] [1] [1, 0, 2, 3] rfl (by decide) rfl (by decide) (by decide) (by decide) (fun _ => rfl) 0 8 rfl rfl rfl rfl hl.1 rfl (Nat.le_of_ble_eq_true rfl) dX8_puts_4 ⟨by omega, by omega⟩ (fun u H locs hq_1 hP hD hS => ?_)
  have hP : va_P D vwCl [(bd 0, .inr (8, [.ref (bd 1), .ref (bd 2), .ref (bd 3), .ref (bd 4), .ref (bd 5), .ref (bd 6), .ref (bd 7), .int (iI (cn + 1)), .ref (bd 8), .int (iI (mp)), .ref (bd 9), .int (iI (ty)), .int (iI (th)), .ref (bd 10), .ref (bd 11), .int (iI (sp)), .int (iI (ta)), .int (iI (ke)), .int (iI (on)), .int (iI (tw))])), (bd 1, .inl (cZ, 80, .inl (iA (Ir)))), (bd 2, .inl (cI, 160, .inl (iA (Vm)))), (bd 7, .inl (cI, 16384, .inl (iA (uI Lm cn (pkM 0 r 0 (Vm (2 * r)) (Vm (2 * r + 1)))))))] H := hP
  have hD : va_D AA [(bd 0, .inr (8, [.ref (bd 1), .ref (bd 2), .ref (bd 3), .ref (bd 4), .ref (bd 5), .ref (bd 6), .ref (bd 7), .int (iI (cn + 1)), .ref (bd 8), .int (iI (mp)), .ref (bd 9), .int (iI (ty)), .int (iI (th)), .ref (bd 10), .ref (bd 11), .int (iI (sp)), .int (iI (ta)), .int (iI (ke)), .int (iI (on)), .int (iI (tw))])), (bd 1, .inl (cZ, 80, .inl (iA (Ir)))), (bd 2, .inl (cI, 160, .inl (iA (Vm)))), (bd 7, .inl (cI, 16384, .inl (iA (uI Lm cn (pkM 0 r 0 (Vm (2 * r)) (Vm (2 * r + 1)))))))] := hD
  try dsimp only at hq_1
  refine lv_aload_n hx hb dX8_puts_7 rfl (lv_at hl 0 rfl) ?_
  refine va_get (D := D) (ci := 8) (v := .ref (bd 1)) (C := RX8) (T := TX8) (N := 20) hx hb hts (fun _ h => List.mem_cons_of_mem _ (List.mem_append_right _ (h))) hown hK.1 hP 0 rfl rfl 0 (by decide) (hts (.fieldLink RX8 7 "ForeignKeyStoreModel" "isRow" "[Z") (List.mem_of_getElem? (i := 1) rfl)) (fun _ h9 => h9) rfl dX8_puts_8 ?_
  refine lv_iload_n hx hb dX8_puts_11 rfl (lv_at hl 1 rfl) ?_
  refine lv_iconst (v := iI (1)) hx hb dX8_puts_12 rfl ?_
  refine z_zast hx hb hK.1 hP hD hS 1 1 rfl rfl (by omega) (by decide) (by omega) dX8_puts_13 (fun H locs hP hD hS => ?_)
  have hP : va_P D vwCl [(bd 0, .inr (8, [.ref (bd 1), .ref (bd 2), .ref (bd 3), .ref (bd 4), .ref (bd 5), .ref (bd 6), .ref (bd 7), .int (iI (cn + 1)), .ref (bd 8), .int (iI (mp)), .ref (bd 9), .int (iI (ty)), .int (iI (th)), .ref (bd 10), .ref (bd 11), .int (iI (sp)), .int (iI (ta)), .int (iI (ke)), .int (iI (on)), .int (iI (tw))])), (bd 1, .inl (cZ, 80, .inl (iA (uI (Ir) (r) (1))))), (bd 2, .inl (cI, 160, .inl (iA (Vm)))), (bd 7, .inl (cI, 16384, .inl (iA (uI Lm cn (pkM 0 r 0 (Vm (2 * r)) (Vm (2 * r + 1)))))))] H := hP
  have hD : va_D AA [(bd 0, .inr (8, [.ref (bd 1), .ref (bd 2), .ref (bd 3), .ref (bd 4), .ref (bd 5), .ref (bd 6), .ref (bd 7), .int (iI (cn + 1)), .ref (bd 8), .int (iI (mp)), .ref (bd 9), .int (iI (ty)), .int (iI (th)), .ref (bd 10), .ref (bd 11), .int (iI (sp)), .int (iI (ta)), .int (iI (ke)), .int (iI (on)), .int (iI (tw))])), (bd 1, .inl (cZ, 80, .inl (iA (uI (Ir) (r) (1))))), (bd 2, .inl (cI, 160, .inl (iA (Vm)))), (bd 7, .inl (cI, 16384, .inl (iA (uI Lm cn (pkM 0 r 0 (Vm (2 * r)) (Vm (2 * r + 1)))))))] := hD
  refine lv_aload_n hx hb dX8_puts_14 rfl (lv_at hl 0 rfl) ?_
  refine va_get (D := D) (ci := 8) (v := .ref (bd 2)) (C := RX8) (T := TX8) (N := 20) hx hb hts (fun _ h => List.mem_cons_of_mem _ (List.mem_append_right _ (h))) hown hK.1 hP 0 rfl rfl 1 (by decide) (hts (.fieldLink RX8 13 "ForeignKeyStoreModel" "values" "[I") (List.mem_of_getElem? (i := 2) rfl)) (fun _ h9 => h9) rfl dX8_puts_15 ?_
  refine lv_iconst (v := iI (2)) hx hb dX8_puts_18 rfl ?_
  refine lv_iload_n hx hb dX8_puts_19 rfl (lv_at hl 1 rfl) ?_
  refine z_imul hx hb dX8_puts_20 ?_
  refine lv_iload_n hx hb dX8_puts_21 rfl (lv_at hl 2 rfl) ?_
  refine z_iast hx hb hK.1 hP hD hS 2 0 rfl rfl (by omega) (by decide) dX8_puts_22 (fun H locs hP hD hS => ?_)
  have hP : va_P D vwCl [(bd 0, .inr (8, [.ref (bd 1), .ref (bd 2), .ref (bd 3), .ref (bd 4), .ref (bd 5), .ref (bd 6), .ref (bd 7), .int (iI (cn + 1)), .ref (bd 8), .int (iI (mp)), .ref (bd 9), .int (iI (ty)), .int (iI (th)), .ref (bd 10), .ref (bd 11), .int (iI (sp)), .int (iI (ta)), .int (iI (ke)), .int (iI (on)), .int (iI (tw))])), (bd 1, .inl (cZ, 80, .inl (iA (uI (Ir) (r) (1))))), (bd 2, .inl (cI, 160, .inl (iA (uI (Vm) ((2 * r)) (a))))), (bd 7, .inl (cI, 16384, .inl (iA (uI Lm cn (pkM 0 r 0 (Vm (2 * r)) (Vm (2 * r + 1)))))))] H := hP
  have hD : va_D AA [(bd 0, .inr (8, [.ref (bd 1), .ref (bd 2), .ref (bd 3), .ref (bd 4), .ref (bd 5), .ref (bd 6), .ref (bd 7), .int (iI (cn + 1)), .ref (bd 8), .int (iI (mp)), .ref (bd 9), .int (iI (ty)), .int (iI (th)), .ref (bd 10), .ref (bd 11), .int (iI (sp)), .int (iI (ta)), .int (iI (ke)), .int (iI (on)), .int (iI (tw))])), (bd 1, .inl (cZ, 80, .inl (iA (uI (Ir) (r) (1))))), (bd 2, .inl (cI, 160, .inl (iA (uI (Vm) ((2 * r)) (a))))), (bd 7, .inl (cI, 16384, .inl (iA (uI Lm cn (pkM 0 r 0 (Vm (2 * r)) (Vm (2 * r + 1)))))))] := hD
  refine lv_aload_n hx hb dX8_puts_23 rfl (lv_at hl 0 rfl) ?_
  refine va_get (D := D) (ci := 8) (v := .ref (bd 2)) (C := RX8) (T := TX8) (N := 20) hx hb hts (fun _ h => List.mem_cons_of_mem _ (List.mem_append_right _ (h))) hown hK.1 hP 0 rfl rfl 1 (by decide) (hts (.fieldLink RX8 13 "ForeignKeyStoreModel" "values" "[I") (List.mem_of_getElem? (i := 2) rfl)) (fun _ h9 => h9) rfl dX8_puts_24 ?_
  refine lv_iconst (v := iI (2)) hx hb dX8_puts_27 rfl ?_
  refine lv_iload_n hx hb dX8_puts_28 rfl (lv_at hl 1 rfl) ?_
  refine z_imul hx hb dX8_puts_29 ?_
  refine lv_iconst (v := iI (1)) hx hb dX8_puts_30 rfl ?_
  refine z_iadd hx hb dX8_puts_31 ?_
  refine lv_iload_n hx hb dX8_puts_32 rfl (lv_at hl 3 rfl) ?_
  refine z_iast hx hb hK.1 hP hD hS 2 0 rfl rfl (by omega) (by decide) dX8_puts_33 (fun H locs hP hD hS => ?_)
  have hP : va_P D vwCl [(bd 0, .inr (8, [.ref (bd 1), .ref (bd 2), .ref (bd 3), .ref (bd 4), .ref (bd 5), .ref (bd 6), .ref (bd 7), .int (iI (cn + 1)), .ref (bd 8), .int (iI (mp)), .ref (bd 9), .int (iI (ty)), .int (iI (th)), .ref (bd 10), .ref (bd 11), .int (iI (sp)), .int (iI (ta)), .int (iI (ke)), .int (iI (on)), .int (iI (tw))])), (bd 1, .inl (cZ, 80, .inl (iA (uI (Ir) (r) (1))))), (bd 2, .inl (cI, 160, .inl (iA (uI (uI (Vm) ((2 * r)) (a)) (((2 * r) + 1)) (b))))), (bd 7, .inl (cI, 16384, .inl (iA (uI Lm cn (pkM 0 r 0 (Vm (2 * r)) (Vm (2 * r + 1)))))))] H := hP
  have hD : va_D AA [(bd 0, .inr (8, [.ref (bd 1), .ref (bd 2), .ref (bd 3), .ref (bd 4), .ref (bd 5), .ref (bd 6), .ref (bd 7), .int (iI (cn + 1)), .ref (bd 8), .int (iI (mp)), .ref (bd 9), .int (iI (ty)), .int (iI (th)), .ref (bd 10), .ref (bd 11), .int (iI (sp)), .int (iI (ta)), .int (iI (ke)), .int (iI (on)), .int (iI (tw))])), (bd 1, .inl (cZ, 80, .inl (iA (uI (Ir) (r) (1))))), (bd 2, .inl (cI, 160, .inl (iA (uI (uI (Vm) ((2 * r)) (a)) (((2 * r) + 1)) (b))))), (bd 7, .inl (cI, 16384, .inl (iA (uI Lm cn (pkM 0 r 0 (Vm (2 * r)) (Vm (2 * r + 1)))))))] := hD
  refine z_vret (()) hx hb hr hlocks dX8_puts_34 hP hD hS ?_
  exact trivial

set_option maxHeartbeats 600000 in
set_option maxRecDepth 100000 in
theorem c_X8_sets (l : Launch) (D : va_G) (cI cZ cC : ClassId) (sz : Nat) (bd : Nat → Nat) (cn mp ty th sp ta ke on tw : Int) (Ir Vm Lm : Int → Int) (r c v : Int) (g_Vm : ∀ j : Int, 0 ≤ j → j < 160 → -1 ≤ Vm j ∧ Vm j ≤ 19) (g_cn : 0 ≤ cn ∧ cn < 16384) (g_r : 0 ≤ r ∧ r < 80) (g_c : c = 0 ∨ c = 1) (g_v : -1 ≤ v ∧ v ≤ 19) : zMv l yX8_sets wsX8_sets ({ frames := 1, cells := 0, slots := 0, locals := 23 }) D cI cZ cC [(bd 0, .inr (8, [.ref (bd 1), .ref (bd 2), .ref (bd 3), .ref (bd 4), .ref (bd 5), .ref (bd 6), .ref (bd 7), .int (iI (cn)), .ref (bd 8), .int (iI (mp)), .ref (bd 9), .int (iI (ty)), .int (iI (th)), .ref (bd 10), .ref (bd 11), .int (iI (sp)), .int (iI (ta)), .int (iI (ke)), .int (iI (on)), .int (iI (tw))])), (bd 2, .inl (cI, 160, .inl (iA (Vm)))), (bd 7, .inl (cI, 16384, .inl (iA (Lm))))] sz [.ref (bd 0), .int (iI (r)), .int (iI (c)), .int (iI (v))] (0) (0) (fun (u : Unit) => [(bd 0, .inr (8, [.ref (bd 1), .ref (bd 2), .ref (bd 3), .ref (bd 4), .ref (bd 5), .ref (bd 6), .ref (bd 7), .int (iI (cn + 1)), .ref (bd 8), .int (iI (mp)), .ref (bd 9), .int (iI (ty)), .int (iI (th)), .ref (bd 10), .ref (bd 11), .int (iI (sp)), .int (iI (ta)), .int (iI (ke)), .int (iI (on)), .int (iI (tw))])), (bd 2, .inl (cI, 160, .inl (iA (uI Vm (2 * r + c) v)))), (bd 7, .inl (cI, 16384, .inl (iA (uI Lm cn (pkM 2 r c (Vm (2 * r)) (Vm (2 * r + 1)))))))]) (fun _ => True) := by
  refine z_ofMv (cc := cX8_sets) (maxL := 4) (ret := none) RX8 (by decide +kernel) rfl rfl (Nat.le_of_ble_eq_true rfl) ?_
  intro p0 en0 s0 m0 args0 below0 meth0 c0 ls AA hx hb hr hlocks hnm hml hown hts hP hD hS hA hK hl
  have hl : lv_has ls 4 [(0, .ref (bd 0)), (1, .int (iI (r))), (2, .int (iI (c))), (3, .int (iI (v)))] := hl
  obtain ⟨H, hH⟩ : ∃ H, H = s0.heap := ⟨_, rfl⟩
  obtain ⟨locs, hlo⟩ : ∃ locs : List Loc, locs = [] := ⟨_, rfl⟩
  have hP : va_P D vwCl [(bd 0, .inr (8, [.ref (bd 1), .ref (bd 2), .ref (bd 3), .ref (bd 4), .ref (bd 5), .ref (bd 6), .ref (bd 7), .int (iI (cn)), .ref (bd 8), .int (iI (mp)), .ref (bd 9), .int (iI (ty)), .int (iI (th)), .ref (bd 10), .ref (bd 11), .int (iI (sp)), .int (iI (ta)), .int (iI (ke)), .int (iI (on)), .int (iI (tw))])), (bd 2, .inl (cI, 160, .inl (iA (Vm)))), (bd 7, .inl (cI, 16384, .inl (iA (Lm))))] H := by rw [hH]; exact hP
  have hS : va_S AA s0.heap H locs := by rw [hH, hlo]; exact hS
  suffices hW : W p0 l en0 (headSpec wsX8_sets ({ frames := 1, cells := 0, slots := 0, locals := 23 })).room s0 m0 args0 below0 meth0 c0 H locs 0 0 (QMv below0 D ((fun (u : Unit) => [(bd 0, .inr (8, [.ref (bd 1), .ref (bd 2), .ref (bd 3), .ref (bd 4), .ref (bd 5), .ref (bd 6), .ref (bd 7), .int (iI (cn + 1)), .ref (bd 8), .int (iI (mp)), .ref (bd 9), .int (iI (ty)), .int (iI (th)), .ref (bd 10), .ref (bd 11), .int (iI (sp)), .int (iI (ta)), .int (iI (ke)), .int (iI (on)), .int (iI (tw))])), (bd 2, .inl (cI, 160, .inl (iA (uI Vm (2 * r + c) v)))), (bd 7, .inl (cI, 16384, .inl (iA (uI Lm cn (pkM 2 r c (Vm (2 * r)) (Vm (2 * r + 1)))))))])) (fun _ => True) AA args0 s0 (0) (0)) (F0 m0 0 ls []) by rw [hH, hlo] at hW; exact hW
  refine lv_aload_n hx hb dX8_sets_0 rfl (lv_at hl 0 rfl) ?_
  refine lv_iconst (v := iI (2)) hx hb dX8_sets_1 rfl ?_
  refine lv_iload_n hx hb dX8_sets_2 rfl (lv_at hl 1 rfl) ?_
  refine lv_iload_n hx hb dX8_sets_3 rfl (lv_at hl 2 rfl) ?_
  refine z_mvV (As := [.int (iI (2)), .int (iI (r)), .int (iI (c))]) (rest := []) (wr := []) (ws2 := (fun (u : Unit) => [(bd 0, .inr (8, [.ref (bd 1), .ref (bd 2), .ref (bd 3), .ref (bd 4), .ref (bd 5), .ref (bd 6), .ref (bd 7), .int (iI (cn + 1)), .ref (bd 8), .int (iI (mp)), .ref (bd 9), .int (iI (ty)), .int (iI (th)), .ref (bd 10), .ref (bd 11), .int (iI (sp)), .int (iI (ta)), .int (iI (ke)), .int (iI (on)), .int (iI (tw))])), (bd 2, .inl (cI, 160, .inl (iA (Vm)))), (bd 7, .inl (cI, 16384, .inl (iA (uI Lm cn (pkM 2 r c (Vm (2 * r)) (Vm (2 * r + 1)))))))])) ⟨hx, hb, hml, hown, hts⟩ (c_X8_notes l D cI cZ cC H.size (bd) (cn) (mp) (ty) (th) (sp) (ta) (ke) (on) (tw) (Vm) (Lm) (2) (r) (c) (by first | assumption | omega) (by first | assumption | omega) (by first | assumption | omega) (by first | assumption | omega) (by first | assumption | omega)) (cwV 3 hts gX8_sets_X8_notes rfl rfl rfl (by decide +kernel) ⟨Nat.le_of_ble_eq_true rfl, Nat.le_of_ble_eq_true rfl⟩) hP hD hS hA hK [0, 1, 2] [] [0, 1, 2] rfl (by decide) rfl (by decide) (by decide) (by decide) (fun _ => rfl) 0 8 rfl rfl rfl rfl hl.1 rfl (Nat.le_of_ble_eq_true rfl) dX8_sets_4 ⟨by omega, by omega⟩ (fun u H locs hq_1 hP hD hS => ?_)
  have hP : va_P D vwCl [(bd 0, .inr (8, [.ref (bd 1), .ref (bd 2), .ref (bd 3), .ref (bd 4), .ref (bd 5), .ref (bd 6), .ref (bd 7), .int (iI (cn + 1)), .ref (bd 8), .int (iI (mp)), .ref (bd 9), .int (iI (ty)), .int (iI (th)), .ref (bd 10), .ref (bd 11), .int (iI (sp)), .int (iI (ta)), .int (iI (ke)), .int (iI (on)), .int (iI (tw))])), (bd 2, .inl (cI, 160, .inl (iA (Vm)))), (bd 7, .inl (cI, 16384, .inl (iA (uI Lm cn (pkM 2 r c (Vm (2 * r)) (Vm (2 * r + 1)))))))] H := hP
  have hD : va_D AA [(bd 0, .inr (8, [.ref (bd 1), .ref (bd 2), .ref (bd 3), .ref (bd 4), .ref (bd 5), .ref (bd 6), .ref (bd 7), .int (iI (cn + 1)), .ref (bd 8), .int (iI (mp)), .ref (bd 9), .int (iI (ty)), .int (iI (th)), .ref (bd 10), .ref (bd 11), .int (iI (sp)), .int (iI (ta)), .int (iI (ke)), .int (iI (on)), .int (iI (tw))])), (bd 2, .inl (cI, 160, .inl (iA (Vm)))), (bd 7, .inl (cI, 16384, .inl (iA (uI Lm cn (pkM 2 r c (Vm (2 * r)) (Vm (2 * r + 1)))))))] := hD
  try dsimp only at hq_1
  refine lv_aload_n hx hb dX8_sets_7 rfl (lv_at hl 0 rfl) ?_
  refine va_get (D := D) (ci := 8) (v := .ref (bd 2)) (C := RX8) (T := TX8) (N := 20) hx hb hts (fun _ h => List.mem_cons_of_mem _ (List.mem_append_right _ (h))) hown hK.1 hP 0 rfl rfl 1 (by decide) (hts (.fieldLink RX8 13 "ForeignKeyStoreModel" "values" "[I") (List.mem_of_getElem? (i := 1) rfl)) (fun _ h9 => h9) rfl dX8_sets_8 ?_
  refine lv_iconst (v := iI (2)) hx hb dX8_sets_11 rfl ?_
  refine lv_iload_n hx hb dX8_sets_12 rfl (lv_at hl 1 rfl) ?_
  refine z_imul hx hb dX8_sets_13 ?_
  refine lv_iload_n hx hb dX8_sets_14 rfl (lv_at hl 2 rfl) ?_
  refine z_iadd hx hb dX8_sets_15 ?_
  refine lv_iload_n hx hb dX8_sets_16 rfl (lv_at hl 3 rfl) ?_
  refine z_iast hx hb hK.1 hP hD hS 1 0 rfl rfl (by omega) (by decide) dX8_sets_17 (fun H locs hP hD hS => ?_)
  have hP : va_P D vwCl [(bd 0, .inr (8, [.ref (bd 1), .ref (bd 2), .ref (bd 3), .ref (bd 4), .ref (bd 5), .ref (bd 6), .ref (bd 7), .int (iI (cn + 1)), .ref (bd 8), .int (iI (mp)), .ref (bd 9), .int (iI (ty)), .int (iI (th)), .ref (bd 10), .ref (bd 11), .int (iI (sp)), .int (iI (ta)), .int (iI (ke)), .int (iI (on)), .int (iI (tw))])), (bd 2, .inl (cI, 160, .inl (iA (uI (Vm) (((2 * r) + c)) (v))))), (bd 7, .inl (cI, 16384, .inl (iA (uI Lm cn (pkM 2 r c (Vm (2 * r)) (Vm (2 * r + 1)))))))] H := hP
  have hD : va_D AA [(bd 0, .inr (8, [.ref (bd 1), .ref (bd 2), .ref (bd 3), .ref (bd 4), .ref (bd 5), .ref (bd 6), .ref (bd 7), .int (iI (cn + 1)), .ref (bd 8), .int (iI (mp)), .ref (bd 9), .int (iI (ty)), .int (iI (th)), .ref (bd 10), .ref (bd 11), .int (iI (sp)), .int (iI (ta)), .int (iI (ke)), .int (iI (on)), .int (iI (tw))])), (bd 2, .inl (cI, 160, .inl (iA (uI (Vm) (((2 * r) + c)) (v))))), (bd 7, .inl (cI, 16384, .inl (iA (uI Lm cn (pkM 2 r c (Vm (2 * r)) (Vm (2 * r + 1)))))))] := hD
  refine z_vret (()) hx hb hr hlocks dX8_sets_18 hP hD hS ?_
  exact trivial

set_option maxHeartbeats 600000 in
set_option maxRecDepth 100000 in
theorem c_X8_removes (l : Launch) (D : va_G) (cI cZ cC : ClassId) (sz : Nat) (bd : Nat → Nat) (cn mp ty th sp ta ke on tw : Int) (Ir Vm Lm : Int → Int) (r : Int) (g_Vm : ∀ j : Int, 0 ≤ j → j < 160 → -1 ≤ Vm j ∧ Vm j ≤ 19) (g_cn : 0 ≤ cn ∧ cn < 16384) (g_r : 0 ≤ r ∧ r < 80) : zMv l yX8_removes wsX8_removes ({ frames := 1, cells := 0, slots := 0, locals := 23 }) D cI cZ cC [(bd 0, .inr (8, [.ref (bd 1), .ref (bd 2), .ref (bd 3), .ref (bd 4), .ref (bd 5), .ref (bd 6), .ref (bd 7), .int (iI (cn)), .ref (bd 8), .int (iI (mp)), .ref (bd 9), .int (iI (ty)), .int (iI (th)), .ref (bd 10), .ref (bd 11), .int (iI (sp)), .int (iI (ta)), .int (iI (ke)), .int (iI (on)), .int (iI (tw))])), (bd 1, .inl (cZ, 80, .inl (iA (Ir)))), (bd 2, .inl (cI, 160, .inl (iA (Vm)))), (bd 7, .inl (cI, 16384, .inl (iA (Lm))))] sz [.ref (bd 0), .int (iI (r))] (0) (0) (fun (u : Unit) => [(bd 0, .inr (8, [.ref (bd 1), .ref (bd 2), .ref (bd 3), .ref (bd 4), .ref (bd 5), .ref (bd 6), .ref (bd 7), .int (iI (cn + 1)), .ref (bd 8), .int (iI (mp)), .ref (bd 9), .int (iI (ty)), .int (iI (th)), .ref (bd 10), .ref (bd 11), .int (iI (sp)), .int (iI (ta)), .int (iI (ke)), .int (iI (on)), .int (iI (tw))])), (bd 1, .inl (cZ, 80, .inl (iA (uI Ir r 0)))), (bd 2, .inl (cI, 160, .inl (iA (Vm)))), (bd 7, .inl (cI, 16384, .inl (iA (uI Lm cn (pkM 1 r 0 (Vm (2 * r)) (Vm (2 * r + 1)))))))]) (fun _ => True) := by
  refine z_ofMv (cc := cX8_removes) (maxL := 2) (ret := none) RX8 (by decide +kernel) rfl rfl (Nat.le_of_ble_eq_true rfl) ?_
  intro p0 en0 s0 m0 args0 below0 meth0 c0 ls AA hx hb hr hlocks hnm hml hown hts hP hD hS hA hK hl
  have hl : lv_has ls 2 [(0, .ref (bd 0)), (1, .int (iI (r)))] := hl
  obtain ⟨H, hH⟩ : ∃ H, H = s0.heap := ⟨_, rfl⟩
  obtain ⟨locs, hlo⟩ : ∃ locs : List Loc, locs = [] := ⟨_, rfl⟩
  have hP : va_P D vwCl [(bd 0, .inr (8, [.ref (bd 1), .ref (bd 2), .ref (bd 3), .ref (bd 4), .ref (bd 5), .ref (bd 6), .ref (bd 7), .int (iI (cn)), .ref (bd 8), .int (iI (mp)), .ref (bd 9), .int (iI (ty)), .int (iI (th)), .ref (bd 10), .ref (bd 11), .int (iI (sp)), .int (iI (ta)), .int (iI (ke)), .int (iI (on)), .int (iI (tw))])), (bd 1, .inl (cZ, 80, .inl (iA (Ir)))), (bd 2, .inl (cI, 160, .inl (iA (Vm)))), (bd 7, .inl (cI, 16384, .inl (iA (Lm))))] H := by rw [hH]; exact hP
  have hS : va_S AA s0.heap H locs := by rw [hH, hlo]; exact hS
  suffices hW : W p0 l en0 (headSpec wsX8_removes ({ frames := 1, cells := 0, slots := 0, locals := 23 })).room s0 m0 args0 below0 meth0 c0 H locs 0 0 (QMv below0 D ((fun (u : Unit) => [(bd 0, .inr (8, [.ref (bd 1), .ref (bd 2), .ref (bd 3), .ref (bd 4), .ref (bd 5), .ref (bd 6), .ref (bd 7), .int (iI (cn + 1)), .ref (bd 8), .int (iI (mp)), .ref (bd 9), .int (iI (ty)), .int (iI (th)), .ref (bd 10), .ref (bd 11), .int (iI (sp)), .int (iI (ta)), .int (iI (ke)), .int (iI (on)), .int (iI (tw))])), (bd 1, .inl (cZ, 80, .inl (iA (uI Ir r 0)))), (bd 2, .inl (cI, 160, .inl (iA (Vm)))), (bd 7, .inl (cI, 16384, .inl (iA (uI Lm cn (pkM 1 r 0 (Vm (2 * r)) (Vm (2 * r + 1)))))))])) (fun _ => True) AA args0 s0 (0) (0)) (F0 m0 0 ls []) by rw [hH, hlo] at hW; exact hW
  refine lv_aload_n hx hb dX8_removes_0 rfl (lv_at hl 0 rfl) ?_
  refine lv_iconst (v := iI (1)) hx hb dX8_removes_1 rfl ?_
  refine lv_iload_n hx hb dX8_removes_2 rfl (lv_at hl 1 rfl) ?_
  refine lv_iconst (v := iI (0)) hx hb dX8_removes_3 rfl ?_
  refine z_mvV (As := [.int (iI (1)), .int (iI (r)), .int (iI (0))]) (rest := []) (wr := [(bd 1, .inl (cZ, 80, .inl (iA (Ir))))]) (ws2 := (fun (u : Unit) => [(bd 0, .inr (8, [.ref (bd 1), .ref (bd 2), .ref (bd 3), .ref (bd 4), .ref (bd 5), .ref (bd 6), .ref (bd 7), .int (iI (cn + 1)), .ref (bd 8), .int (iI (mp)), .ref (bd 9), .int (iI (ty)), .int (iI (th)), .ref (bd 10), .ref (bd 11), .int (iI (sp)), .int (iI (ta)), .int (iI (ke)), .int (iI (on)), .int (iI (tw))])), (bd 1, .inl (cZ, 80, .inl (iA (Ir)))), (bd 2, .inl (cI, 160, .inl (iA (Vm)))), (bd 7, .inl (cI, 16384, .inl (iA (uI Lm cn (pkM 1 r 0 (Vm (2 * r)) (Vm (2 * r + 1)))))))])) ⟨hx, hb, hml, hown, hts⟩ (c_X8_notes l D cI cZ cC H.size (bd) (cn) (mp) (ty) (th) (sp) (ta) (ke) (on) (tw) (Vm) (Lm) (1) (r) (0) (by first | assumption | omega) (by first | assumption | omega) (by first | assumption | omega) (by first | assumption | omega) (by first | assumption | omega)) (cwV 3 hts gX8_removes_X8_notes rfl rfl rfl (by decide +kernel) ⟨Nat.le_of_ble_eq_true rfl, Nat.le_of_ble_eq_true rfl⟩) hP hD hS hA hK [0, 2, 3] [1] [1, 0, 2, 3] rfl (by decide) rfl (by decide) (by decide) (by decide) (fun _ => rfl) 0 8 rfl rfl rfl rfl hl.1 rfl (Nat.le_of_ble_eq_true rfl) dX8_removes_4 ⟨by omega, by omega⟩ (fun u H locs hq_1 hP hD hS => ?_)
  have hP : va_P D vwCl [(bd 0, .inr (8, [.ref (bd 1), .ref (bd 2), .ref (bd 3), .ref (bd 4), .ref (bd 5), .ref (bd 6), .ref (bd 7), .int (iI (cn + 1)), .ref (bd 8), .int (iI (mp)), .ref (bd 9), .int (iI (ty)), .int (iI (th)), .ref (bd 10), .ref (bd 11), .int (iI (sp)), .int (iI (ta)), .int (iI (ke)), .int (iI (on)), .int (iI (tw))])), (bd 1, .inl (cZ, 80, .inl (iA (Ir)))), (bd 2, .inl (cI, 160, .inl (iA (Vm)))), (bd 7, .inl (cI, 16384, .inl (iA (uI Lm cn (pkM 1 r 0 (Vm (2 * r)) (Vm (2 * r + 1)))))))] H := hP
  have hD : va_D AA [(bd 0, .inr (8, [.ref (bd 1), .ref (bd 2), .ref (bd 3), .ref (bd 4), .ref (bd 5), .ref (bd 6), .ref (bd 7), .int (iI (cn + 1)), .ref (bd 8), .int (iI (mp)), .ref (bd 9), .int (iI (ty)), .int (iI (th)), .ref (bd 10), .ref (bd 11), .int (iI (sp)), .int (iI (ta)), .int (iI (ke)), .int (iI (on)), .int (iI (tw))])), (bd 1, .inl (cZ, 80, .inl (iA (Ir)))), (bd 2, .inl (cI, 160, .inl (iA (Vm)))), (bd 7, .inl (cI, 16384, .inl (iA (uI Lm cn (pkM 1 r 0 (Vm (2 * r)) (Vm (2 * r + 1)))))))] := hD
  try dsimp only at hq_1
  refine lv_aload_n hx hb dX8_removes_7 rfl (lv_at hl 0 rfl) ?_
  refine va_get (D := D) (ci := 8) (v := .ref (bd 1)) (C := RX8) (T := TX8) (N := 20) hx hb hts (fun _ h => List.mem_cons_of_mem _ (List.mem_append_right _ (h))) hown hK.1 hP 0 rfl rfl 0 (by decide) (hts (.fieldLink RX8 7 "ForeignKeyStoreModel" "isRow" "[Z") (List.mem_of_getElem? (i := 1) rfl)) (fun _ h9 => h9) rfl dX8_removes_8 ?_
  refine lv_iload_n hx hb dX8_removes_11 rfl (lv_at hl 1 rfl) ?_
  refine lv_iconst (v := iI (0)) hx hb dX8_removes_12 rfl ?_
  refine z_zast hx hb hK.1 hP hD hS 1 1 rfl rfl (by omega) (by decide) (by omega) dX8_removes_13 (fun H locs hP hD hS => ?_)
  have hP : va_P D vwCl [(bd 0, .inr (8, [.ref (bd 1), .ref (bd 2), .ref (bd 3), .ref (bd 4), .ref (bd 5), .ref (bd 6), .ref (bd 7), .int (iI (cn + 1)), .ref (bd 8), .int (iI (mp)), .ref (bd 9), .int (iI (ty)), .int (iI (th)), .ref (bd 10), .ref (bd 11), .int (iI (sp)), .int (iI (ta)), .int (iI (ke)), .int (iI (on)), .int (iI (tw))])), (bd 1, .inl (cZ, 80, .inl (iA (uI (Ir) (r) (0))))), (bd 2, .inl (cI, 160, .inl (iA (Vm)))), (bd 7, .inl (cI, 16384, .inl (iA (uI Lm cn (pkM 1 r 0 (Vm (2 * r)) (Vm (2 * r + 1)))))))] H := hP
  have hD : va_D AA [(bd 0, .inr (8, [.ref (bd 1), .ref (bd 2), .ref (bd 3), .ref (bd 4), .ref (bd 5), .ref (bd 6), .ref (bd 7), .int (iI (cn + 1)), .ref (bd 8), .int (iI (mp)), .ref (bd 9), .int (iI (ty)), .int (iI (th)), .ref (bd 10), .ref (bd 11), .int (iI (sp)), .int (iI (ta)), .int (iI (ke)), .int (iI (on)), .int (iI (tw))])), (bd 1, .inl (cZ, 80, .inl (iA (uI (Ir) (r) (0))))), (bd 2, .inl (cI, 160, .inl (iA (Vm)))), (bd 7, .inl (cI, 16384, .inl (iA (uI Lm cn (pkM 1 r 0 (Vm (2 * r)) (Vm (2 * r + 1)))))))] := hD
  refine z_vret (()) hx hb hr hlocks dX8_removes_14 hP hD hS ?_
  exact trivial

set_option maxHeartbeats 600000 in
set_option maxRecDepth 100000 in
theorem c_X8_undoes (l : Launch) (D : va_G) (cI cZ cC : ClassId) (sz : Nat) (bd : Nat → Nat) (cn mp ty th sp ta ke on tw : Int) (Ir Vm Lm V : Int → Int) (lg : Lg) (lf : Int) (g_R : rV Ir Vm V) (g_M : isM lg Lm cn) (g_cn : cn ≤ 16384) (g_lf : 0 ≤ lf ∧ lf < 2147483648) : zMi l yX8_undoes wsX8_undoes ({ frames := 0, cells := 0, slots := 0, locals := 0 }) D cI cZ cC [(bd 0, .inr (8, [.ref (bd 1), .ref (bd 2), .ref (bd 3), .ref (bd 4), .ref (bd 5), .ref (bd 6), .ref (bd 7), .int (iI (cn)), .ref (bd 8), .int (iI (mp)), .ref (bd 9), .int (iI (ty)), .int (iI (th)), .ref (bd 10), .ref (bd 11), .int (iI (sp)), .int (iI (ta)), .int (iI (ke)), .int (iI (on)), .int (iI (tw))])), (bd 1, .inl (cZ, 80, .inl (iA (Ir)))), (bd 2, .inl (cI, 160, .inl (iA (Vm)))), (bd 7, .inl (cI, 16384, .inl (iA (Lm))))] sz [.ref (bd 0), .int (iI (lf))] (0) (0) (fun (u : (Int → Int) × (Int → Int)) => [(bd 0, .inr (8, [.ref (bd 1), .ref (bd 2), .ref (bd 3), .ref (bd 4), .ref (bd 5), .ref (bd 6), .ref (bd 7), .int (iI (cn - (unS cn lf : Int))), .ref (bd 8), .int (iI (mp)), .ref (bd 9), .int (iI (ty)), .int (iI (th)), .ref (bd 10), .ref (bd 11), .int (iI (sp)), .int (iI (ta)), .int (iI (ke)), .int (iI (on)), .int (iI (tw))])), (bd 1, .inl (cZ, 80, .inl (iA (u.1)))), (bd 2, .inl (cI, 160, .inl (iA (u.2)))), (bd 7, .inl (cI, 16384, .inl (iA (Lm))))]) (fun v (u : (Int → Int) × (Int → Int)) => v = (unS cn lf : Int) ∧ rV u.1 u.2 (unL (unS cn lf) V lg).1 ∧ isM (unL (unS cn lf) V lg).2 Lm (cn - (unS cn lf : Int))) := by
  refine z_ofMi (cc := cX8_undoes) (maxL := 6) (ret := (some .int)) RX8 (by decide +kernel) rfl rfl (Nat.le_of_ble_eq_true rfl) ?_
  intro p0 en0 s0 m0 args0 below0 meth0 c0 ls AA hx hb hr hlocks hml hown hts hP hD hS hA hK hl
  have hl : lv_has ls 6 [(0, .ref (bd 0)), (1, .int (iI (lf)))] := hl
  obtain ⟨H, hH⟩ : ∃ H, H = s0.heap := ⟨_, rfl⟩
  obtain ⟨locs, hlo⟩ : ∃ locs : List Loc, locs = [] := ⟨_, rfl⟩
  have hP : va_P D vwCl [(bd 0, .inr (8, [.ref (bd 1), .ref (bd 2), .ref (bd 3), .ref (bd 4), .ref (bd 5), .ref (bd 6), .ref (bd 7), .int (iI (cn)), .ref (bd 8), .int (iI (mp)), .ref (bd 9), .int (iI (ty)), .int (iI (th)), .ref (bd 10), .ref (bd 11), .int (iI (sp)), .int (iI (ta)), .int (iI (ke)), .int (iI (on)), .int (iI (tw))])), (bd 1, .inl (cZ, 80, .inl (iA (Ir)))), (bd 2, .inl (cI, 160, .inl (iA (Vm)))), (bd 7, .inl (cI, 16384, .inl (iA (Lm))))] H := by rw [hH]; exact hP
  have hS : va_S AA s0.heap H locs := by rw [hH, hlo]; exact hS
  suffices hW : W p0 l en0 (headSpec wsX8_undoes ({ frames := 0, cells := 0, slots := 0, locals := 0 })).room s0 m0 args0 below0 meth0 c0 H locs 0 0 (QMi below0 D ((fun (u : (Int → Int) × (Int → Int)) => [(bd 0, .inr (8, [.ref (bd 1), .ref (bd 2), .ref (bd 3), .ref (bd 4), .ref (bd 5), .ref (bd 6), .ref (bd 7), .int (iI (cn - (unS cn lf : Int))), .ref (bd 8), .int (iI (mp)), .ref (bd 9), .int (iI (ty)), .int (iI (th)), .ref (bd 10), .ref (bd 11), .int (iI (sp)), .int (iI (ta)), .int (iI (ke)), .int (iI (on)), .int (iI (tw))])), (bd 1, .inl (cZ, 80, .inl (iA (u.1)))), (bd 2, .inl (cI, 160, .inl (iA (u.2)))), (bd 7, .inl (cI, 16384, .inl (iA (Lm))))])) (fun v (u : (Int → Int) × (Int → Int)) => v = (unS cn lf : Int) ∧ rV u.1 u.2 (unL (unS cn lf) V lg).1 ∧ isM (unL (unS cn lf) V lg).2 Lm (cn - (unS cn lf : Int))) AA args0 s0 (0) (0)) (F0 m0 0 ls []) by rw [hH, hlo] at hW; exact hW
  have g_u : unS cn lf = (cn - lf).toNat := rfl
  have g_nn := isM_n g_M
  refine lv_iconst (v := iI (0)) hx hb dX8_undoes_0 rfl ?_
  refine lv_istore_n (lv' := [(2, .int (iI (0))), (0, .ref (bd 0)), (1, .int (iI (lf)))]) hx hb dX8_undoes_1 rfl hl (by decide) rfl (fun ls hl => ?_)
  have loop2 : ∀ (fu : Nat) (i : Nat) (mx : Int) (Irx Vmx Vx : Int → Int) (lgx : Lg), (g_i : i ≤ unS cn lf) → (g_fu : unS cn lf < i + fu) → (g_m : mx = cn - (i : Int)) → (g_Rx : rV Irx Vmx Vx) → (g_Mx : isM lgx Lm mx) → (g_c : unL (unS cn lf) V lg = unL (unS cn lf - i) Vx lgx) → ∀ (H : Heap) (locs : List Loc), va_P D vwCl [(bd 0, .inr (8, [.ref (bd 1), .ref (bd 2), .ref (bd 3), .ref (bd 4), .ref (bd 5), .ref (bd 6), .ref (bd 7), .int (iI (mx)), .ref (bd 8), .int (iI (mp)), .ref (bd 9), .int (iI (ty)), .int (iI (th)), .ref (bd 10), .ref (bd 11), .int (iI (sp)), .int (iI (ta)), .int (iI (ke)), .int (iI (on)), .int (iI (tw))])), (bd 1, .inl (cZ, 80, .inl (iA (Irx)))), (bd 2, .inl (cI, 160, .inl (iA (Vmx)))), (bd 7, .inl (cI, 16384, .inl (iA (Lm))))] H → va_D AA [(bd 0, .inr (8, [.ref (bd 1), .ref (bd 2), .ref (bd 3), .ref (bd 4), .ref (bd 5), .ref (bd 6), .ref (bd 7), .int (iI (mx)), .ref (bd 8), .int (iI (mp)), .ref (bd 9), .int (iI (ty)), .int (iI (th)), .ref (bd 10), .ref (bd 11), .int (iI (sp)), .int (iI (ta)), .int (iI (ke)), .int (iI (on)), .int (iI (tw))])), (bd 1, .inl (cZ, 80, .inl (iA (Irx)))), (bd 2, .inl (cI, 160, .inl (iA (Vmx)))), (bd 7, .inl (cI, 16384, .inl (iA (Lm))))] → va_S AA s0.heap H locs → ∀ ls : Array Slot, lv_has ls 6 [(2, .int (iI ((i : Int)))), (0, .ref (bd 0)), (1, .int (iI (lf)))] → W p0 l en0 (headSpec wsX8_undoes ({ frames := 0, cells := 0, slots := 0, locals := 0 })).room s0 m0 args0 below0 meth0 c0 H locs 0 0 (QMi below0 D ((fun (u : (Int → Int) × (Int → Int)) => [(bd 0, .inr (8, [.ref (bd 1), .ref (bd 2), .ref (bd 3), .ref (bd 4), .ref (bd 5), .ref (bd 6), .ref (bd 7), .int (iI (cn - (unS cn lf : Int))), .ref (bd 8), .int (iI (mp)), .ref (bd 9), .int (iI (ty)), .int (iI (th)), .ref (bd 10), .ref (bd 11), .int (iI (sp)), .int (iI (ta)), .int (iI (ke)), .int (iI (on)), .int (iI (tw))])), (bd 1, .inl (cZ, 80, .inl (iA (u.1)))), (bd 2, .inl (cI, 160, .inl (iA (u.2)))), (bd 7, .inl (cI, 16384, .inl (iA (Lm))))])) (fun v (u : (Int → Int) × (Int → Int)) => v = (unS cn lf : Int) ∧ rV u.1 u.2 (unL (unS cn lf) V lg).1 ∧ isM (unL (unS cn lf) V lg).2 Lm (cn - (unS cn lf : Int))) AA args0 s0 (0) (0)) (F0 m0 2 ls []) := by
    intro fu
    induction fu with
    | zero => intro i mx Irx Vmx Vx lgx g_i g_fu g_m g_Rx g_Mx g_c H locs hP hD hS ls hl; exfalso; omega
    | succ fu ih2 =>
      intro i mx Irx Vmx Vx lgx g_i g_fu g_m g_Rx g_Mx g_c H locs hP hD hS ls hl
      have h_n := isM_n g_Mx
      refine lv_aload_n hx hb dX8_undoes_2 rfl (lv_at hl 1 rfl) ?_
      refine va_get (D := D) (ci := 8) (v := .int (iI (mx))) (C := RX8) (T := TX8) (N := 20) hx hb hts (fun _ h => List.mem_cons_of_mem _ (List.mem_append_right _ (h))) hown hK.1 hP 0 rfl rfl 7 (by decide) (hts (.fieldLink RX8 67 "ForeignKeyStoreModel" "changes" "I") (List.mem_of_getElem? (i := 1) rfl)) (fun _ h9 => h9) rfl dX8_undoes_3 ?_
      refine lv_iload_n hx hb dX8_undoes_6 rfl (lv_at hl 2 rfl) ?_
      refine z_icmp_le (tgt := 108) hx hb dX8_undoes_7 (by decide) ⟨⟨by omega, by omega⟩, ⟨by omega, by omega⟩⟩ (fun c_1 => ?_) (fun c_1 => ?_)
      · refine lv_iload_n hx hb dX8_undoes_108 rfl (lv_at hl 0 rfl) ?_
        have hz2 : mx = cn - (unS cn lf : Int) := by omega
        rw [hz2] at hP hD
        refine z_mret ((Irx, Vmx)) hx hb hr hlocks dX8_undoes_109 hP hD hS ?_
        have hz : i = unS cn lf := by omega
        rw [hz, Nat.sub_self, unL] at g_c
        exact ⟨by omega, by rw [g_c]; exact g_Rx, by rw [g_c, show cn - (unS cn lf : Int) = mx by omega]; exact g_Mx⟩
      · have h_lt : i < unS cn lf := by omega
        obtain ⟨e9, lg9, h_lg⟩ : ∃ e9 lg9, lgx = e9 :: lg9 := by
          cases lgx with
          | nil => simp at h_n; omega
          | cons a b => exact ⟨a, b, rfl⟩
        subst h_lg
        obtain ⟨g_E9, g_M9⟩ := g_Mx
        obtain ⟨h_e1, h_e2, h_e3, h_e4⟩ := g_E9
        refine lv_aload_n hx hb dX8_undoes_10 rfl (lv_at hl 1 rfl) ?_
        refine lv_dup hx hb dX8_undoes_11 rfl ?_
        refine va_get (D := D) (ci := 8) (v := .int (iI (mx))) (C := RX8) (T := TX8) (N := 20) hx hb hts (fun _ h => List.mem_cons_of_mem _ (List.mem_append_right _ (h))) hown hK.1 hP 0 rfl rfl 7 (by decide) (hts (.fieldLink RX8 67 "ForeignKeyStoreModel" "changes" "I") (List.mem_of_getElem? (i := 1) rfl)) (fun _ h9 => h9) rfl dX8_undoes_12 ?_
        refine lv_iconst (v := iI (1)) hx hb dX8_undoes_15 rfl ?_
        refine z_isub hx hb dX8_undoes_16 ?_
        refine va_put (D := D) (ci := 8) (v := .int (iI ((mx - 1)))) (ty := .int) (C := RX8) (T := TX8) (N := 20) hx hb hts (fun _ h => List.mem_cons_of_mem _ (List.mem_append_right _ (h))) tyX8 tyX8_ok nmX8 hown hK.1 hP hD hS 0 rfl rfl 7 (by decide) (hts (.fieldLink RX8 67 "ForeignKeyStoreModel" "changes" "I") (List.mem_of_getElem? (i := 1) rfl)) (fun _ h9 => h9) rfl (by decide +kernel) rfl rfl (Nat.le_of_ble_eq_true rfl) dX8_undoes_17 (fun H locs hP hD hS => ?_)
        have hP : va_P D vwCl [(bd 0, .inr (8, [.ref (bd 1), .ref (bd 2), .ref (bd 3), .ref (bd 4), .ref (bd 5), .ref (bd 6), .ref (bd 7), .int (iI ((mx - 1))), .ref (bd 8), .int (iI (mp)), .ref (bd 9), .int (iI (ty)), .int (iI (th)), .ref (bd 10), .ref (bd 11), .int (iI (sp)), .int (iI (ta)), .int (iI (ke)), .int (iI (on)), .int (iI (tw))])), (bd 1, .inl (cZ, 80, .inl (iA (Irx)))), (bd 2, .inl (cI, 160, .inl (iA (Vmx)))), (bd 7, .inl (cI, 16384, .inl (iA (Lm))))] H := hP
        have hD : va_D AA [(bd 0, .inr (8, [.ref (bd 1), .ref (bd 2), .ref (bd 3), .ref (bd 4), .ref (bd 5), .ref (bd 6), .ref (bd 7), .int (iI ((mx - 1))), .ref (bd 8), .int (iI (mp)), .ref (bd 9), .int (iI (ty)), .int (iI (th)), .ref (bd 10), .ref (bd 11), .int (iI (sp)), .int (iI (ta)), .int (iI (ke)), .int (iI (on)), .int (iI (tw))])), (bd 1, .inl (cZ, 80, .inl (iA (Irx)))), (bd 2, .inl (cI, 160, .inl (iA (Vmx)))), (bd 7, .inl (cI, 16384, .inl (iA (Lm))))] := hD
        refine lv_iinc (v := iI ((i : Int) + 1)) (lv' := [(2, .int (iI ((i : Int) + 1))), (0, .ref (bd 0)), (1, .int (iI (lf)))]) hx hb dX8_undoes_20 hl (k := 0) rfl (iI_add ((i : Int)) (1)) (by decide) rfl (fun ls hl => ?_)
        refine lv_aload_n hx hb dX8_undoes_23 rfl (lv_at hl 1 rfl) ?_
        refine va_get (D := D) (ci := 8) (v := .ref (bd 7)) (C := RX8) (T := TX8) (N := 20) hx hb hts (fun _ h => List.mem_cons_of_mem _ (List.mem_append_right _ (h))) hown hK.1 hP 0 rfl rfl 6 (by decide) (hts (.fieldLink RX8 29 "ForeignKeyStoreModel" "list" "[I") (List.mem_of_getElem? (i := 2) rfl)) (fun _ h9 => h9) rfl dX8_undoes_24 ?_
        refine lv_aload_n hx hb dX8_undoes_27 rfl (lv_at hl 1 rfl) ?_
        refine va_get (D := D) (ci := 8) (v := .int (iI ((mx - 1)))) (C := RX8) (T := TX8) (N := 20) hx hb hts (fun _ h => List.mem_cons_of_mem _ (List.mem_append_right _ (h))) hown hK.1 hP 0 rfl rfl 7 (by decide) (hts (.fieldLink RX8 67 "ForeignKeyStoreModel" "changes" "I") (List.mem_of_getElem? (i := 1) rfl)) (fun _ h9 => h9) rfl dX8_undoes_28 ?_
        refine z_iald hx hb hK.1 hP 3 0 rfl rfl (by omega) (by decide) dX8_undoes_31 ?_
        refine lv_istore_n (lv' := [(3, .int (iI ((Lm ((mx - 1)))))), (2, .int (iI ((i : Int) + 1))), (0, .ref (bd 0)), (1, .int (iI (lf)))]) hx hb dX8_undoes_32 rfl hl (by decide) rfl (fun ls hl => ?_)
        refine lv_iload_n hx hb dX8_undoes_33 rfl (lv_at hl 0 rfl) ?_
        refine lv_sipush (v := iI (882)) hx hb dX8_undoes_34 (by decide) ?_
        refine z_idiv hx hb dX8_undoes_37 (by omega) (by omega) ?_
        refine lv_bipush (v := iI (80)) hx hb dX8_undoes_38 (by decide) ?_
        refine z_irem hx hb dX8_undoes_40 (by omega) (by omega) ?_
        refine lv_istore (lv' := [(4, .int (iI ((((Lm ((mx - 1))) / 882) % 80)))), (3, .int (iI ((Lm ((mx - 1)))))), (2, .int (iI ((i : Int) + 1))), (0, .ref (bd 0)), (1, .int (iI (lf)))]) hx hb dX8_undoes_41 hl (by decide) rfl (fun ls hl => ?_)
        refine lv_iload_n hx hb dX8_undoes_43 rfl (lv_at hl 1 rfl) ?_
        refine lv_sipush (v := iI (882)) hx hb dX8_undoes_44 (by decide) ?_
        refine z_idiv hx hb dX8_undoes_47 (by omega) (by omega) ?_
        refine lv_bipush (v := iI (80)) hx hb dX8_undoes_48 (by decide) ?_
        refine z_idiv hx hb dX8_undoes_50 (by omega) (by omega) ?_
        refine lv_istore (lv' := [(5, .int (iI ((((Lm ((mx - 1))) / 882) / 80)))), (4, .int (iI ((((Lm ((mx - 1))) / 882) % 80)))), (3, .int (iI ((Lm ((mx - 1)))))), (2, .int (iI ((i : Int) + 1))), (0, .ref (bd 0)), (1, .int (iI (lf)))]) hx hb dX8_undoes_51 hl (by decide) rfl (fun ls hl => ?_)
        refine lv_aload_n hx hb dX8_undoes_53 rfl (lv_at hl 4 rfl) ?_
        refine va_get (D := D) (ci := 8) (v := .ref (bd 1)) (C := RX8) (T := TX8) (N := 20) hx hb hts (fun _ h => List.mem_cons_of_mem _ (List.mem_append_right _ (h))) hown hK.1 hP 0 rfl rfl 0 (by decide) (hts (.fieldLink RX8 7 "ForeignKeyStoreModel" "isRow" "[Z") (List.mem_of_getElem? (i := 3) rfl)) (fun _ h9 => h9) rfl dX8_undoes_54 ?_
        refine lv_iload hx hb dX8_undoes_57 (lv_at hl 1 rfl) ?_
        refine lv_iload hx hb dX8_undoes_59 (lv_at hl 0 rfl) ?_
        refine z_if_eq (tgt := 68) hx hb dX8_undoes_61 (by decide) ⟨by omega, by omega⟩ (fun c_2 => ?_) (fun c_2 => ?_)
        · refine lv_iconst (v := iI (0)) hx hb dX8_undoes_68 rfl ?_
          refine z_zast hx hb hK.1 hP hD hS 1 1 rfl rfl (by omega) (by decide) (by omega) dX8_undoes_69 (fun H locs hP hD hS => ?_)
          have hP : va_P D vwCl [(bd 0, .inr (8, [.ref (bd 1), .ref (bd 2), .ref (bd 3), .ref (bd 4), .ref (bd 5), .ref (bd 6), .ref (bd 7), .int (iI ((mx - 1))), .ref (bd 8), .int (iI (mp)), .ref (bd 9), .int (iI (ty)), .int (iI (th)), .ref (bd 10), .ref (bd 11), .int (iI (sp)), .int (iI (ta)), .int (iI (ke)), .int (iI (on)), .int (iI (tw))])), (bd 1, .inl (cZ, 80, .inl (iA (uI (Irx) ((((Lm ((mx - 1))) / 882) % 80)) (0))))), (bd 2, .inl (cI, 160, .inl (iA (Vmx)))), (bd 7, .inl (cI, 16384, .inl (iA (Lm))))] H := hP
          have hD : va_D AA [(bd 0, .inr (8, [.ref (bd 1), .ref (bd 2), .ref (bd 3), .ref (bd 4), .ref (bd 5), .ref (bd 6), .ref (bd 7), .int (iI ((mx - 1))), .ref (bd 8), .int (iI (mp)), .ref (bd 9), .int (iI (ty)), .int (iI (th)), .ref (bd 10), .ref (bd 11), .int (iI (sp)), .int (iI (ta)), .int (iI (ke)), .int (iI (on)), .int (iI (tw))])), (bd 1, .inl (cZ, 80, .inl (iA (uI (Irx) ((((Lm ((mx - 1))) / 882) % 80)) (0))))), (bd 2, .inl (cI, 160, .inl (iA (Vmx)))), (bd 7, .inl (cI, 16384, .inl (iA (Lm))))] := hD
          refine lv_aload_n hx hb dX8_undoes_70 rfl (lv_at hl 4 rfl) ?_
          refine va_get (D := D) (ci := 8) (v := .ref (bd 2)) (C := RX8) (T := TX8) (N := 20) hx hb hts (fun _ h => List.mem_cons_of_mem _ (List.mem_append_right _ (h))) hown hK.1 hP 0 rfl rfl 1 (by decide) (hts (.fieldLink RX8 13 "ForeignKeyStoreModel" "values" "[I") (List.mem_of_getElem? (i := 4) rfl)) (fun _ h9 => h9) rfl dX8_undoes_71 ?_
          refine lv_iconst (v := iI (2)) hx hb dX8_undoes_74 rfl ?_
          refine lv_iload hx hb dX8_undoes_75 (lv_at hl 1 rfl) ?_
          refine z_imul hx hb dX8_undoes_77 ?_
          refine lv_iload_n hx hb dX8_undoes_78 rfl (lv_at hl 2 rfl) ?_
          refine lv_bipush (v := iI (21)) hx hb dX8_undoes_79 (by decide) ?_
          refine z_idiv hx hb dX8_undoes_81 (by omega) (by omega) ?_
          refine lv_bipush (v := iI (21)) hx hb dX8_undoes_82 (by decide) ?_
          refine z_irem hx hb dX8_undoes_84 (by omega) (by omega) ?_
          refine lv_iconst (v := iI (1)) hx hb dX8_undoes_85 rfl ?_
          refine z_isub hx hb dX8_undoes_86 ?_
          refine z_iast hx hb hK.1 hP hD hS 2 0 rfl rfl (by omega) (by decide) dX8_undoes_87 (fun H locs hP hD hS => ?_)
          have hP : va_P D vwCl [(bd 0, .inr (8, [.ref (bd 1), .ref (bd 2), .ref (bd 3), .ref (bd 4), .ref (bd 5), .ref (bd 6), .ref (bd 7), .int (iI ((mx - 1))), .ref (bd 8), .int (iI (mp)), .ref (bd 9), .int (iI (ty)), .int (iI (th)), .ref (bd 10), .ref (bd 11), .int (iI (sp)), .int (iI (ta)), .int (iI (ke)), .int (iI (on)), .int (iI (tw))])), (bd 1, .inl (cZ, 80, .inl (iA (uI (Irx) ((((Lm ((mx - 1))) / 882) % 80)) (0))))), (bd 2, .inl (cI, 160, .inl (iA (uI (Vmx) ((2 * (((Lm ((mx - 1))) / 882) % 80))) (((((Lm ((mx - 1))) / 21) % 21) - 1)))))), (bd 7, .inl (cI, 16384, .inl (iA (Lm))))] H := hP
          have hD : va_D AA [(bd 0, .inr (8, [.ref (bd 1), .ref (bd 2), .ref (bd 3), .ref (bd 4), .ref (bd 5), .ref (bd 6), .ref (bd 7), .int (iI ((mx - 1))), .ref (bd 8), .int (iI (mp)), .ref (bd 9), .int (iI (ty)), .int (iI (th)), .ref (bd 10), .ref (bd 11), .int (iI (sp)), .int (iI (ta)), .int (iI (ke)), .int (iI (on)), .int (iI (tw))])), (bd 1, .inl (cZ, 80, .inl (iA (uI (Irx) ((((Lm ((mx - 1))) / 882) % 80)) (0))))), (bd 2, .inl (cI, 160, .inl (iA (uI (Vmx) ((2 * (((Lm ((mx - 1))) / 882) % 80))) (((((Lm ((mx - 1))) / 21) % 21) - 1)))))), (bd 7, .inl (cI, 16384, .inl (iA (Lm))))] := hD
          refine lv_aload_n hx hb dX8_undoes_88 rfl (lv_at hl 4 rfl) ?_
          refine va_get (D := D) (ci := 8) (v := .ref (bd 2)) (C := RX8) (T := TX8) (N := 20) hx hb hts (fun _ h => List.mem_cons_of_mem _ (List.mem_append_right _ (h))) hown hK.1 hP 0 rfl rfl 1 (by decide) (hts (.fieldLink RX8 13 "ForeignKeyStoreModel" "values" "[I") (List.mem_of_getElem? (i := 4) rfl)) (fun _ h9 => h9) rfl dX8_undoes_89 ?_
          refine lv_iconst (v := iI (2)) hx hb dX8_undoes_92 rfl ?_
          refine lv_iload hx hb dX8_undoes_93 (lv_at hl 1 rfl) ?_
          refine z_imul hx hb dX8_undoes_95 ?_
          refine lv_iconst (v := iI (1)) hx hb dX8_undoes_96 rfl ?_
          refine z_iadd hx hb dX8_undoes_97 ?_
          refine lv_iload_n hx hb dX8_undoes_98 rfl (lv_at hl 2 rfl) ?_
          refine lv_bipush (v := iI (21)) hx hb dX8_undoes_99 (by decide) ?_
          refine z_irem hx hb dX8_undoes_101 (by omega) (by omega) ?_
          refine lv_iconst (v := iI (1)) hx hb dX8_undoes_102 rfl ?_
          refine z_isub hx hb dX8_undoes_103 ?_
          refine z_iast hx hb hK.1 hP hD hS 2 0 rfl rfl (by omega) (by decide) dX8_undoes_104 (fun H locs hP hD hS => ?_)
          have hP : va_P D vwCl [(bd 0, .inr (8, [.ref (bd 1), .ref (bd 2), .ref (bd 3), .ref (bd 4), .ref (bd 5), .ref (bd 6), .ref (bd 7), .int (iI ((mx - 1))), .ref (bd 8), .int (iI (mp)), .ref (bd 9), .int (iI (ty)), .int (iI (th)), .ref (bd 10), .ref (bd 11), .int (iI (sp)), .int (iI (ta)), .int (iI (ke)), .int (iI (on)), .int (iI (tw))])), (bd 1, .inl (cZ, 80, .inl (iA (uI (Irx) ((((Lm ((mx - 1))) / 882) % 80)) (0))))), (bd 2, .inl (cI, 160, .inl (iA (uI (uI (Vmx) ((2 * (((Lm ((mx - 1))) / 882) % 80))) (((((Lm ((mx - 1))) / 21) % 21) - 1))) (((2 * (((Lm ((mx - 1))) / 882) % 80)) + 1)) ((((Lm ((mx - 1))) % 21) - 1)))))), (bd 7, .inl (cI, 16384, .inl (iA (Lm))))] H := hP
          have hD : va_D AA [(bd 0, .inr (8, [.ref (bd 1), .ref (bd 2), .ref (bd 3), .ref (bd 4), .ref (bd 5), .ref (bd 6), .ref (bd 7), .int (iI ((mx - 1))), .ref (bd 8), .int (iI (mp)), .ref (bd 9), .int (iI (ty)), .int (iI (th)), .ref (bd 10), .ref (bd 11), .int (iI (sp)), .int (iI (ta)), .int (iI (ke)), .int (iI (on)), .int (iI (tw))])), (bd 1, .inl (cZ, 80, .inl (iA (uI (Irx) ((((Lm ((mx - 1))) / 882) % 80)) (0))))), (bd 2, .inl (cI, 160, .inl (iA (uI (uI (Vmx) ((2 * (((Lm ((mx - 1))) / 882) % 80))) (((((Lm ((mx - 1))) / 21) % 21) - 1))) (((2 * (((Lm ((mx - 1))) / 882) % 80)) + 1)) ((((Lm ((mx - 1))) % 21) - 1)))))), (bd 7, .inl (cI, 16384, .inl (iA (Lm))))] := hD
          refine lv_goto (tgt := 2) hx hb dX8_undoes_105 (by decide) ?_
          have h_rv : rV (uI (Irx) ((((Lm ((mx - 1))) / 882) % 80)) (0)) (uI (uI (Vmx) ((2 * (((Lm ((mx - 1))) / 882) % 80))) (((((Lm ((mx - 1))) / 21) % 21) - 1))) (((2 * (((Lm ((mx - 1))) / 882) % 80)) + 1)) ((((Lm ((mx - 1))) % 21) - 1))) (reE Vx e9) := by
            unfold reE
            rw [← h_e3]
            exact rV_wr g_Rx ⟨by omega, by omega, by omega, by omega⟩ (by omega)
          exact ih2 (i + 1) _ _ _ (reE Vx e9) lg9 (by omega) (by omega) (by omega) h_rv g_M9 (by rw [g_c, show unS cn lf - i = (unS cn lf - (i + 1)) + 1 by omega, unL]) _ _ hP hD hS _ (lv_sub hl [3, 4, 5] rfl)
        · refine lv_iconst (v := iI (1)) hx hb dX8_undoes_64 rfl ?_
          refine lv_goto (tgt := 69) hx hb dX8_undoes_65 (by decide) ?_
          refine z_zast hx hb hK.1 hP hD hS 1 1 rfl rfl (by omega) (by decide) (by omega) dX8_undoes_69 (fun H locs hP hD hS => ?_)
          have hP : va_P D vwCl [(bd 0, .inr (8, [.ref (bd 1), .ref (bd 2), .ref (bd 3), .ref (bd 4), .ref (bd 5), .ref (bd 6), .ref (bd 7), .int (iI ((mx - 1))), .ref (bd 8), .int (iI (mp)), .ref (bd 9), .int (iI (ty)), .int (iI (th)), .ref (bd 10), .ref (bd 11), .int (iI (sp)), .int (iI (ta)), .int (iI (ke)), .int (iI (on)), .int (iI (tw))])), (bd 1, .inl (cZ, 80, .inl (iA (uI (Irx) ((((Lm ((mx - 1))) / 882) % 80)) (1))))), (bd 2, .inl (cI, 160, .inl (iA (Vmx)))), (bd 7, .inl (cI, 16384, .inl (iA (Lm))))] H := hP
          have hD : va_D AA [(bd 0, .inr (8, [.ref (bd 1), .ref (bd 2), .ref (bd 3), .ref (bd 4), .ref (bd 5), .ref (bd 6), .ref (bd 7), .int (iI ((mx - 1))), .ref (bd 8), .int (iI (mp)), .ref (bd 9), .int (iI (ty)), .int (iI (th)), .ref (bd 10), .ref (bd 11), .int (iI (sp)), .int (iI (ta)), .int (iI (ke)), .int (iI (on)), .int (iI (tw))])), (bd 1, .inl (cZ, 80, .inl (iA (uI (Irx) ((((Lm ((mx - 1))) / 882) % 80)) (1))))), (bd 2, .inl (cI, 160, .inl (iA (Vmx)))), (bd 7, .inl (cI, 16384, .inl (iA (Lm))))] := hD
          refine lv_aload_n hx hb dX8_undoes_70 rfl (lv_at hl 4 rfl) ?_
          refine va_get (D := D) (ci := 8) (v := .ref (bd 2)) (C := RX8) (T := TX8) (N := 20) hx hb hts (fun _ h => List.mem_cons_of_mem _ (List.mem_append_right _ (h))) hown hK.1 hP 0 rfl rfl 1 (by decide) (hts (.fieldLink RX8 13 "ForeignKeyStoreModel" "values" "[I") (List.mem_of_getElem? (i := 4) rfl)) (fun _ h9 => h9) rfl dX8_undoes_71 ?_
          refine lv_iconst (v := iI (2)) hx hb dX8_undoes_74 rfl ?_
          refine lv_iload hx hb dX8_undoes_75 (lv_at hl 1 rfl) ?_
          refine z_imul hx hb dX8_undoes_77 ?_
          refine lv_iload_n hx hb dX8_undoes_78 rfl (lv_at hl 2 rfl) ?_
          refine lv_bipush (v := iI (21)) hx hb dX8_undoes_79 (by decide) ?_
          refine z_idiv hx hb dX8_undoes_81 (by omega) (by omega) ?_
          refine lv_bipush (v := iI (21)) hx hb dX8_undoes_82 (by decide) ?_
          refine z_irem hx hb dX8_undoes_84 (by omega) (by omega) ?_
          refine lv_iconst (v := iI (1)) hx hb dX8_undoes_85 rfl ?_
          refine z_isub hx hb dX8_undoes_86 ?_
          refine z_iast hx hb hK.1 hP hD hS 2 0 rfl rfl (by omega) (by decide) dX8_undoes_87 (fun H locs hP hD hS => ?_)
          have hP : va_P D vwCl [(bd 0, .inr (8, [.ref (bd 1), .ref (bd 2), .ref (bd 3), .ref (bd 4), .ref (bd 5), .ref (bd 6), .ref (bd 7), .int (iI ((mx - 1))), .ref (bd 8), .int (iI (mp)), .ref (bd 9), .int (iI (ty)), .int (iI (th)), .ref (bd 10), .ref (bd 11), .int (iI (sp)), .int (iI (ta)), .int (iI (ke)), .int (iI (on)), .int (iI (tw))])), (bd 1, .inl (cZ, 80, .inl (iA (uI (Irx) ((((Lm ((mx - 1))) / 882) % 80)) (1))))), (bd 2, .inl (cI, 160, .inl (iA (uI (Vmx) ((2 * (((Lm ((mx - 1))) / 882) % 80))) (((((Lm ((mx - 1))) / 21) % 21) - 1)))))), (bd 7, .inl (cI, 16384, .inl (iA (Lm))))] H := hP
          have hD : va_D AA [(bd 0, .inr (8, [.ref (bd 1), .ref (bd 2), .ref (bd 3), .ref (bd 4), .ref (bd 5), .ref (bd 6), .ref (bd 7), .int (iI ((mx - 1))), .ref (bd 8), .int (iI (mp)), .ref (bd 9), .int (iI (ty)), .int (iI (th)), .ref (bd 10), .ref (bd 11), .int (iI (sp)), .int (iI (ta)), .int (iI (ke)), .int (iI (on)), .int (iI (tw))])), (bd 1, .inl (cZ, 80, .inl (iA (uI (Irx) ((((Lm ((mx - 1))) / 882) % 80)) (1))))), (bd 2, .inl (cI, 160, .inl (iA (uI (Vmx) ((2 * (((Lm ((mx - 1))) / 882) % 80))) (((((Lm ((mx - 1))) / 21) % 21) - 1)))))), (bd 7, .inl (cI, 16384, .inl (iA (Lm))))] := hD
          refine lv_aload_n hx hb dX8_undoes_88 rfl (lv_at hl 4 rfl) ?_
          refine va_get (D := D) (ci := 8) (v := .ref (bd 2)) (C := RX8) (T := TX8) (N := 20) hx hb hts (fun _ h => List.mem_cons_of_mem _ (List.mem_append_right _ (h))) hown hK.1 hP 0 rfl rfl 1 (by decide) (hts (.fieldLink RX8 13 "ForeignKeyStoreModel" "values" "[I") (List.mem_of_getElem? (i := 4) rfl)) (fun _ h9 => h9) rfl dX8_undoes_89 ?_
          refine lv_iconst (v := iI (2)) hx hb dX8_undoes_92 rfl ?_
          refine lv_iload hx hb dX8_undoes_93 (lv_at hl 1 rfl) ?_
          refine z_imul hx hb dX8_undoes_95 ?_
          refine lv_iconst (v := iI (1)) hx hb dX8_undoes_96 rfl ?_
          refine z_iadd hx hb dX8_undoes_97 ?_
          refine lv_iload_n hx hb dX8_undoes_98 rfl (lv_at hl 2 rfl) ?_
          refine lv_bipush (v := iI (21)) hx hb dX8_undoes_99 (by decide) ?_
          refine z_irem hx hb dX8_undoes_101 (by omega) (by omega) ?_
          refine lv_iconst (v := iI (1)) hx hb dX8_undoes_102 rfl ?_
          refine z_isub hx hb dX8_undoes_103 ?_
          refine z_iast hx hb hK.1 hP hD hS 2 0 rfl rfl (by omega) (by decide) dX8_undoes_104 (fun H locs hP hD hS => ?_)
          have hP : va_P D vwCl [(bd 0, .inr (8, [.ref (bd 1), .ref (bd 2), .ref (bd 3), .ref (bd 4), .ref (bd 5), .ref (bd 6), .ref (bd 7), .int (iI ((mx - 1))), .ref (bd 8), .int (iI (mp)), .ref (bd 9), .int (iI (ty)), .int (iI (th)), .ref (bd 10), .ref (bd 11), .int (iI (sp)), .int (iI (ta)), .int (iI (ke)), .int (iI (on)), .int (iI (tw))])), (bd 1, .inl (cZ, 80, .inl (iA (uI (Irx) ((((Lm ((mx - 1))) / 882) % 80)) (1))))), (bd 2, .inl (cI, 160, .inl (iA (uI (uI (Vmx) ((2 * (((Lm ((mx - 1))) / 882) % 80))) (((((Lm ((mx - 1))) / 21) % 21) - 1))) (((2 * (((Lm ((mx - 1))) / 882) % 80)) + 1)) ((((Lm ((mx - 1))) % 21) - 1)))))), (bd 7, .inl (cI, 16384, .inl (iA (Lm))))] H := hP
          have hD : va_D AA [(bd 0, .inr (8, [.ref (bd 1), .ref (bd 2), .ref (bd 3), .ref (bd 4), .ref (bd 5), .ref (bd 6), .ref (bd 7), .int (iI ((mx - 1))), .ref (bd 8), .int (iI (mp)), .ref (bd 9), .int (iI (ty)), .int (iI (th)), .ref (bd 10), .ref (bd 11), .int (iI (sp)), .int (iI (ta)), .int (iI (ke)), .int (iI (on)), .int (iI (tw))])), (bd 1, .inl (cZ, 80, .inl (iA (uI (Irx) ((((Lm ((mx - 1))) / 882) % 80)) (1))))), (bd 2, .inl (cI, 160, .inl (iA (uI (uI (Vmx) ((2 * (((Lm ((mx - 1))) / 882) % 80))) (((((Lm ((mx - 1))) / 21) % 21) - 1))) (((2 * (((Lm ((mx - 1))) / 882) % 80)) + 1)) ((((Lm ((mx - 1))) % 21) - 1)))))), (bd 7, .inl (cI, 16384, .inl (iA (Lm))))] := hD
          refine lv_goto (tgt := 2) hx hb dX8_undoes_105 (by decide) ?_
          have h_rv : rV (uI (Irx) ((((Lm ((mx - 1))) / 882) % 80)) (1)) (uI (uI (Vmx) ((2 * (((Lm ((mx - 1))) / 882) % 80))) (((((Lm ((mx - 1))) / 21) % 21) - 1))) (((2 * (((Lm ((mx - 1))) / 882) % 80)) + 1)) ((((Lm ((mx - 1))) % 21) - 1))) (reE Vx e9) := by
            unfold reE
            rw [← h_e3]
            exact rV_wr g_Rx ⟨by omega, by omega, by omega, by omega⟩ (by omega)
          exact ih2 (i + 1) _ _ _ (reE Vx e9) lg9 (by omega) (by omega) (by omega) h_rv g_M9 (by rw [g_c, show unS cn lf - i = (unS cn lf - (i + 1)) + 1 by omega, unL]) _ _ hP hD hS _ (lv_sub hl [3, 4, 5] rfl)
  exact loop2 (unS cn lf + 1) 0 _ _ _ V lg (by omega) (by omega) (by omega) g_R g_M rfl _ _ hP hD hS _ (lv_sub hl [0, 1, 2] rfl)

