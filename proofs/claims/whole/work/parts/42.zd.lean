/-- whether the command that was read can be executed, in the model's words -/
def canM (Ir : Int → Int) (mp tq ta ke on : Int) : Prop := (tq = 105 → Ir (20 * ta + ke) = 0) ∧ (tq = 117 ∨ tq = 100 → Ir (20 * ta + ke) = 1) ∧ (tq = 115 → mp < 4) ∧ (tq = 98 → on < mp)

set_option maxHeartbeats 600000 in
set_option maxRecDepth 100000 in
theorem c_X8_can (l : Launch) (D : va_G) (cI cZ cC : ClassId) (bd : Nat → Nat) (cn mp ty th sp ta ke on tw : Int) (Ir : Int → Int) (tq : Int) (g_Ir : ∀ j : Int, 0 ≤ j → j < 80 → Ir j = 0 ∨ Ir j = 1) (g_tq : 0 ≤ tq ∧ tq < 128) (g_r : tq = 105 ∨ tq = 117 ∨ tq = 100 → 0 ≤ 20 * ta + ke ∧ 20 * ta + ke < 80) (g_on : tq = 98 → -2147483648 ≤ on ∧ on < 2147483648) (g_mp : 0 ≤ mp ∧ mp ≤ 4) : zRo l yX8_can wsX8_can ({ frames := 1, cells := 0, slots := 0, locals := 21 }) D cI cZ cC [(bd 0, .inr (8, [.ref (bd 1), .ref (bd 2), .ref (bd 3), .ref (bd 4), .ref (bd 5), .ref (bd 6), .ref (bd 7), .int (iI (cn)), .ref (bd 8), .int (iI (mp)), .ref (bd 9), .int (iI (ty)), .int (iI (th)), .ref (bd 10), .ref (bd 11), .int (iI (sp)), .int (iI (ta)), .int (iI (ke)), .int (iI (on)), .int (iI (tw))])), (bd 1, .inl (cZ, 80, .inl (iA (Ir))))] [.ref (bd 0), .int (iI (tq))] (bI (canM Ir mp tq ta ke on)) := by
  refine z_ofRo (cc := cX8_can) (maxL := 2) (ret := (some .boolean)) RX8 (by decide +kernel) rfl rfl (Nat.le_of_ble_eq_true rfl) ?_
  intro p0 en0 s0 m0 args0 below0 meth0 c0 ls hx hb hr hlocks hml hown hts hP hK hl
  have hl : lv_has ls 2 [(0, .ref (bd 0)), (1, .int (iI (tq)))] := hl
  refine lv_iload_n hx hb dX8_can_0 rfl (lv_at hl 1 rfl) ?_
  by_cases k_1 : tq = 98
  · refine lv_lookup (off := 107) (tgt := 108) hx hb dX8_can_1 (by decide) (by rw [iI_toInt ⟨by omega, by omega⟩, k_1]; rfl) (by decide) ?_
    refine lv_aload_n hx hb dX8_can_108 rfl (lv_at hl 0 rfl) ?_
    refine va_get (D := D) (ci := 8) (v := .int (iI (on))) (C := RX8) (T := TX8) (N := 20) hx hb hts (fun _ h => List.mem_cons_of_mem _ (List.mem_append_right _ (h))) hown hK.1 hP 0 rfl rfl 18 (by decide) (hts (.fieldLink RX8 173 "ForeignKeyStoreModel" "one" "I") (List.mem_of_getElem? (i := 5) rfl)) (fun _ h9 => h9) rfl dX8_can_109 ?_
    refine lv_aload_n hx hb dX8_can_112 rfl (lv_at hl 0 rfl) ?_
    refine va_get (D := D) (ci := 8) (v := .int (iI (mp))) (C := RX8) (T := TX8) (N := 20) hx hb hts (fun _ h => List.mem_cons_of_mem _ (List.mem_append_right _ (h))) hown hK.1 hP 0 rfl rfl 9 (by decide) (hts (.fieldLink RX8 136 "ForeignKeyStoreModel" "manyPoints" "I") (List.mem_of_getElem? (i := 4) rfl)) (fun _ h9 => h9) rfl dX8_can_113 ?_
    refine z_icmp_ge (tgt := 123) hx hb dX8_can_116 (by decide) ⟨⟨by omega, by omega⟩, ⟨by omega, by omega⟩⟩ (fun c_2 => ?_) (fun c_2 => ?_)
    · refine lv_iconst (v := iI (0)) hx hb dX8_can_123 rfl ?_
      refine z_rretZ hx hb hr hlocks dX8_can_124 (by omega) ?_
      refine (bI_f ?_).symm
      unfold canM; first | (rw [bI_t (by omega)]; done) | (rw [bI_f (by omega)]; done) | (rcases g_Ir (20 * ta + ke) (by omega) (by omega) with h | h <;> rw [h] <;> first | (rw [bI_t (by omega)]; done) | (rw [bI_f (by omega)]; done)) | omega
    · refine lv_iconst (v := iI (1)) hx hb dX8_can_119 rfl ?_
      refine lv_goto (tgt := 124) hx hb dX8_can_120 (by decide) ?_
      refine z_rretZ hx hb hr hlocks dX8_can_124 (by omega) ?_
      refine (bI_t ?_).symm
      unfold canM; first | (rw [bI_t (by omega)]; done) | (rw [bI_f (by omega)]; done) | (rcases g_Ir (20 * ta + ke) (by omega) (by omega) with h | h <;> rw [h] <;> first | (rw [bI_t (by omega)]; done) | (rw [bI_f (by omega)]; done)) | omega
  by_cases k_3 : tq = 100
  · refine lv_lookup (off := 76) (tgt := 77) hx hb dX8_can_1 (by decide) (by rw [iI_toInt ⟨by omega, by omega⟩, k_3]; rfl) (by decide) ?_
    refine lv_aload_n hx hb dX8_can_77 rfl (lv_at hl 0 rfl) ?_
    refine va_get (D := D) (ci := 8) (v := .ref (bd 1)) (C := RX8) (T := TX8) (N := 20) hx hb hts (fun _ h => List.mem_cons_of_mem _ (List.mem_append_right _ (h))) hown hK.1 hP 0 rfl rfl 0 (by decide) (hts (.fieldLink RX8 7 "ForeignKeyStoreModel" "isRow" "[Z") (List.mem_of_getElem? (i := 1) rfl)) (fun _ h9 => h9) rfl dX8_can_78 ?_
    refine lv_aload_n hx hb dX8_can_81 rfl (lv_at hl 0 rfl) ?_
    refine va_get (D := D) (ci := 8) (v := .int (iI (ta))) (C := RX8) (T := TX8) (N := 20) hx hb hts (fun _ h => List.mem_cons_of_mem _ (List.mem_append_right _ (h))) hown hK.1 hP 0 rfl rfl 16 (by decide) (hts (.fieldLink RX8 160 "ForeignKeyStoreModel" "table" "I") (List.mem_of_getElem? (i := 2) rfl)) (fun _ h9 => h9) rfl dX8_can_82 ?_
    refine lv_aload_n hx hb dX8_can_85 rfl (lv_at hl 0 rfl) ?_
    refine va_get (D := D) (ci := 8) (v := .int (iI (ke))) (C := RX8) (T := TX8) (N := 20) hx hb hts (fun _ h => List.mem_cons_of_mem _ (List.mem_append_right _ (h))) hown hK.1 hP 0 rfl rfl 17 (by decide) (hts (.fieldLink RX8 163 "ForeignKeyStoreModel" "key" "I") (List.mem_of_getElem? (i := 3) rfl)) (fun _ h9 => h9) rfl dX8_can_86 ?_
    refine z_roS (As := [.int (iI (ta)), .int (iI (ke))]) (rest := [.ref (bd 1)]) ⟨hx, hb, hml, hown, hts⟩ (c_X8_row l D cI cZ cC (ta) (ke) ) (va_cwS 2 hts gX8_can_X8_row rfl rfl rfl (by decide +kernel) ⟨Nat.le_of_ble_eq_true rfl, Nat.le_of_ble_eq_true rfl⟩) hP hK [] rfl rfl hl.1 rfl (Nat.le_of_ble_eq_true rfl) dX8_can_89 ⟨by omega, by omega⟩ ?_
    refine z_zald hx hb hK.1 hP 1 1 rfl rfl (by omega) (by decide) dX8_can_92 ?_
    have hb_4 := g_Ir ((20 * ta + ke)) (by omega) (by omega)
    refine z_rretZ hx hb hr hlocks dX8_can_93 (by omega) ?_
    unfold canM; first | (rw [bI_t (by omega)]; done) | (rw [bI_f (by omega)]; done) | (rcases g_Ir (20 * ta + ke) (by omega) (by omega) with h | h <;> rw [h] <;> first | (rw [bI_t (by omega)]; done) | (rw [bI_f (by omega)]; done)) | omega
  by_cases k_5 : tq = 105
  · refine lv_lookup (off := 51) (tgt := 52) hx hb dX8_can_1 (by decide) (by rw [iI_toInt ⟨by omega, by omega⟩, k_5]; rfl) (by decide) ?_
    refine lv_aload_n hx hb dX8_can_52 rfl (lv_at hl 0 rfl) ?_
    refine va_get (D := D) (ci := 8) (v := .ref (bd 1)) (C := RX8) (T := TX8) (N := 20) hx hb hts (fun _ h => List.mem_cons_of_mem _ (List.mem_append_right _ (h))) hown hK.1 hP 0 rfl rfl 0 (by decide) (hts (.fieldLink RX8 7 "ForeignKeyStoreModel" "isRow" "[Z") (List.mem_of_getElem? (i := 1) rfl)) (fun _ h9 => h9) rfl dX8_can_53 ?_
    refine lv_aload_n hx hb dX8_can_56 rfl (lv_at hl 0 rfl) ?_
    refine va_get (D := D) (ci := 8) (v := .int (iI (ta))) (C := RX8) (T := TX8) (N := 20) hx hb hts (fun _ h => List.mem_cons_of_mem _ (List.mem_append_right _ (h))) hown hK.1 hP 0 rfl rfl 16 (by decide) (hts (.fieldLink RX8 160 "ForeignKeyStoreModel" "table" "I") (List.mem_of_getElem? (i := 2) rfl)) (fun _ h9 => h9) rfl dX8_can_57 ?_
    refine lv_aload_n hx hb dX8_can_60 rfl (lv_at hl 0 rfl) ?_
    refine va_get (D := D) (ci := 8) (v := .int (iI (ke))) (C := RX8) (T := TX8) (N := 20) hx hb hts (fun _ h => List.mem_cons_of_mem _ (List.mem_append_right _ (h))) hown hK.1 hP 0 rfl rfl 17 (by decide) (hts (.fieldLink RX8 163 "ForeignKeyStoreModel" "key" "I") (List.mem_of_getElem? (i := 3) rfl)) (fun _ h9 => h9) rfl dX8_can_61 ?_
    refine z_roS (As := [.int (iI (ta)), .int (iI (ke))]) (rest := [.ref (bd 1)]) ⟨hx, hb, hml, hown, hts⟩ (c_X8_row l D cI cZ cC (ta) (ke) ) (va_cwS 2 hts gX8_can_X8_row rfl rfl rfl (by decide +kernel) ⟨Nat.le_of_ble_eq_true rfl, Nat.le_of_ble_eq_true rfl⟩) hP hK [] rfl rfl hl.1 rfl (Nat.le_of_ble_eq_true rfl) dX8_can_64 ⟨by omega, by omega⟩ ?_
    refine z_zald hx hb hK.1 hP 1 1 rfl rfl (by omega) (by decide) dX8_can_67 ?_
    have hb_6 := g_Ir ((20 * ta + ke)) (by omega) (by omega)
    refine z_if_ne (tgt := 75) hx hb dX8_can_68 (by decide) ⟨by omega, by omega⟩ (fun c_7 => ?_) (fun c_7 => ?_)
    · refine lv_iconst (v := iI (0)) hx hb dX8_can_75 rfl ?_
      refine z_rretZ hx hb hr hlocks dX8_can_76 (by omega) ?_
      refine (bI_f ?_).symm
      unfold canM; first | (rw [bI_t (by omega)]; done) | (rw [bI_f (by omega)]; done) | (rcases g_Ir (20 * ta + ke) (by omega) (by omega) with h | h <;> rw [h] <;> first | (rw [bI_t (by omega)]; done) | (rw [bI_f (by omega)]; done)) | omega
    · refine lv_iconst (v := iI (1)) hx hb dX8_can_71 rfl ?_
      refine lv_goto (tgt := 76) hx hb dX8_can_72 (by decide) ?_
      refine z_rretZ hx hb hr hlocks dX8_can_76 (by omega) ?_
      refine (bI_t ?_).symm
      unfold canM; first | (rw [bI_t (by omega)]; done) | (rw [bI_f (by omega)]; done) | (rcases g_Ir (20 * ta + ke) (by omega) (by omega) with h | h <;> rw [h] <;> first | (rw [bI_t (by omega)]; done) | (rw [bI_f (by omega)]; done)) | omega
  by_cases k_8 : tq = 115
  · refine lv_lookup (off := 93) (tgt := 94) hx hb dX8_can_1 (by decide) (by rw [iI_toInt ⟨by omega, by omega⟩, k_8]; rfl) (by decide) ?_
    refine lv_aload_n hx hb dX8_can_94 rfl (lv_at hl 0 rfl) ?_
    refine va_get (D := D) (ci := 8) (v := .int (iI (mp))) (C := RX8) (T := TX8) (N := 20) hx hb hts (fun _ h => List.mem_cons_of_mem _ (List.mem_append_right _ (h))) hown hK.1 hP 0 rfl rfl 9 (by decide) (hts (.fieldLink RX8 136 "ForeignKeyStoreModel" "manyPoints" "I") (List.mem_of_getElem? (i := 4) rfl)) (fun _ h9 => h9) rfl dX8_can_95 ?_
    refine lv_iconst (v := iI (4)) hx hb dX8_can_98 rfl ?_
    refine z_icmp_ge (tgt := 106) hx hb dX8_can_99 (by decide) ⟨⟨by omega, by omega⟩, ⟨by omega, by omega⟩⟩ (fun c_9 => ?_) (fun c_9 => ?_)
    · refine lv_iconst (v := iI (0)) hx hb dX8_can_106 rfl ?_
      refine z_rretZ hx hb hr hlocks dX8_can_107 (by omega) ?_
      refine (bI_f ?_).symm
      unfold canM; first | (rw [bI_t (by omega)]; done) | (rw [bI_f (by omega)]; done) | (rcases g_Ir (20 * ta + ke) (by omega) (by omega) with h | h <;> rw [h] <;> first | (rw [bI_t (by omega)]; done) | (rw [bI_f (by omega)]; done)) | omega
    · refine lv_iconst (v := iI (1)) hx hb dX8_can_102 rfl ?_
      refine lv_goto (tgt := 107) hx hb dX8_can_103 (by decide) ?_
      refine z_rretZ hx hb hr hlocks dX8_can_107 (by omega) ?_
      refine (bI_t ?_).symm
      unfold canM; first | (rw [bI_t (by omega)]; done) | (rw [bI_f (by omega)]; done) | (rcases g_Ir (20 * ta + ke) (by omega) (by omega) with h | h <;> rw [h] <;> first | (rw [bI_t (by omega)]; done) | (rw [bI_f (by omega)]; done)) | omega
  by_cases k_10 : tq = 117
  · refine lv_lookup (off := 76) (tgt := 77) hx hb dX8_can_1 (by decide) (by rw [iI_toInt ⟨by omega, by omega⟩, k_10]; rfl) (by decide) ?_
    refine lv_aload_n hx hb dX8_can_77 rfl (lv_at hl 0 rfl) ?_
    refine va_get (D := D) (ci := 8) (v := .ref (bd 1)) (C := RX8) (T := TX8) (N := 20) hx hb hts (fun _ h => List.mem_cons_of_mem _ (List.mem_append_right _ (h))) hown hK.1 hP 0 rfl rfl 0 (by decide) (hts (.fieldLink RX8 7 "ForeignKeyStoreModel" "isRow" "[Z") (List.mem_of_getElem? (i := 1) rfl)) (fun _ h9 => h9) rfl dX8_can_78 ?_
    refine lv_aload_n hx hb dX8_can_81 rfl (lv_at hl 0 rfl) ?_
    refine va_get (D := D) (ci := 8) (v := .int (iI (ta))) (C := RX8) (T := TX8) (N := 20) hx hb hts (fun _ h => List.mem_cons_of_mem _ (List.mem_append_right _ (h))) hown hK.1 hP 0 rfl rfl 16 (by decide) (hts (.fieldLink RX8 160 "ForeignKeyStoreModel" "table" "I") (List.mem_of_getElem? (i := 2) rfl)) (fun _ h9 => h9) rfl dX8_can_82 ?_
    refine lv_aload_n hx hb dX8_can_85 rfl (lv_at hl 0 rfl) ?_
    refine va_get (D := D) (ci := 8) (v := .int (iI (ke))) (C := RX8) (T := TX8) (N := 20) hx hb hts (fun _ h => List.mem_cons_of_mem _ (List.mem_append_right _ (h))) hown hK.1 hP 0 rfl rfl 17 (by decide) (hts (.fieldLink RX8 163 "ForeignKeyStoreModel" "key" "I") (List.mem_of_getElem? (i := 3) rfl)) (fun _ h9 => h9) rfl dX8_can_86 ?_
    refine z_roS (As := [.int (iI (ta)), .int (iI (ke))]) (rest := [.ref (bd 1)]) ⟨hx, hb, hml, hown, hts⟩ (c_X8_row l D cI cZ cC (ta) (ke) ) (va_cwS 2 hts gX8_can_X8_row rfl rfl rfl (by decide +kernel) ⟨Nat.le_of_ble_eq_true rfl, Nat.le_of_ble_eq_true rfl⟩) hP hK [] rfl rfl hl.1 rfl (Nat.le_of_ble_eq_true rfl) dX8_can_89 ⟨by omega, by omega⟩ ?_
    refine z_zald hx hb hK.1 hP 1 1 rfl rfl (by omega) (by decide) dX8_can_92 ?_
    have hb_11 := g_Ir ((20 * ta + ke)) (by omega) (by omega)
    refine z_rretZ hx hb hr hlocks dX8_can_93 (by omega) ?_
    unfold canM; first | (rw [bI_t (by omega)]; done) | (rw [bI_f (by omega)]; done) | (rcases g_Ir (20 * ta + ke) (by omega) (by omega) with h | h <;> rw [h] <;> first | (rw [bI_t (by omega)]; done) | (rw [bI_f (by omega)]; done)) | omega
  refine lv_lookup (off := 124) (tgt := 125) hx hb dX8_can_1 (by decide) (by rw [iI_toInt ⟨by omega, by omega⟩]; simp only [Op.lookupswitch.offset_cons]; rw [if_neg (by omega)]; rw [if_neg (by omega)]; rw [if_neg (by omega)]; rw [if_neg (by omega)]; rw [if_neg (by omega)]; rfl) (by decide) ?_
  refine lv_iconst (v := iI (1)) hx hb dX8_can_125 rfl ?_
  refine z_rretZ hx hb hr hlocks dX8_can_126 (by omega) ?_
  refine (bI_t ?_).symm
  unfold canM; first | (rw [bI_t (by omega)]; done) | (rw [bI_f (by omega)]; done) | (rcases g_Ir (20 * ta + ke) (by omega) (by omega) with h | h <;> rw [h] <;> first | (rw [bI_t (by omega)]; done) | (rw [bI_f (by omega)]; done)) | omega

