def gLn (Ln : Nat) (n : Int) : Nat := if (Ln : Int) - n < 240 ∧ (Ln : Int) < 32768 then 2 * Ln else Ln
theorem gLn_t {Ln : Nat} {n : Int} (h1 : (Ln : Int) - n < 240) (h2 : (Ln : Int) < 32768) : gLn Ln n = 2 * Ln := if_pos ⟨h1, h2⟩
theorem gLn_f {Ln : Nat} {n : Int} (h : ¬ ((Ln : Int) - n < 240 ∧ (Ln : Int) < 32768)) : gLn Ln n = Ln := if_neg h
theorem gLn_ge (Ln : Nat) (n : Int) : Ln ≤ gLn Ln n := by
  unfold gLn
  split <;> omega
theorem cpB_in {B : Int → Int} {Ln : Nat} {j : Int} (h : 0 ≤ j ∧ j < (Ln : Int)) : cpB B Ln j = B j := if_pos h

set_option maxHeartbeats 600000 in
set_option maxRecDepth 100000 in
theorem c_X4_beginStatement (l : Launch) (D : va_G) (cI cZ cC : ClassId) (sz : Nat) (ad : Nat → Nat) (be Ln : Nat) (n : Int) (V B : Int → Int) (g_n : 0 ≤ n ∧ n ≤ (Ln : Int) ∧ Ln < 2147483648) (g_L : 240 ≤ Ln) : zMi l yX4_beginStatement wsX4_beginStatement ({ frames := 2, cells := 1, slots := 2 * (gLn Ln n - Ln), locals := 122 }) D cI cZ cC [(ad 1, .inr (4, [.ref (ad 2), .ref (be), .int (iI (n))])), (ad 2, .inl (cI, 160, .inl (iA (V)))), (be, .inl (cI, Ln, .inl (iA (B))))] sz [.ref (ad 1)] (1) (2 * (gLn Ln n - Ln)) (fun (u : Nat × (Int → Int)) => [(ad 1, .inr (4, [.ref (ad 2), .ref (u.1), .int (iI (n))])), (ad 2, .inl (cI, 160, .inl (iA (V)))), (u.1, .inl (cI, gLn Ln n, .inl (iA (u.2))))]) (fun v (u : Nat × (Int → Int)) => v = n ∧ (∀ j : Int, 0 ≤ j → j < n → u.2 j = B j)) := by
  refine z_ofMi (cc := cX4_beginStatement) (maxL := 2) (ret := (some .int)) RX4 (by decide +kernel) rfl rfl (Nat.le_of_ble_eq_true rfl) ?_
  intro p0 en0 s0 m0 args0 below0 meth0 c0 ls AA hx hb hr hlocks hml hown hts hP hD hS hA hK hl
  have hl : lv_has ls 2 [(0, .ref (ad 1))] := hl
  obtain ⟨H, hH⟩ : ∃ H, H = s0.heap := ⟨_, rfl⟩
  obtain ⟨locs, hlo⟩ : ∃ locs : List Loc, locs = [] := ⟨_, rfl⟩
  have hP : va_P D vwCl [(ad 1, .inr (4, [.ref (ad 2), .ref (be), .int (iI (n))])), (ad 2, .inl (cI, 160, .inl (iA (V)))), (be, .inl (cI, Ln, .inl (iA (B))))] H := by rw [hH]; exact hP
  have hS : va_S AA s0.heap H locs := by rw [hH, hlo]; exact hS
  suffices hW : W p0 l en0 (headSpec wsX4_beginStatement ({ frames := 2, cells := 1, slots := 2 * (gLn Ln n - Ln), locals := 122 })).room s0 m0 args0 below0 meth0 c0 H locs 0 0 (QMi below0 D ((fun (u : Nat × (Int → Int)) => [(ad 1, .inr (4, [.ref (ad 2), .ref (u.1), .int (iI (n))])), (ad 2, .inl (cI, 160, .inl (iA (V)))), (u.1, .inl (cI, gLn Ln n, .inl (iA (u.2))))])) (fun v (u : Nat × (Int → Int)) => v = n ∧ (∀ j : Int, 0 ≤ j → j < n → u.2 j = B j)) AA args0 s0 (1) (2 * (gLn Ln n - Ln))) (F0 m0 0 ls []) by rw [hH, hlo] at hW; exact hW
  refine lv_aload_n hx hb dX4_beginStatement_0 rfl (lv_at hl 0 rfl) ?_
  refine va_get (D := D) (ci := 4) (v := .ref (be)) (C := RX4) (T := TX4) (N := 3) hx hb hts (fun _ h => List.mem_cons_of_mem _ (List.mem_append_right _ (h))) hown hK.1 hP 0 rfl rfl 1 (by decide) (hts (.fieldLink RX4 15 "ForeignKeyStore$Rows" "before" "[I") (List.mem_of_getElem? (i := 1) rfl)) (fun _ h9 => h9) rfl dX4_beginStatement_1 ?_
  refine va_alen hx hb hK.1 hP 2 0 rfl rfl (v := iI (((Ln : Nat) : Int))) (iI_nI _).symm dX4_beginStatement_4 ?_
  refine lv_aload_n hx hb dX4_beginStatement_5 rfl (lv_at hl 0 rfl) ?_
  refine va_get (D := D) (ci := 4) (v := .int (iI (n))) (C := RX4) (T := TX4) (N := 3) hx hb hts (fun _ h => List.mem_cons_of_mem _ (List.mem_append_right _ (h))) hown hK.1 hP 0 rfl rfl 2 (by decide) (hts (.fieldLink RX4 18 "ForeignKeyStore$Rows" "changeCount" "I") (List.mem_of_getElem? (i := 2) rfl)) (fun _ h9 => h9) rfl dX4_beginStatement_6 ?_
  refine z_isub hx hb dX4_beginStatement_9 ?_
  refine lv_istore_n (lv' := [(1, .int (iI ((((Ln : Nat) : Int) - n)))), (0, .ref (ad 1))]) hx hb dX4_beginStatement_10 rfl hl (by decide) rfl (fun ls hl => ?_)
  refine lv_iload_n hx hb dX4_beginStatement_11 rfl (lv_at hl 0 rfl) ?_
  refine lv_sipush (v := iI (240)) hx hb dX4_beginStatement_12 (by decide) ?_
  refine z_icmp_ge (tgt := 46) hx hb dX4_beginStatement_15 (by decide) ⟨⟨by omega, by omega⟩, ⟨by omega, by omega⟩⟩ (fun c_1 => ?_) (fun c_1 => ?_)
  · refine lv_aload_n hx hb dX4_beginStatement_46 rfl (lv_at hl 1 rfl) ?_
    refine va_get (D := D) (ci := 4) (v := .int (iI (n))) (C := RX4) (T := TX4) (N := 3) hx hb hts (fun _ h => List.mem_cons_of_mem _ (List.mem_append_right _ (h))) hown hK.1 hP 0 rfl rfl 2 (by decide) (hts (.fieldLink RX4 18 "ForeignKeyStore$Rows" "changeCount" "I") (List.mem_of_getElem? (i := 2) rfl)) (fun _ h9 => h9) rfl dX4_beginStatement_47 ?_
    have h_g : gLn Ln n = Ln := gLn_f (by omega)
    rw [show ((be, Sum.inl (cI, Ln, .inl (iA B))) : Nat × va_E) = (be, Sum.inl (cI, gLn Ln n, .inl (iA B))) by rw [h_g]] at hP hD
    refine W.widen (k := 1) (n := 2 * (gLn Ln n - Ln)) (by omega) (by omega) ?_
    refine z_mret ((be, B)) hx hb hr hlocks dX4_beginStatement_50 hP hD hS ?_
    exact ⟨rfl, fun j h1 h2 => rfl⟩
  · refine lv_aload_n hx hb dX4_beginStatement_18 rfl (lv_at hl 1 rfl) ?_
    refine va_get (D := D) (ci := 4) (v := .ref (be)) (C := RX4) (T := TX4) (N := 3) hx hb hts (fun _ h => List.mem_cons_of_mem _ (List.mem_append_right _ (h))) hown hK.1 hP 0 rfl rfl 1 (by decide) (hts (.fieldLink RX4 15 "ForeignKeyStore$Rows" "before" "[I") (List.mem_of_getElem? (i := 1) rfl)) (fun _ h9 => h9) rfl dX4_beginStatement_19 ?_
    refine va_alen hx hb hK.1 hP 2 0 rfl rfl (v := iI (((Ln : Nat) : Int))) (iI_nI _).symm dX4_beginStatement_22 ?_
    refine lv_ldc (v := iI (32768)) hx hb hown (by rw [show iI (32768) = (32768 : Int32) from by decide]; exact (hts (.constant RX4 30 (32768)) (List.mem_of_getElem? (i := 3) rfl))) dX4_beginStatement_23 ?_
    refine z_icmp_ge (tgt := 46) hx hb dX4_beginStatement_25 (by decide) ⟨⟨by omega, by omega⟩, ⟨by omega, by omega⟩⟩ (fun c_2 => ?_) (fun c_2 => ?_)
    · refine lv_aload_n hx hb dX4_beginStatement_46 rfl (lv_at hl 1 rfl) ?_
      refine va_get (D := D) (ci := 4) (v := .int (iI (n))) (C := RX4) (T := TX4) (N := 3) hx hb hts (fun _ h => List.mem_cons_of_mem _ (List.mem_append_right _ (h))) hown hK.1 hP 0 rfl rfl 2 (by decide) (hts (.fieldLink RX4 18 "ForeignKeyStore$Rows" "changeCount" "I") (List.mem_of_getElem? (i := 2) rfl)) (fun _ h9 => h9) rfl dX4_beginStatement_47 ?_
      have h_g : gLn Ln n = Ln := gLn_f (by omega)
      rw [show ((be, Sum.inl (cI, Ln, .inl (iA B))) : Nat × va_E) = (be, Sum.inl (cI, gLn Ln n, .inl (iA B))) by rw [h_g]] at hP hD
      refine W.widen (k := 1) (n := 2 * (gLn Ln n - Ln)) (by omega) (by omega) ?_
      refine z_mret ((be, B)) hx hb hr hlocks dX4_beginStatement_50 hP hD hS ?_
      exact ⟨rfl, fun j h1 h2 => rfl⟩
    · have h_g : gLn Ln n = 2 * Ln := gLn_t (by omega) (by omega)
      refine lv_aload_n hx hb dX4_beginStatement_28 rfl (lv_at hl 1 rfl) ?_
      refine lv_aload_n hx hb dX4_beginStatement_29 rfl (lv_at hl 1 rfl) ?_
      refine va_get (D := D) (ci := 4) (v := .ref (be)) (C := RX4) (T := TX4) (N := 3) hx hb hts (fun _ h => List.mem_cons_of_mem _ (List.mem_append_right _ (h))) hown hK.1 hP 0 rfl rfl 1 (by decide) (hts (.fieldLink RX4 15 "ForeignKeyStore$Rows" "before" "[I") (List.mem_of_getElem? (i := 1) rfl)) (fun _ h9 => h9) rfl dX4_beginStatement_30 ?_
      refine lv_iconst (v := iI (2)) hx hb dX4_beginStatement_33 rfl ?_
      refine lv_aload_n hx hb dX4_beginStatement_34 rfl (lv_at hl 1 rfl) ?_
      refine va_get (D := D) (ci := 4) (v := .ref (be)) (C := RX4) (T := TX4) (N := 3) hx hb hts (fun _ h => List.mem_cons_of_mem _ (List.mem_append_right _ (h))) hown hK.1 hP 0 rfl rfl 1 (by decide) (hts (.fieldLink RX4 15 "ForeignKeyStore$Rows" "before" "[I") (List.mem_of_getElem? (i := 1) rfl)) (fun _ h9 => h9) rfl dX4_beginStatement_35 ?_
      refine va_alen hx hb hK.1 hP 2 0 rfl rfl (v := iI (((Ln : Nat) : Int))) (iI_nI _).symm dX4_beginStatement_38 ?_
      refine z_imul hx hb dX4_beginStatement_39 ?_
      have hF := va_free (wc := [(be, .inl (cI, Ln, .inl (iA (B))))]) hD hS hA [2] rfl
      refine va_callr (va_runS (As := [.ref be, .int (iI (2 * (Ln : Int)))]) (rest := [.ref (ad 1)]) ⟨hx, hb, hml, hown, hts⟩ (c_J7_copyOf l D cI cZ cC H.size be Ln B (by omega)) (va_cwS 2 hts gX4_beginStatement_J7_copyOf_59c91 rfl rfl rfl (by decide +kernel) ⟨Nat.le_of_ble_eq_true rfl, Nat.le_of_ble_eq_true rfl⟩) ⟨zPw_blind, fun U hU hW2 => ⟨rfl, z_preW hP hD hK [2] rfl rfl U hU hW2⟩⟩ rfl rfl hl.1 rfl (lv_room (Nat.le_of_ble_eq_true rfl)) dX4_beginStatement_40 ⟨by show 0 + 1 ≤ 1; omega, by show 0 + 2 * Ln ≤ 2 * (gLn Ln n - Ln); omega⟩) hS (fun q _ h => hF q h) hF (fun u q1 t H1 locs ht hvm hw hB hz hk hS => ?_)
      obtain ⟨hP1, hD1⟩ := hB
      rw [ht] at hP1
      obtain ⟨hP, hD⟩ := z_back (wr := [(ad 1, .inr (4, [.ref (ad 2), .ref (be), .int (iI (n))])), (ad 2, .inl (cI, 160, .inl (iA (V))))]) (ws2 := [(ad 1, .inr (4, [.ref (ad 2), .ref (be), .int (iI (n))])), (ad 2, .inl (cI, 160, .inl (iA (V)))), (be, .inl (cI, Ln, .inl (iA (B)))), (q1, .inl (cI, 2 * Ln, .inl (iA (cpB B Ln))))]) hP hD [2] [0, 1] [0, 1, 2, 3] rfl rfl rfl (by decide) rfl rfl hk hF hP1 hD1
      generalize H1 = H at hP hS ⊢
      refine va_put (D := D) (ci := 4) (v := .ref (q1)) (ty := (.array .int)) (C := RX4) (T := TX4) (N := 3) hx hb hts (fun _ h => List.mem_cons_of_mem _ (List.mem_append_right _ (h))) tyX4 tyX4_ok nmX4 hown hK.1 hP hD hS 0 rfl rfl 1 (by decide) (hts (.fieldLink RX4 15 "ForeignKeyStore$Rows" "before" "[I") (List.mem_of_getElem? (i := 1) rfl)) (fun _ h9 => h9) rfl (by decide +kernel) rfl rfl (Nat.le_of_ble_eq_true rfl) dX4_beginStatement_43 (fun H locs hP hD hS => ?_)
      have hP : va_P D vwCl [(ad 1, .inr (4, [.ref (ad 2), .ref (q1), .int (iI (n))])), (ad 2, .inl (cI, 160, .inl (iA (V)))), (be, .inl (cI, Ln, .inl (iA (B)))), (q1, .inl (cI, 2 * Ln, .inl (iA (cpB B Ln))))] H := hP
      have hD : va_D AA [(ad 1, .inr (4, [.ref (ad 2), .ref (q1), .int (iI (n))])), (ad 2, .inl (cI, 160, .inl (iA (V)))), (be, .inl (cI, Ln, .inl (iA (B)))), (q1, .inl (cI, 2 * Ln, .inl (iA (cpB B Ln))))] := hD
      refine lv_aload_n hx hb dX4_beginStatement_46 rfl (lv_at hl 1 rfl) ?_
      refine va_get (D := D) (ci := 4) (v := .int (iI (n))) (C := RX4) (T := TX4) (N := 3) hx hb hts (fun _ h => List.mem_cons_of_mem _ (List.mem_append_right _ (h))) hown hK.1 hP 0 rfl rfl 2 (by decide) (hts (.fieldLink RX4 18 "ForeignKeyStore$Rows" "changeCount" "I") (List.mem_of_getElem? (i := 2) rfl)) (fun _ h9 => h9) rfl dX4_beginStatement_47 ?_
      have hP := hP.sub (ws' := [(ad 1, .inr (4, [.ref (ad 2), .ref (q1), .int (iI (n))])), (ad 2, .inl (cI, 160, .inl (iA (V)))), (q1, .inl (cI, 2 * Ln, .inl (iA (cpB B Ln))))]) [0, 1, 3] rfl
      have hD := hD.sub (ws' := [(ad 1, .inr (4, [.ref (ad 2), .ref (q1), .int (iI (n))])), (ad 2, .inl (cI, 160, .inl (iA (V)))), (q1, .inl (cI, 2 * Ln, .inl (iA (cpB B Ln))))]) [0, 1, 3] rfl rfl
      rw [← h_g] at hP hD
      refine W.widen (k := 1) (n := 2 * (gLn Ln n - Ln)) (by omega) (by omega) ?_
      refine z_mret ((q1, cpB B Ln)) hx hb hr hlocks dX4_beginStatement_50 hP hD hS ?_
      exact ⟨rfl, fun j h1 h2 => cpB_in ⟨h1, by omega⟩⟩

