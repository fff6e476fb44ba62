theorem kpA_t {a p tac : Int} {TA : Int → Int} (h : 0 ≤ tac ∧ tac ≤ 4) : ((kpA a p TA tac).1 = 0 ∨ (kpA a p TA tac).1 = 1) ∧ (kpA a p TA tac).2.1 = p ∧ 0 ≤ (kpA a p TA tac).2.2.2 ∧ (kpA a p TA tac).2.2.2 ≤ 4 := by
  unfold kpA
  split
  · exact ⟨Or.inl rfl, rfl, h.1, h.2⟩
  · refine ⟨Or.inr rfl, rfl, ?_, ?_⟩
    · show 0 ≤ tac + 1
      omega
    · show tac + 1 ≤ 4
      omega
theorem rF_t {SG : Int → Int} {tl : Int} {i f k : Nat} {st : PS} (h : (rP SG tl (chr i (k : Int)) st).1 = 0) : rF SG tl i (f + 1) k st = (0, (rP SG tl (chr i (k : Int)) st).2) := by
  rw [rF, if_pos h]
theorem rF_f {SG : Int → Int} {tl : Int} {i f k : Nat} {st : PS} (h : ¬ (rP SG tl (chr i (k : Int)) st).1 = 0) : rF SG tl i (f + 1) k st = rF SG tl i f (k + 1) (rP SG tl (chr i (k : Int)) st).2 := by
  rw [rF, if_neg h]
theorem rC_t {SG : Int → Int} {tl p : Int} {TA : Int → Int} (h : isLt (sgn SG tl p)) : rC SG tl p TA = rF SG tl (frm (sgn SG tl p)) (tlen (frm (sgn SG tl p))) 0 (p + 1, TA, 0) := if_pos h
theorem rC_f {SG : Int → Int} {tl p : Int} {TA : Int → Int} (h : ¬ isLt (sgn SG tl p)) : rC SG tl p TA = (0, (p, TA, 0)) := if_neg h
theorem rF_b {SG : Int → Int} {tl : Int} (g : ∀ j : Int, 0 ≤ j → j < 80 → 0 ≤ SG j ∧ SG j < 128) {i : Nat} (hi : i < 6) : ∀ (f k : Nat) (st : PS), st.1 ≤ tl → ((rF SG tl i f k st).1 = 0 ∨ (rF SG tl i f k st).1 = 1) ∧ st.1 ≤ (rF SG tl i f k st).2.1 ∧ (rF SG tl i f k st).2.1 ≤ tl
  | 0, k, st, gp => ⟨Or.inr rfl, by show st.1 ≤ st.1; omega, gp⟩
  | f + 1, k, st, gp => by
    have h1 := rP_b g (chr_b hi (k : Int)).1 st gp
    by_cases h : (rP SG tl (chr i (k : Int)) st).1 = 0
    · rw [rF_t h]
      exact ⟨Or.inl rfl, h1.2.1, h1.2.2⟩
    · rw [rF_f h]
      have h2 := rF_b g hi f (k + 1) (rP SG tl (chr i (k : Int)) st).2 h1.2.2
      exact ⟨h2.1, Int.le_trans h1.2.1 h2.2.1, h2.2.2⟩
theorem rC_b {SG : Int → Int} {tl : Int} (g : ∀ j : Int, 0 ≤ j → j < 80 → 0 ≤ SG j ∧ SG j < 128) (p : Int) (TA : Int → Int) (gp : p ≤ tl) : ((rC SG tl p TA).1 = 0 ∨ (rC SG tl p TA).1 = 1) ∧ p ≤ (rC SG tl p TA).2.1 ∧ (rC SG tl p TA).2.1 ≤ tl := by
  by_cases h : isLt (sgn SG tl p)
  · rw [rC_t h]
    have h1 := sgn_b g tl p
    have h2 := rF_b g (frm_lt (sgn SG tl p)) (tlen (frm (sgn SG tl p))) 0 (p + 1, TA, 0) (by have := h1.2.2 h.1; show p + 1 ≤ tl; omega)
    exact ⟨h2.1, Int.le_trans (by show p ≤ p + 1; omega) h2.2.1, h2.2.2⟩
  · rw [rC_f h]
    exact ⟨Or.inl rfl, by show p ≤ p; omega, gp⟩
/-- the error's place, from p on; -2 if there is none -/
noncomputable def eF (SG : Int → Int) (tl : Int) : Nat → Int → (Int → Int) → Int
  | 0, p, _ => p
  | f + 1, p, TA => if (rC SG tl p TA).1 = 0 then (rC SG tl p TA).2.1 else if tl ≤ (rC SG tl p TA).2.1 then -2 else if (rS SG tl 59 (rC SG tl p TA).2.1).1 = 0 then (rS SG tl 59 (rC SG tl p TA).2.1).2 else eF SG tl f (rS SG tl 59 (rC SG tl p TA).2.1).2 (rC SG tl p TA).2.2.1

set_option maxHeartbeats 600000 in
set_option maxRecDepth 100000 in
theorem c_X6_readPart (l : Launch) (D : va_G) (cI cZ cC : ClassId) (sz : Nat) (ad : Nat → Nat) (SG : Int → Int) (tl tp tq tac : Int) (TA : Int → Int) (ch : Int) (g_SG : ∀ j : Int, 0 ≤ j → j < 80 → 0 ≤ SG j ∧ SG j < 128) (g_tl : 0 ≤ tl ∧ tl ≤ 80) (g_tp : 0 ≤ tp ∧ tp ≤ tl) (g_tac : 0 ≤ tac ∧ tac ≤ 4) (g_ch : 0 ≤ ch ∧ ch < 128) : zMi l yX6_readPart wsX6_readPart ({ frames := 3, cells := 0, slots := 0, locals := 65 }) D cI cZ cC [(ad 18, .inr (6, [.ref (ad 19), .int (iI (tl)), .int (iI (tp)), .int (iI (tq)), .ref (ad 20), .int (iI (tac))])), (ad 19, .inl (cC, 80, .inl (iA (SG)))), (ad 20, .inl (cI, 4, .inl (iA (TA))))] sz [.ref (ad 18), .int (iI (ch))] (0) (0) (fun (u : Int × (Int → Int) × Int) => [(ad 18, .inr (6, [.ref (ad 19), .int (iI (tl)), .int (iI (u.1)), .int (iI (tq)), .ref (ad 20), .int (iI (u.2.2))])), (ad 19, .inl (cC, 80, .inl (iA (SG)))), (ad 20, .inl (cI, 4, .inl (iA (u.2.1))))]) (fun v (u : Int × (Int → Int) × Int) => (v, (u.1, u.2.1, u.2.2)) = rP SG tl ch (tp, TA, tac) ∧ 0 ≤ u.2.2 ∧ u.2.2 ≤ 4) := by
  refine z_ofMi (cc := cX6_readPart) (maxL := 2) (ret := (some .boolean)) RX6 (by decide +kernel) rfl rfl (Nat.le_of_ble_eq_true rfl) ?_
  intro p0 en0 s0 m0 args0 below0 meth0 c0 ls AA hx hb hr hlocks hml hown hts hP hD hS hA hK hl
  have hl : lv_has ls 2 [(0, .ref (ad 18)), (1, .int (iI (ch)))] := hl
  obtain ⟨H, hH⟩ : ∃ H, H = s0.heap := ⟨_, rfl⟩
  obtain ⟨locs, hlo⟩ : ∃ locs : List Loc, locs = [] := ⟨_, rfl⟩
  have hP : va_P D vwCl [(ad 18, .inr (6, [.ref (ad 19), .int (iI (tl)), .int (iI (tp)), .int (iI (tq)), .ref (ad 20), .int (iI (tac))])), (ad 19, .inl (cC, 80, .inl (iA (SG)))), (ad 20, .inl (cI, 4, .inl (iA (TA))))] H := by rw [hH]; exact hP
  have hS : va_S AA s0.heap H locs := by rw [hH, hlo]; exact hS
  suffices hW : W p0 l en0 (headSpec wsX6_readPart ({ frames := 3, cells := 0, slots := 0, locals := 65 })).room s0 m0 args0 below0 meth0 c0 H locs 0 0 (QMi below0 D ((fun (u : Int × (Int → Int) × Int) => [(ad 18, .inr (6, [.ref (ad 19), .int (iI (tl)), .int (iI (u.1)), .int (iI (tq)), .ref (ad 20), .int (iI (u.2.2))])), (ad 19, .inl (cC, 80, .inl (iA (SG)))), (ad 20, .inl (cI, 4, .inl (iA (u.2.1))))])) (fun v (u : Int × (Int → Int) × Int) => (v, (u.1, u.2.1, u.2.2)) = rP SG tl ch (tp, TA, tac) ∧ 0 ≤ u.2.2 ∧ u.2.2 ≤ 4) AA args0 s0 (0) (0)) (F0 m0 0 ls []) by rw [hH, hlo] at hW; exact hW
  refine lv_iload_n hx hb dX6_readPart_0 rfl (lv_at hl 1 rfl) ?_
  by_cases k_1 : ch = 99
  · refine lv_lookup (off := 70) (tgt := 71) hx hb dX6_readPart_1 (by decide) (by rw [iI_toInt ⟨by omega, by omega⟩, k_1]; rfl) (by decide) ?_
    refine lv_aload_n hx hb dX6_readPart_71 rfl (lv_at hl 0 rfl) ?_
    refine lv_aload_n hx hb dX6_readPart_72 rfl (lv_at hl 0 rfl) ?_
    refine lv_iconst (v := iI (1)) hx hb dX6_readPart_73 rfl ?_
    refine z_muV (As := [.int (iI (1))]) (rest := [.ref (ad 18)]) (wr := [(ad 20, .inl (cI, 4, .inl (iA (TA))))]) (ws2 := (fun (u : Int) => [(ad 18, .inr (6, [.ref (ad 19), .int (iI (tl)), .int (iI (u)), .int (iI (tq)), .ref (ad 20), .int (iI (tac))])), (ad 19, .inl (cC, 80, .inl (iA (SG)))), (ad 20, .inl (cI, 4, .inl (iA (TA))))])) ⟨hx, hb, hml, hown, hts⟩ (c_X6_readDigit l D cI cZ cC H.size (ad) (SG) (tl) (tp) (tq) (tac) (1) (by first | assumption | omega) (by first | assumption | omega) (by first | assumption | omega) (by first | assumption | omega)) (cwV 1 hts gX6_readPart_X6_readDigit rfl rfl rfl (by decide +kernel) ⟨Nat.le_of_ble_eq_true rfl, Nat.le_of_ble_eq_true rfl⟩) hP hD hS hA hK [0, 1] [2] [1, 2, 0] rfl (by decide) rfl (by decide) (by decide) (by decide) (fun _ => rfl) 0 6 rfl rfl rfl rfl hl.1 rfl (Nat.le_of_ble_eq_true rfl) dX6_readPart_74 ⟨by omega, by omega⟩ (fun r_3 u H locs hq_2 hP hD hS => ?_)
    obtain ⟨tp_4, rfl⟩ : ∃ z, z = u := ⟨_, rfl⟩
    have hP : va_P D vwCl [(ad 18, .inr (6, [.ref (ad 19), .int (iI (tl)), .int (iI (tp_4)), .int (iI (tq)), .ref (ad 20), .int (iI (tac))])), (ad 19, .inl (cC, 80, .inl (iA (SG)))), (ad 20, .inl (cI, 4, .inl (iA (TA))))] H := hP
    have hD : va_D AA [(ad 18, .inr (6, [.ref (ad 19), .int (iI (tl)), .int (iI (tp_4)), .int (iI (tq)), .ref (ad 20), .int (iI (tac))])), (ad 19, .inl (cC, 80, .inl (iA (SG)))), (ad 20, .inl (cI, 4, .inl (iA (TA))))] := hD
    try dsimp only at hq_2
    have h_1 := congrArg Prod.fst hq_2
    have h_2 := congrArg Prod.snd hq_2
    dsimp only at h_1 h_2
    have g_b := rD_b g_SG 1 tp g_tp.2
    rw [← h_1, ← h_2] at g_b
    refine z_muV (As := [.int (iI (r_3))]) (rest := []) (wr := [(ad 19, .inl (cC, 80, .inl (iA (SG))))]) (ws2 := (fun (u : (Int → Int) × Int) => [(ad 18, .inr (6, [.ref (ad 19), .int (iI (tl)), .int (iI (tp_4)), .int (iI (tq)), .ref (ad 20), .int (iI (u.2))])), (ad 19, .inl (cC, 80, .inl (iA (SG)))), (ad 20, .inl (cI, 4, .inl (iA (u.1))))])) ⟨hx, hb, hml, hown, hts⟩ (c_X6_keep l D cI cZ cC H.size (ad) (SG) (tl) (tp_4) (tq) (tac) (TA) (r_3) (by first | assumption | omega) (by first | assumption | omega)) (cwV 1 hts gX6_readPart_X6_keep rfl rfl rfl (by decide +kernel) ⟨Nat.le_of_ble_eq_true rfl, Nat.le_of_ble_eq_true rfl⟩) hP hD hS hA hK [0, 2] [1] [1, 0, 2] rfl (by decide) rfl (by decide) (by decide) (by decide) (fun _ => rfl) 0 6 rfl rfl rfl rfl hl.1 rfl (Nat.le_of_ble_eq_true rfl) dX6_readPart_77 ⟨by omega, by omega⟩ (fun r_6 u H locs hq_5 hP hD hS => ?_)
    obtain ⟨TA_7, tac_8⟩ := u
    have hP : va_P D vwCl [(ad 18, .inr (6, [.ref (ad 19), .int (iI (tl)), .int (iI (tp_4)), .int (iI (tq)), .ref (ad 20), .int (iI (tac_8))])), (ad 19, .inl (cC, 80, .inl (iA (SG)))), (ad 20, .inl (cI, 4, .inl (iA (TA_7))))] H := hP
    have hD : va_D AA [(ad 18, .inr (6, [.ref (ad 19), .int (iI (tl)), .int (iI (tp_4)), .int (iI (tq)), .ref (ad 20), .int (iI (tac_8))])), (ad 19, .inl (cC, 80, .inl (iA (SG)))), (ad 20, .inl (cI, 4, .inl (iA (TA_7))))] := hD
    try dsimp only at hq_5
    have g_kb := kpA_t (a := r_3) (p := tp_4) (TA := TA) g_tac
    rw [← hq_5] at g_kb
    dsimp only at g_kb
    refine z_mretZ ((tp_4, TA_7, tac_8)) hx hb hr hlocks dX6_readPart_80 (by omega) hP hD hS ?_
    dsimp only
    refine ⟨?_, by omega, by omega⟩
    unfold rP
    rw [if_neg (by omega), if_neg (by omega), if_pos (by omega)]
    dsimp only
    rw [← h_1, ← h_2]
    exact hq_5
  by_cases k_9 : ch = 107
  · refine lv_lookup (off := 61) (tgt := 62) hx hb dX6_readPart_1 (by decide) (by rw [iI_toInt ⟨by omega, by omega⟩, k_9]; rfl) (by decide) ?_
    refine lv_aload_n hx hb dX6_readPart_62 rfl (lv_at hl 0 rfl) ?_
    refine lv_aload_n hx hb dX6_readPart_63 rfl (lv_at hl 0 rfl) ?_
    refine z_muV (As := []) (rest := [.ref (ad 18)]) (wr := [(ad 20, .inl (cI, 4, .inl (iA (TA))))]) (ws2 := (fun (u : Int) => [(ad 18, .inr (6, [.ref (ad 19), .int (iI (tl)), .int (iI (u)), .int (iI (tq)), .ref (ad 20), .int (iI (tac))])), (ad 19, .inl (cC, 80, .inl (iA (SG)))), (ad 20, .inl (cI, 4, .inl (iA (TA))))])) ⟨hx, hb, hml, hown, hts⟩ (c_X6_readKey l D cI cZ cC H.size (ad) (SG) (tl) (tp) (tq) (tac) (by first | assumption | omega) (by first | assumption | omega) (by first | assumption | omega)) (cwV 0 hts gX6_readPart_X6_readKey rfl rfl rfl (by decide +kernel) ⟨Nat.le_of_ble_eq_true rfl, Nat.le_of_ble_eq_true rfl⟩) hP hD hS hA hK [0, 1] [2] [1, 2, 0] rfl (by decide) rfl (by decide) (by decide) (by decide) (fun _ => rfl) 0 6 rfl rfl rfl rfl hl.1 rfl (Nat.le_of_ble_eq_true rfl) dX6_readPart_64 ⟨by omega, by omega⟩ (fun r_11 u H locs hq_10 hP hD hS => ?_)
    obtain ⟨tp_12, rfl⟩ : ∃ z, z = u := ⟨_, rfl⟩
    have hP : va_P D vwCl [(ad 18, .inr (6, [.ref (ad 19), .int (iI (tl)), .int (iI (tp_12)), .int (iI (tq)), .ref (ad 20), .int (iI (tac))])), (ad 19, .inl (cC, 80, .inl (iA (SG)))), (ad 20, .inl (cI, 4, .inl (iA (TA))))] H := hP
    have hD : va_D AA [(ad 18, .inr (6, [.ref (ad 19), .int (iI (tl)), .int (iI (tp_12)), .int (iI (tq)), .ref (ad 20), .int (iI (tac))])), (ad 19, .inl (cC, 80, .inl (iA (SG)))), (ad 20, .inl (cI, 4, .inl (iA (TA))))] := hD
    try dsimp only at hq_10
    have h_1 := congrArg Prod.fst hq_10
    have h_2 := congrArg Prod.snd hq_10
    dsimp only at h_1 h_2
    have g_b := rK_b g_SG tp g_tp.2
    rw [← h_1, ← h_2] at g_b
    refine z_muV (As := [.int (iI (r_11))]) (rest := []) (wr := [(ad 19, .inl (cC, 80, .inl (iA (SG))))]) (ws2 := (fun (u : (Int → Int) × Int) => [(ad 18, .inr (6, [.ref (ad 19), .int (iI (tl)), .int (iI (tp_12)), .int (iI (tq)), .ref (ad 20), .int (iI (u.2))])), (ad 19, .inl (cC, 80, .inl (iA (SG)))), (ad 20, .inl (cI, 4, .inl (iA (u.1))))])) ⟨hx, hb, hml, hown, hts⟩ (c_X6_keep l D cI cZ cC H.size (ad) (SG) (tl) (tp_12) (tq) (tac) (TA) (r_11) (by first | assumption | omega) (by first | assumption | omega)) (cwV 1 hts gX6_readPart_X6_keep rfl rfl rfl (by decide +kernel) ⟨Nat.le_of_ble_eq_true rfl, Nat.le_of_ble_eq_true rfl⟩) hP hD hS hA hK [0, 2] [1] [1, 0, 2] rfl (by decide) rfl (by decide) (by decide) (by decide) (fun _ => rfl) 0 6 rfl rfl rfl rfl hl.1 rfl (Nat.le_of_ble_eq_true rfl) dX6_readPart_67 ⟨by omega, by omega⟩ (fun r_14 u H locs hq_13 hP hD hS => ?_)
    obtain ⟨TA_15, tac_16⟩ := u
    have hP : va_P D vwCl [(ad 18, .inr (6, [.ref (ad 19), .int (iI (tl)), .int (iI (tp_12)), .int (iI (tq)), .ref (ad 20), .int (iI (tac_16))])), (ad 19, .inl (cC, 80, .inl (iA (SG)))), (ad 20, .inl (cI, 4, .inl (iA (TA_15))))] H := hP
    have hD : va_D AA [(ad 18, .inr (6, [.ref (ad 19), .int (iI (tl)), .int (iI (tp_12)), .int (iI (tq)), .ref (ad 20), .int (iI (tac_16))])), (ad 19, .inl (cC, 80, .inl (iA (SG)))), (ad 20, .inl (cI, 4, .inl (iA (TA_15))))] := hD
    try dsimp only at hq_13
    have g_kb := kpA_t (a := r_11) (p := tp_12) (TA := TA) g_tac
    rw [← hq_13] at g_kb
    dsimp only at g_kb
    refine z_mretZ ((tp_12, TA_15, tac_16)) hx hb hr hlocks dX6_readPart_70 (by omega) hP hD hS ?_
    dsimp only
    refine ⟨?_, by omega, by omega⟩
    unfold rP
    rw [if_neg (by omega), if_pos (by omega)]
    dsimp only
    rw [← h_1, ← h_2]
    exact hq_13
  by_cases k_17 : ch = 112
  · refine lv_lookup (off := 102) (tgt := 103) hx hb dX6_readPart_1 (by decide) (by rw [iI_toInt ⟨by omega, by omega⟩, k_17]; rfl) (by decide) ?_
    refine lv_aload_n hx hb dX6_readPart_103 rfl (lv_at hl 0 rfl) ?_
    refine lv_aload_n hx hb dX6_readPart_104 rfl (lv_at hl 0 rfl) ?_
    refine lv_iconst (v := iI (3)) hx hb dX6_readPart_105 rfl ?_
    refine z_muV (As := [.int (iI (3))]) (rest := [.ref (ad 18)]) (wr := [(ad 20, .inl (cI, 4, .inl (iA (TA))))]) (ws2 := (fun (u : Int) => [(ad 18, .inr (6, [.ref (ad 19), .int (iI (tl)), .int (iI (u)), .int (iI (tq)), .ref (ad 20), .int (iI (tac))])), (ad 19, .inl (cC, 80, .inl (iA (SG)))), (ad 20, .inl (cI, 4, .inl (iA (TA))))])) ⟨hx, hb, hml, hown, hts⟩ (c_X6_readDigit l D cI cZ cC H.size (ad) (SG) (tl) (tp) (tq) (tac) (3) (by first | assumption | omega) (by first | assumption | omega) (by first | assumption | omega) (by first | assumption | omega)) (cwV 1 hts gX6_readPart_X6_readDigit rfl rfl rfl (by decide +kernel) ⟨Nat.le_of_ble_eq_true rfl, Nat.le_of_ble_eq_true rfl⟩) hP hD hS hA hK [0, 1] [2] [1, 2, 0] rfl (by decide) rfl (by decide) (by decide) (by decide) (fun _ => rfl) 0 6 rfl rfl rfl rfl hl.1 rfl (Nat.le_of_ble_eq_true rfl) dX6_readPart_106 ⟨by omega, by omega⟩ (fun r_19 u H locs hq_18 hP hD hS => ?_)
    obtain ⟨tp_20, rfl⟩ : ∃ z, z = u := ⟨_, rfl⟩
    have hP : va_P D vwCl [(ad 18, .inr (6, [.ref (ad 19), .int (iI (tl)), .int (iI (tp_20)), .int (iI (tq)), .ref (ad 20), .int (iI (tac))])), (ad 19, .inl (cC, 80, .inl (iA (SG)))), (ad 20, .inl (cI, 4, .inl (iA (TA))))] H := hP
    have hD : va_D AA [(ad 18, .inr (6, [.ref (ad 19), .int (iI (tl)), .int (iI (tp_20)), .int (iI (tq)), .ref (ad 20), .int (iI (tac))])), (ad 19, .inl (cC, 80, .inl (iA (SG)))), (ad 20, .inl (cI, 4, .inl (iA (TA))))] := hD
    try dsimp only at hq_18
    have h_1 := congrArg Prod.fst hq_18
    have h_2 := congrArg Prod.snd hq_18
    dsimp only at h_1 h_2
    have g_b := rD_b g_SG 3 tp g_tp.2
    rw [← h_1, ← h_2] at g_b
    refine z_muV (As := [.int (iI (r_19))]) (rest := []) (wr := [(ad 19, .inl (cC, 80, .inl (iA (SG))))]) (ws2 := (fun (u : (Int → Int) × Int) => [(ad 18, .inr (6, [.ref (ad 19), .int (iI (tl)), .int (iI (tp_20)), .int (iI (tq)), .ref (ad 20), .int (iI (u.2))])), (ad 19, .inl (cC, 80, .inl (iA (SG)))), (ad 20, .inl (cI, 4, .inl (iA (u.1))))])) ⟨hx, hb, hml, hown, hts⟩ (c_X6_keep l D cI cZ cC H.size (ad) (SG) (tl) (tp_20) (tq) (tac) (TA) (r_19) (by first | assumption | omega) (by first | assumption | omega)) (cwV 1 hts gX6_readPart_X6_keep rfl rfl rfl (by decide +kernel) ⟨Nat.le_of_ble_eq_true rfl, Nat.le_of_ble_eq_true rfl⟩) hP hD hS hA hK [0, 2] [1] [1, 0, 2] rfl (by decide) rfl (by decide) (by decide) (by decide) (fun _ => rfl) 0 6 rfl rfl rfl rfl hl.1 rfl (Nat.le_of_ble_eq_true rfl) dX6_readPart_109 ⟨by omega, by omega⟩ (fun r_22 u H locs hq_21 hP hD hS => ?_)
    obtain ⟨TA_23, tac_24⟩ := u
    have hP : va_P D vwCl [(ad 18, .inr (6, [.ref (ad 19), .int (iI (tl)), .int (iI (tp_20)), .int (iI (tq)), .ref (ad 20), .int (iI (tac_24))])), (ad 19, .inl (cC, 80, .inl (iA (SG)))), (ad 20, .inl (cI, 4, .inl (iA (TA_23))))] H := hP
    have hD : va_D AA [(ad 18, .inr (6, [.ref (ad 19), .int (iI (tl)), .int (iI (tp_20)), .int (iI (tq)), .ref (ad 20), .int (iI (tac_24))])), (ad 19, .inl (cC, 80, .inl (iA (SG)))), (ad 20, .inl (cI, 4, .inl (iA (TA_23))))] := hD
    try dsimp only at hq_21
    have g_kb := kpA_t (a := r_19) (p := tp_20) (TA := TA) g_tac
    rw [← hq_21] at g_kb
    dsimp only at g_kb
    refine z_mretZ ((tp_20, TA_23, tac_24)) hx hb hr hlocks dX6_readPart_112 (by omega) hP hD hS ?_
    dsimp only
    refine ⟨?_, by omega, by omega⟩
    unfold rP
    rw [if_neg (by omega), if_neg (by omega), if_neg (by omega), if_neg (by omega), if_pos (by omega)]
    dsimp only
    rw [← h_1, ← h_2]
    exact hq_21
  by_cases k_25 : ch = 116
  · refine lv_lookup (off := 51) (tgt := 52) hx hb dX6_readPart_1 (by decide) (by rw [iI_toInt ⟨by omega, by omega⟩, k_25]; rfl) (by decide) ?_
    refine lv_aload_n hx hb dX6_readPart_52 rfl (lv_at hl 0 rfl) ?_
    refine lv_aload_n hx hb dX6_readPart_53 rfl (lv_at hl 0 rfl) ?_
    refine lv_iconst (v := iI (3)) hx hb dX6_readPart_54 rfl ?_
    refine z_muV (As := [.int (iI (3))]) (rest := [.ref (ad 18)]) (wr := [(ad 20, .inl (cI, 4, .inl (iA (TA))))]) (ws2 := (fun (u : Int) => [(ad 18, .inr (6, [.ref (ad 19), .int (iI (tl)), .int (iI (u)), .int (iI (tq)), .ref (ad 20), .int (iI (tac))])), (ad 19, .inl (cC, 80, .inl (iA (SG)))), (ad 20, .inl (cI, 4, .inl (iA (TA))))])) ⟨hx, hb, hml, hown, hts⟩ (c_X6_readDigit l D cI cZ cC H.size (ad) (SG) (tl) (tp) (tq) (tac) (3) (by first | assumption | omega) (by first | assumption | omega) (by first | assumption | omega) (by first | assumption | omega)) (cwV 1 hts gX6_readPart_X6_readDigit rfl rfl rfl (by decide +kernel) ⟨Nat.le_of_ble_eq_true rfl, Nat.le_of_ble_eq_true rfl⟩) hP hD hS hA hK [0, 1] [2] [1, 2, 0] rfl (by decide) rfl (by decide) (by decide) (by decide) (fun _ => rfl) 0 6 rfl rfl rfl rfl hl.1 rfl (Nat.le_of_ble_eq_true rfl) dX6_readPart_55 ⟨by omega, by omega⟩ (fun r_27 u H locs hq_26 hP hD hS => ?_)
    obtain ⟨tp_28, rfl⟩ : ∃ z, z = u := ⟨_, rfl⟩
    have hP : va_P D vwCl [(ad 18, .inr (6, [.ref (ad 19), .int (iI (tl)), .int (iI (tp_28)), .int (iI (tq)), .ref (ad 20), .int (iI (tac))])), (ad 19, .inl (cC, 80, .inl (iA (SG)))), (ad 20, .inl (cI, 4, .inl (iA (TA))))] H := hP
    have hD : va_D AA [(ad 18, .inr (6, [.ref (ad 19), .int (iI (tl)), .int (iI (tp_28)), .int (iI (tq)), .ref (ad 20), .int (iI (tac))])), (ad 19, .inl (cC, 80, .inl (iA (SG)))), (ad 20, .inl (cI, 4, .inl (iA (TA))))] := hD
    try dsimp only at hq_26
    have h_1 := congrArg Prod.fst hq_26
    have h_2 := congrArg Prod.snd hq_26
    dsimp only at h_1 h_2
    have g_b := rD_b g_SG 3 tp g_tp.2
    rw [← h_1, ← h_2] at g_b
    refine z_muV (As := [.int (iI (r_27))]) (rest := []) (wr := [(ad 19, .inl (cC, 80, .inl (iA (SG))))]) (ws2 := (fun (u : (Int → Int) × Int) => [(ad 18, .inr (6, [.ref (ad 19), .int (iI (tl)), .int (iI (tp_28)), .int (iI (tq)), .ref (ad 20), .int (iI (u.2))])), (ad 19, .inl (cC, 80, .inl (iA (SG)))), (ad 20, .inl (cI, 4, .inl (iA (u.1))))])) ⟨hx, hb, hml, hown, hts⟩ (c_X6_keep l D cI cZ cC H.size (ad) (SG) (tl) (tp_28) (tq) (tac) (TA) (r_27) (by first | assumption | omega) (by first | assumption | omega)) (cwV 1 hts gX6_readPart_X6_keep rfl rfl rfl (by decide +kernel) ⟨Nat.le_of_ble_eq_true rfl, Nat.le_of_ble_eq_true rfl⟩) hP hD hS hA hK [0, 2] [1] [1, 0, 2] rfl (by decide) rfl (by decide) (by decide) (by decide) (fun _ => rfl) 0 6 rfl rfl rfl rfl hl.1 rfl (Nat.le_of_ble_eq_true rfl) dX6_readPart_58 ⟨by omega, by omega⟩ (fun r_30 u H locs hq_29 hP hD hS => ?_)
    obtain ⟨TA_31, tac_32⟩ := u
    have hP : va_P D vwCl [(ad 18, .inr (6, [.ref (ad 19), .int (iI (tl)), .int (iI (tp_28)), .int (iI (tq)), .ref (ad 20), .int (iI (tac_32))])), (ad 19, .inl (cC, 80, .inl (iA (SG)))), (ad 20, .inl (cI, 4, .inl (iA (TA_31))))] H := hP
    have hD : va_D AA [(ad 18, .inr (6, [.ref (ad 19), .int (iI (tl)), .int (iI (tp_28)), .int (iI (tq)), .ref (ad 20), .int (iI (tac_32))])), (ad 19, .inl (cC, 80, .inl (iA (SG)))), (ad 20, .inl (cI, 4, .inl (iA (TA_31))))] := hD
    try dsimp only at hq_29
    have g_kb := kpA_t (a := r_27) (p := tp_28) (TA := TA) g_tac
    rw [← hq_29] at g_kb
    dsimp only at g_kb
    refine z_mretZ ((tp_28, TA_31, tac_32)) hx hb hr hlocks dX6_readPart_61 (by omega) hP hD hS ?_
    dsimp only
    refine ⟨?_, by omega, by omega⟩
    unfold rP
    rw [if_pos (by omega)]
    dsimp only
    rw [← h_1, ← h_2]
    exact hq_29
  by_cases k_33 : ch = 118
  · refine lv_lookup (off := 80) (tgt := 81) hx hb dX6_readPart_1 (by decide) (by rw [iI_toInt ⟨by omega, by omega⟩, k_33]; rfl) (by decide) ?_
    refine lv_aload_n hx hb dX6_readPart_81 rfl (lv_at hl 0 rfl) ?_
    refine lv_aload_n hx hb dX6_readPart_82 rfl (lv_at hl 0 rfl) ?_
    refine lv_bipush (v := iI (110)) hx hb dX6_readPart_83 (by decide) ?_
    refine z_muV (As := [.int (iI (110))]) (rest := [.ref (ad 18)]) (wr := [(ad 20, .inl (cI, 4, .inl (iA (TA))))]) (ws2 := (fun (u : Int) => [(ad 18, .inr (6, [.ref (ad 19), .int (iI (tl)), .int (iI (u)), .int (iI (tq)), .ref (ad 20), .int (iI (tac))])), (ad 19, .inl (cC, 80, .inl (iA (SG)))), (ad 20, .inl (cI, 4, .inl (iA (TA))))])) ⟨hx, hb, hml, hown, hts⟩ (c_X6_readSign l D cI cZ cC H.size (ad) (SG) (tl) (tp) (tq) (tac) (110) (by first | assumption | omega) (by first | assumption | omega) (by first | assumption | omega) (by first | assumption | omega)) (cwV 1 hts gX6_readPart_X6_readSign rfl rfl rfl (by decide +kernel) ⟨Nat.le_of_ble_eq_true rfl, Nat.le_of_ble_eq_true rfl⟩) hP hD hS hA hK [0, 1] [2] [1, 2, 0] rfl (by decide) rfl (by decide) (by decide) (by decide) (fun _ => rfl) 0 6 rfl rfl rfl rfl hl.1 rfl (Nat.le_of_ble_eq_true rfl) dX6_readPart_85 ⟨by omega, by omega⟩ (fun r_35 u H locs hq_34 hP hD hS => ?_)
    obtain ⟨tp_36, rfl⟩ : ∃ z, z = u := ⟨_, rfl⟩
    have hP : va_P D vwCl [(ad 18, .inr (6, [.ref (ad 19), .int (iI (tl)), .int (iI (tp_36)), .int (iI (tq)), .ref (ad 20), .int (iI (tac))])), (ad 19, .inl (cC, 80, .inl (iA (SG)))), (ad 20, .inl (cI, 4, .inl (iA (TA))))] H := hP
    have hD : va_D AA [(ad 18, .inr (6, [.ref (ad 19), .int (iI (tl)), .int (iI (tp_36)), .int (iI (tq)), .ref (ad 20), .int (iI (tac))])), (ad 19, .inl (cC, 80, .inl (iA (SG)))), (ad 20, .inl (cI, 4, .inl (iA (TA))))] := hD
    try dsimp only at hq_34
    have h_1 := congrArg Prod.fst hq_34
    have h_2 := congrArg Prod.snd hq_34
    dsimp only at h_1 h_2
    have g_b := rS_b g_SG 110 tp (by omega) g_tp.2
    rw [← h_1, ← h_2] at g_b
    refine z_if_eq (tgt := 95) hx hb dX6_readPart_88 (by decide) ⟨by omega, by omega⟩ (fun c_37 => ?_) (fun c_37 => ?_)
    · refine lv_aload_n hx hb dX6_readPart_95 rfl (lv_at hl 0 rfl) ?_
      refine z_muV (As := []) (rest := [.ref (ad 18)]) (wr := [(ad 20, .inl (cI, 4, .inl (iA (TA))))]) (ws2 := (fun (u : Int) => [(ad 18, .inr (6, [.ref (ad 19), .int (iI (tl)), .int (iI (u)), .int (iI (tq)), .ref (ad 20), .int (iI (tac))])), (ad 19, .inl (cC, 80, .inl (iA (SG)))), (ad 20, .inl (cI, 4, .inl (iA (TA))))])) ⟨hx, hb, hml, hown, hts⟩ (c_X6_readKey l D cI cZ cC H.size (ad) (SG) (tl) (tp_36) (tq) (tac) (by first | assumption | omega) (by first | assumption | omega) (by first | assumption | omega)) (cwV 0 hts gX6_readPart_X6_readKey rfl rfl rfl (by decide +kernel) ⟨Nat.le_of_ble_eq_true rfl, Nat.le_of_ble_eq_true rfl⟩) hP hD hS hA hK [0, 1] [2] [1, 2, 0] rfl (by decide) rfl (by decide) (by decide) (by decide) (fun _ => rfl) 0 6 rfl rfl rfl rfl hl.1 rfl (Nat.le_of_ble_eq_true rfl) dX6_readPart_96 ⟨by omega, by omega⟩ (fun r_39 u H locs hq_38 hP hD hS => ?_)
      obtain ⟨tp_40, rfl⟩ : ∃ z, z = u := ⟨_, rfl⟩
      have hP : va_P D vwCl [(ad 18, .inr (6, [.ref (ad 19), .int (iI (tl)), .int (iI (tp_40)), .int (iI (tq)), .ref (ad 20), .int (iI (tac))])), (ad 19, .inl (cC, 80, .inl (iA (SG)))), (ad 20, .inl (cI, 4, .inl (iA (TA))))] H := hP
      have hD : va_D AA [(ad 18, .inr (6, [.ref (ad 19), .int (iI (tl)), .int (iI (tp_40)), .int (iI (tq)), .ref (ad 20), .int (iI (tac))])), (ad 19, .inl (cC, 80, .inl (iA (SG)))), (ad 20, .inl (cI, 4, .inl (iA (TA))))] := hD
      try dsimp only at hq_38
      have h_3 := congrArg Prod.fst hq_38
      have h_4 := congrArg Prod.snd hq_38
      dsimp only at h_3 h_4
      have g_b2 := rK_b g_SG _ g_b.2.2
      rw [← h_3, ← h_4] at g_b2
      refine z_muV (As := [.int (iI (r_39))]) (rest := []) (wr := [(ad 19, .inl (cC, 80, .inl (iA (SG))))]) (ws2 := (fun (u : (Int → Int) × Int) => [(ad 18, .inr (6, [.ref (ad 19), .int (iI (tl)), .int (iI (tp_40)), .int (iI (tq)), .ref (ad 20), .int (iI (u.2))])), (ad 19, .inl (cC, 80, .inl (iA (SG)))), (ad 20, .inl (cI, 4, .inl (iA (u.1))))])) ⟨hx, hb, hml, hown, hts⟩ (c_X6_keep l D cI cZ cC H.size (ad) (SG) (tl) (tp_40) (tq) (tac) (TA) (r_39) (by first | assumption | omega) (by first | assumption | omega)) (cwV 1 hts gX6_readPart_X6_keep rfl rfl rfl (by decide +kernel) ⟨Nat.le_of_ble_eq_true rfl, Nat.le_of_ble_eq_true rfl⟩) hP hD hS hA hK [0, 2] [1] [1, 0, 2] rfl (by decide) rfl (by decide) (by decide) (by decide) (fun _ => rfl) 0 6 rfl rfl rfl rfl hl.1 rfl (Nat.le_of_ble_eq_true rfl) dX6_readPart_99 ⟨by omega, by omega⟩ (fun r_42 u H locs hq_41 hP hD hS => ?_)
      obtain ⟨TA_43, tac_44⟩ := u
      have hP : va_P D vwCl [(ad 18, .inr (6, [.ref (ad 19), .int (iI (tl)), .int (iI (tp_40)), .int (iI (tq)), .ref (ad 20), .int (iI (tac_44))])), (ad 19, .inl (cC, 80, .inl (iA (SG)))), (ad 20, .inl (cI, 4, .inl (iA (TA_43))))] H := hP
      have hD : va_D AA [(ad 18, .inr (6, [.ref (ad 19), .int (iI (tl)), .int (iI (tp_40)), .int (iI (tq)), .ref (ad 20), .int (iI (tac_44))])), (ad 19, .inl (cC, 80, .inl (iA (SG)))), (ad 20, .inl (cI, 4, .inl (iA (TA_43))))] := hD
      try dsimp only at hq_41
      have g_kb := kpA_t (a := r_39) (p := tp_40) (TA := TA) g_tac
      rw [← hq_41] at g_kb
      dsimp only at g_kb
      refine z_mretZ ((tp_40, TA_43, tac_44)) hx hb hr hlocks dX6_readPart_102 (by omega) hP hD hS ?_
      dsimp only
      refine ⟨?_, by omega, by omega⟩
      unfold rP
      rw [if_neg (by omega), if_neg (by omega), if_neg (by omega), if_pos (by omega)]
      dsimp only
      rw [if_pos (by rw [← h_1]; omega), ← h_2, ← h_3, ← h_4]
      exact hq_41
    · refine lv_iconst (v := iI (-1)) hx hb dX6_readPart_91 rfl ?_
      refine lv_goto (tgt := 99) hx hb dX6_readPart_92 (by decide) ?_
      refine z_muV (As := [.int (iI ((-1)))]) (rest := []) (wr := [(ad 19, .inl (cC, 80, .inl (iA (SG))))]) (ws2 := (fun (u : (Int → Int) × Int) => [(ad 18, .inr (6, [.ref (ad 19), .int (iI (tl)), .int (iI (tp_36)), .int (iI (tq)), .ref (ad 20), .int (iI (u.2))])), (ad 19, .inl (cC, 80, .inl (iA (SG)))), (ad 20, .inl (cI, 4, .inl (iA (u.1))))])) ⟨hx, hb, hml, hown, hts⟩ (c_X6_keep l D cI cZ cC H.size (ad) (SG) (tl) (tp_36) (tq) (tac) (TA) ((-1)) (by first | assumption | omega) (by first | assumption | omega)) (cwV 1 hts gX6_readPart_X6_keep rfl rfl rfl (by decide +kernel) ⟨Nat.le_of_ble_eq_true rfl, Nat.le_of_ble_eq_true rfl⟩) hP hD hS hA hK [0, 2] [1] [1, 0, 2] rfl (by decide) rfl (by decide) (by decide) (by decide) (fun _ => rfl) 0 6 rfl rfl rfl rfl hl.1 rfl (Nat.le_of_ble_eq_true rfl) dX6_readPart_99 ⟨by omega, by omega⟩ (fun r_46 u H locs hq_45 hP hD hS => ?_)
      obtain ⟨TA_47, tac_48⟩ := u
      have hP : va_P D vwCl [(ad 18, .inr (6, [.ref (ad 19), .int (iI (tl)), .int (iI (tp_36)), .int (iI (tq)), .ref (ad 20), .int (iI (tac_48))])), (ad 19, .inl (cC, 80, .inl (iA (SG)))), (ad 20, .inl (cI, 4, .inl (iA (TA_47))))] H := hP
      have hD : va_D AA [(ad 18, .inr (6, [.ref (ad 19), .int (iI (tl)), .int (iI (tp_36)), .int (iI (tq)), .ref (ad 20), .int (iI (tac_48))])), (ad 19, .inl (cC, 80, .inl (iA (SG)))), (ad 20, .inl (cI, 4, .inl (iA (TA_47))))] := hD
      try dsimp only at hq_45
      have g_kb := kpA_t (a := -1) (p := tp_36) (TA := TA) g_tac
      rw [← hq_45] at g_kb
      dsimp only at g_kb
      refine z_mretZ ((tp_36, TA_47, tac_48)) hx hb hr hlocks dX6_readPart_102 (by omega) hP hD hS ?_
      dsimp only
      refine ⟨?_, by omega, by omega⟩
      unfold rP
      rw [if_neg (by omega), if_neg (by omega), if_neg (by omega), if_pos (by omega)]
      dsimp only
      rw [if_neg (by rw [← h_1]; omega), ← h_2]
      exact hq_45
  refine lv_lookup (off := 112) (tgt := 113) hx hb dX6_readPart_1 (by decide) (by rw [iI_toInt ⟨by omega, by omega⟩]; simp only [Op.lookupswitch.offset_cons]; rw [if_neg (by omega)]; rw [if_neg (by omega)]; rw [if_neg (by omega)]; rw [if_neg (by omega)]; rw [if_neg (by omega)]; rfl) (by decide) ?_
  refine lv_aload_n hx hb dX6_readPart_113 rfl (lv_at hl 0 rfl) ?_
  refine lv_iload_n hx hb dX6_readPart_114 rfl (lv_at hl 1 rfl) ?_
  refine z_muV (As := [.int (iI (ch))]) (rest := []) (wr := [(ad 20, .inl (cI, 4, .inl (iA (TA))))]) (ws2 := (fun (u : Int) => [(ad 18, .inr (6, [.ref (ad 19), .int (iI (tl)), .int (iI (u)), .int (iI (tq)), .ref (ad 20), .int (iI (tac))])), (ad 19, .inl (cC, 80, .inl (iA (SG)))), (ad 20, .inl (cI, 4, .inl (iA (TA))))])) ⟨hx, hb, hml, hown, hts⟩ (c_X6_readSign l D cI cZ cC H.size (ad) (SG) (tl) (tp) (tq) (tac) (ch) (by first | assumption | omega) (by first | assumption | omega) (by first | assumption | omega) (by first | assumption | omega)) (cwV 1 hts gX6_readPart_X6_readSign rfl rfl rfl (by decide +kernel) ⟨Nat.le_of_ble_eq_true rfl, Nat.le_of_ble_eq_true rfl⟩) hP hD hS hA hK [0, 1] [2] [1, 2, 0] rfl (by decide) rfl (by decide) (by decide) (by decide) (fun _ => rfl) 0 6 rfl rfl rfl rfl hl.1 rfl (Nat.le_of_ble_eq_true rfl) dX6_readPart_115 ⟨by omega, by omega⟩ (fun r_50 u H locs hq_49 hP hD hS => ?_)
  obtain ⟨tp_51, rfl⟩ : ∃ z, z = u := ⟨_, rfl⟩
  have hP : va_P D vwCl [(ad 18, .inr (6, [.ref (ad 19), .int (iI (tl)), .int (iI (tp_51)), .int (iI (tq)), .ref (ad 20), .int (iI (tac))])), (ad 19, .inl (cC, 80, .inl (iA (SG)))), (ad 20, .inl (cI, 4, .inl (iA (TA))))] H := hP
  have hD : va_D AA [(ad 18, .inr (6, [.ref (ad 19), .int (iI (tl)), .int (iI (tp_51)), .int (iI (tq)), .ref (ad 20), .int (iI (tac))])), (ad 19, .inl (cC, 80, .inl (iA (SG)))), (ad 20, .inl (cI, 4, .inl (iA (TA))))] := hD
  try dsimp only at hq_49
  have h_1 := congrArg Prod.fst hq_49
  have h_2 := congrArg Prod.snd hq_49
  dsimp only at h_1 h_2
  have g_b := rS_b g_SG ch tp g_ch.1 g_tp.2
  rw [← h_1, ← h_2] at g_b
  refine z_mretZ ((tp_51, TA, tac)) hx hb hr hlocks dX6_readPart_118 (by omega) hP hD hS ?_
  dsimp only
  refine ⟨?_, by omega, by omega⟩
  unfold rP
  rw [if_neg (by omega), if_neg (by omega), if_neg (by omega), if_neg (by omega), if_neg (by omega)]
  dsimp only
  rw [← h_1, ← h_2]

set_option maxHeartbeats 600000 in
set_option maxRecDepth 100000 in
theorem c_X6_readCommand (l : Launch) (D : va_G) (cI cZ cC : ClassId) (b0 : Nat) (adK adV : Nat → Nat) (sz : Nat) (ad : Nat → Nat) (SG : Int → Int) (tl tp tq tac : Int) (TA : Int → Int) (g_SG : ∀ j : Int, 0 ≤ j → j < 80 → 0 ≤ SG j ∧ SG j < 128) (g_tl : 0 ≤ tl ∧ tl ≤ 80) (g_tp : 0 ≤ tp ∧ tp ≤ tl) : zMiE l yX6_readCommand wsX6_readCommand ({ frames := 4, cells := 0, slots := 0, locals := 106 }) D cI cZ cC b0 adK adV [(ad 18, .inr (6, [.ref (ad 19), .int (iI (tl)), .int (iI (tp)), .int (iI (tq)), .ref (ad 20), .int (iI (tac))])), (ad 19, .inl (cC, 80, .inl (iA (SG)))), (ad 20, .inl (cI, 4, .inl (iA (TA))))] sz [.ref (ad 18)] (0) (0) (fun (u : Int × Int × (Int → Int) × Int) => [(ad 18, .inr (6, [.ref (ad 19), .int (iI (tl)), .int (iI (u.1)), .int (iI (u.2.1)), .ref (ad 20), .int (iI (u.2.2.2))])), (ad 19, .inl (cC, 80, .inl (iA (SG)))), (ad 20, .inl (cI, 4, .inl (iA (u.2.2.1))))]) (fun v (u : Int × Int × (Int → Int) × Int) => (v, (u.1, u.2.2.1, u.2.2.2)) = rC SG tl tp TA ∧ u.2.1 = sgn SG tl tp ∧ (v = 0 ∨ v = 1) ∧ 0 ≤ u.2.2.2 ∧ u.2.2.2 ≤ 4) := by
  refine z_ofMiE (cc := cX6_readCommand) (maxL := 3) (ret := (some .boolean)) RX6 (by decide +kernel) rfl rfl (Nat.le_of_ble_eq_true rfl) ?_
  intro p0 en0 s0 m0 args0 below0 meth0 c0 ls AA hx hb hr hlocks hml hown hts hE hAb hbs hP hD hS hA hK hl
  have hl : lv_has ls 3 [(0, .ref (ad 18))] := hl
  obtain ⟨H, hH⟩ : ∃ H, H = s0.heap := ⟨_, rfl⟩
  obtain ⟨locs, hlo⟩ : ∃ locs : List Loc, locs = [] := ⟨_, rfl⟩
  have hP : va_P D vwCl [(ad 18, .inr (6, [.ref (ad 19), .int (iI (tl)), .int (iI (tp)), .int (iI (tq)), .ref (ad 20), .int (iI (tac))])), (ad 19, .inl (cC, 80, .inl (iA (SG)))), (ad 20, .inl (cI, 4, .inl (iA (TA))))] H := by rw [hH]; exact hP
  have hS : va_S AA s0.heap H locs := by rw [hH, hlo]; exact hS
  suffices hW : W p0 l en0 (headSpec wsX6_readCommand ({ frames := 4, cells := 0, slots := 0, locals := 106 })).room s0 m0 args0 below0 meth0 c0 H locs 0 0 (QMi below0 D ((fun (u : Int × Int × (Int → Int) × Int) => [(ad 18, .inr (6, [.ref (ad 19), .int (iI (tl)), .int (iI (u.1)), .int (iI (u.2.1)), .ref (ad 20), .int (iI (u.2.2.2))])), (ad 19, .inl (cC, 80, .inl (iA (SG)))), (ad 20, .inl (cI, 4, .inl (iA (u.2.2.1))))])) (fun v (u : Int × Int × (Int → Int) × Int) => (v, (u.1, u.2.2.1, u.2.2.2)) = rC SG tl tp TA ∧ u.2.1 = sgn SG tl tp ∧ (v = 0 ∨ v = 1) ∧ 0 ≤ u.2.2.2 ∧ u.2.2.2 ≤ 4) AA args0 s0 (0) (0)) (F0 m0 0 ls []) by rw [hH, hlo] at hW; exact hW
  have g_s := sgn_b g_SG tl tp
  have h_t0 : tlen 0 = 7 := rfl
  refine lv_aload_n hx hb dX6_readCommand_0 rfl (lv_at hl 0 rfl) ?_
  refine lv_aload_n hx hb dX6_readCommand_1 rfl (lv_at hl 0 rfl) ?_
  refine lv_aload_n hx hb dX6_readCommand_2 rfl (lv_at hl 0 rfl) ?_
  refine va_get (D := D) (ci := 6) (v := .int (iI (tp))) (C := RX6) (T := TX6) (N := 6) hx hb hts (fun _ h => List.mem_cons_of_mem _ (List.mem_append_right _ (h))) hown hK.1 hP 0 rfl rfl 2 (by decide) (hts (.fieldLink RX6 19 "ForeignKeyStore$Text" "position" "I") (List.mem_of_getElem? (i := 1) rfl)) (fun _ h9 => h9) rfl dX6_readCommand_3 ?_
  refine z_roV (As := [.int (iI (tp))]) (rest := [.ref (ad 18)]) ⟨hx, hb, hml, hown, hts⟩ (c_X6_signAt l D cI cZ cC (ad) (SG) (tl) (tp) (tq) (tac) (tp) (by first | assumption | omega) (by first | assumption | omega)) (cwV 1 hts gX6_readCommand_X6_signAt rfl rfl rfl (by decide +kernel) ⟨Nat.le_of_ble_eq_true rfl, Nat.le_of_ble_eq_true rfl⟩) hP hK [0, 1] rfl 0 6 rfl rfl rfl rfl hl.1 rfl (Nat.le_of_ble_eq_true rfl) dX6_readCommand_6 ⟨by omega, by omega⟩ ?_
  have hf_1 := sgn_b g_SG tl (tp)
  refine va_put (D := D) (ci := 6) (v := .int (iI ((sgn SG tl tp)))) (ty := .int) (C := RX6) (T := TX6) (N := 6) hx hb hts (fun _ h => List.mem_cons_of_mem _ (List.mem_append_right _ (h))) tyX6 tyX6_ok nmX6 hown hK.1 hP hD hS 0 rfl rfl 3 (by decide) (hts (.fieldLink RX6 22 "ForeignKeyStore$Text" "letter" "I") (List.mem_of_getElem? (i := 2) rfl)) (fun _ h9 => h9) rfl (by decide +kernel) rfl rfl (Nat.le_of_ble_eq_true rfl) dX6_readCommand_9 (fun H locs hP hD hS => ?_)
  have hP : va_P D vwCl [(ad 18, .inr (6, [.ref (ad 19), .int (iI (tl)), .int (iI (tp)), .int (iI ((sgn SG tl tp))), .ref (ad 20), .int (iI (tac))])), (ad 19, .inl (cC, 80, .inl (iA (SG)))), (ad 20, .inl (cI, 4, .inl (iA (TA))))] H := hP
  have hD : va_D AA [(ad 18, .inr (6, [.ref (ad 19), .int (iI (tl)), .int (iI (tp)), .int (iI ((sgn SG tl tp))), .ref (ad 20), .int (iI (tac))])), (ad 19, .inl (cC, 80, .inl (iA (SG)))), (ad 20, .inl (cI, 4, .inl (iA (TA))))] := hD
  refine lv_aload_n hx hb dX6_readCommand_12 rfl (lv_at hl 0 rfl) ?_
  refine lv_iconst (v := iI (0)) hx hb dX6_readCommand_13 rfl ?_
  refine va_put (D := D) (ci := 6) (v := .int (iI (0))) (ty := .int) (C := RX6) (T := TX6) (N := 6) hx hb hts (fun _ h => List.mem_cons_of_mem _ (List.mem_append_right _ (h))) tyX6 tyX6_ok nmX6 hown hK.1 hP hD hS 0 rfl rfl 5 (by decide) (hts (.fieldLink RX6 29 "ForeignKeyStore$Text" "argumentCount" "I") (List.mem_of_getElem? (i := 3) rfl)) (fun _ h9 => h9) rfl (by decide +kernel) rfl rfl (Nat.le_of_ble_eq_true rfl) dX6_readCommand_14 (fun H locs hP hD hS => ?_)
  have hP : va_P D vwCl [(ad 18, .inr (6, [.ref (ad 19), .int (iI (tl)), .int (iI (tp)), .int (iI ((sgn SG tl tp))), .ref (ad 20), .int (iI (0))])), (ad 19, .inl (cC, 80, .inl (iA (SG)))), (ad 20, .inl (cI, 4, .inl (iA (TA))))] H := hP
  have hD : va_D AA [(ad 18, .inr (6, [.ref (ad 19), .int (iI (tl)), .int (iI (tp)), .int (iI ((sgn SG tl tp))), .ref (ad 20), .int (iI (0))])), (ad 19, .inl (cC, 80, .inl (iA (SG)))), (ad 20, .inl (cI, 4, .inl (iA (TA))))] := hD
  refine lv_aload_n hx hb dX6_readCommand_17 rfl (lv_at hl 0 rfl) ?_
  refine va_get (D := D) (ci := 6) (v := .int (iI ((sgn SG tl tp)))) (C := RX6) (T := TX6) (N := 6) hx hb hts (fun _ h => List.mem_cons_of_mem _ (List.mem_append_right _ (h))) hown hK.1 hP 0 rfl rfl 3 (by decide) (hts (.fieldLink RX6 22 "ForeignKeyStore$Text" "letter" "I") (List.mem_of_getElem? (i := 2) rfl)) (fun _ h9 => h9) rfl dX6_readCommand_18 ?_
  refine lv_iconst (v := iI (-1)) hx hb dX6_readCommand_21 rfl ?_
  refine z_icmp_eq (tgt := 38) hx hb dX6_readCommand_22 (by decide) ⟨⟨by omega, by omega⟩, ⟨by omega, by omega⟩⟩ (fun c_2 => ?_) (fun c_2 => ?_)
  · refine lv_iconst (v := iI (0)) hx hb dX6_readCommand_38 rfl ?_
    refine z_mretZ ((tp, (sgn SG tl tp), TA, 0)) hx hb hr hlocks dX6_readCommand_39 (by omega) hP hD hS ?_
    dsimp only
    refine ⟨?_, rfl, by omega, by omega, by omega⟩
    rw [rC_f (fun q => q.1 (by omega))]
  · refine va_ldcS hx hb hown hE.2.2.2.1 dX6_readCommand_25 ?_
    refine lv_aload_n hx hb dX6_readCommand_27 rfl (lv_at hl 0 rfl) ?_
    refine va_get (D := D) (ci := 6) (v := .int (iI ((sgn SG tl tp)))) (C := RX6) (T := TX6) (N := 6) hx hb hts (fun _ h => List.mem_cons_of_mem _ (List.mem_append_right _ (h))) hown hK.1 hP 0 rfl rfl 3 (by decide) (hts (.fieldLink RX6 22 "ForeignKeyStore$Text" "letter" "I") (List.mem_of_getElem? (i := 2) rfl)) (fun _ h9 => h9) rfl dX6_readCommand_28 ?_
    refine lv_i2c (v := iI ((sgn SG tl tp))) hx hb dX6_readCommand_31 (i2c_I (by omega)) ?_
    refine z_jrV (i := 0) (As := [.int (iI ((sgn SG tl tp)))]) (rest := []) ⟨hx, hb, hml, hown, hts⟩ (c_J0_indexOf_0f7a4 l b0 adK adV (0) ((sgn SG tl tp)) (by first | assumption | omega) (by first | assumption | omega)) (cwV 1 hts gX6_readCommand_J0_indexOf_0f7a4 rfl rfl rfl (by decide +kernel) ⟨Nat.le_of_ble_eq_true rfl, Nat.le_of_ble_eq_true rfl⟩) hE (va_S.wide hS hAb) (by first | assumption | omega) rfl hl.1 rfl (Nat.le_of_ble_eq_true rfl) dX6_readCommand_32 ⟨by omega, by omega⟩ ?_
    have hf_3 := ixF_b (0) (((sgn SG tl tp))) (tlen (0)) 0
    refine z_if_ge (tgt := 40) hx hb dX6_readCommand_35 (by decide) ⟨by omega, by omega⟩ (fun c_4 => ?_) (fun c_4 => ?_)
    · have h_lt : isLt (sgn SG tl tp) := ⟨by omega, by omega⟩
      have g_s2 := g_s.2.2 h_lt.1
      have h_t8 := tlen_b _ (frm_lt (sgn SG tl tp))
      refine lv_aload_n hx hb dX6_readCommand_40 rfl (lv_at hl 0 rfl) ?_
      refine lv_dup hx hb dX6_readCommand_41 rfl ?_
      refine va_get (D := D) (ci := 6) (v := .int (iI (tp))) (C := RX6) (T := TX6) (N := 6) hx hb hts (fun _ h => List.mem_cons_of_mem _ (List.mem_append_right _ (h))) hown hK.1 hP 0 rfl rfl 2 (by decide) (hts (.fieldLink RX6 19 "ForeignKeyStore$Text" "position" "I") (List.mem_of_getElem? (i := 1) rfl)) (fun _ h9 => h9) rfl dX6_readCommand_42 ?_
      refine lv_iconst (v := iI (1)) hx hb dX6_readCommand_45 rfl ?_
      refine z_iadd hx hb dX6_readCommand_46 ?_
      refine va_put (D := D) (ci := 6) (v := .int (iI ((tp + 1)))) (ty := .int) (C := RX6) (T := TX6) (N := 6) hx hb hts (fun _ h => List.mem_cons_of_mem _ (List.mem_append_right _ (h))) tyX6 tyX6_ok nmX6 hown hK.1 hP hD hS 0 rfl rfl 2 (by decide) (hts (.fieldLink RX6 19 "ForeignKeyStore$Text" "position" "I") (List.mem_of_getElem? (i := 1) rfl)) (fun _ h9 => h9) rfl (by decide +kernel) rfl rfl (Nat.le_of_ble_eq_true rfl) dX6_readCommand_47 (fun H locs hP hD hS => ?_)
      have hP : va_P D vwCl [(ad 18, .inr (6, [.ref (ad 19), .int (iI (tl)), .int (iI ((tp + 1))), .int (iI ((sgn SG tl tp))), .ref (ad 20), .int (iI (0))])), (ad 19, .inl (cC, 80, .inl (iA (SG)))), (ad 20, .inl (cI, 4, .inl (iA (TA))))] H := hP
      have hD : va_D AA [(ad 18, .inr (6, [.ref (ad 19), .int (iI (tl)), .int (iI ((tp + 1))), .int (iI ((sgn SG tl tp))), .ref (ad 20), .int (iI (0))])), (ad 19, .inl (cC, 80, .inl (iA (SG)))), (ad 20, .inl (cI, 4, .inl (iA (TA))))] := hD
      refine lv_aload_n hx hb dX6_readCommand_50 rfl (lv_at hl 0 rfl) ?_
      refine va_get (D := D) (ci := 6) (v := .int (iI ((sgn SG tl tp)))) (C := RX6) (T := TX6) (N := 6) hx hb hts (fun _ h => List.mem_cons_of_mem _ (List.mem_append_right _ (h))) hown hK.1 hP 0 rfl rfl 3 (by decide) (hts (.fieldLink RX6 22 "ForeignKeyStore$Text" "letter" "I") (List.mem_of_getElem? (i := 2) rfl)) (fun _ h9 => h9) rfl dX6_readCommand_51 ?_
      have h_fr := frm_lt ((sgn SG tl tp))
      refine z_jsS (As := [.int (iI ((sgn SG tl tp)))]) (rest := []) ⟨hx, hb, hml, hown, hts⟩ (c_X6_formOf l b0 adK adV ((sgn SG tl tp)) ⟨by omega, by omega⟩) (va_cwS 1 hts gX6_readCommand_X6_formOf rfl rfl rfl (by decide +kernel) ⟨Nat.le_of_ble_eq_true rfl, Nat.le_of_ble_eq_true rfl⟩) hE (va_S.wide hS hAb) rfl hl.1 rfl (Nat.le_of_ble_eq_true rfl) dX6_readCommand_54 ⟨by omega, by omega⟩ ?_
      refine lv_astore_n (lv' := [(1, .ref (adK (frm ((sgn SG tl tp))))), (0, .ref (ad 18))]) hx hb dX6_readCommand_57 rfl hl (by decide) rfl (fun ls hl => ?_)
      refine lv_iconst (v := iI (0)) hx hb dX6_readCommand_58 rfl ?_
      refine lv_istore_n (lv' := [(2, .int (iI (0))), (1, .ref (adK (frm ((sgn SG tl tp))))), (0, .ref (ad 18))]) hx hb dX6_readCommand_59 rfl hl (by decide) rfl (fun ls hl => ?_)
      have loop60 : ∀ (fu : Nat) (i : Nat) (px : Int) (TAx : Int → Int) (tx : Int), (g_i : i ≤ tlen (frm (sgn SG tl tp))) → (g_fu : tlen (frm (sgn SG tl tp)) < i + fu) → (g_px : 0 ≤ px ∧ px ≤ tl) → (g_tx : 0 ≤ tx ∧ tx ≤ 4) → (g_c : rF SG tl (frm (sgn SG tl tp)) (tlen (frm (sgn SG tl tp))) 0 (tp + 1, TA, 0) = rF SG tl (frm (sgn SG tl tp)) (tlen (frm (sgn SG tl tp)) - i) i (px, TAx, tx)) → ∀ (H : Heap) (locs : List Loc), va_P D vwCl [(ad 18, .inr (6, [.ref (ad 19), .int (iI (tl)), .int (iI (px)), .int (iI (sgn SG tl tp)), .ref (ad 20), .int (iI (tx))])), (ad 19, .inl (cC, 80, .inl (iA (SG)))), (ad 20, .inl (cI, 4, .inl (iA (TAx))))] H → va_D AA [(ad 18, .inr (6, [.ref (ad 19), .int (iI (tl)), .int (iI (px)), .int (iI (sgn SG tl tp)), .ref (ad 20), .int (iI (tx))])), (ad 19, .inl (cC, 80, .inl (iA (SG)))), (ad 20, .inl (cI, 4, .inl (iA (TAx))))] → va_S AA s0.heap H locs → ∀ ls : Array Slot, lv_has ls 3 [(2, .int (iI ((i : Int)))), (1, .ref (adK (frm (sgn SG tl tp)))), (0, .ref (ad 18))] → W p0 l en0 (headSpec wsX6_readCommand ({ frames := 4, cells := 0, slots := 0, locals := 106 })).room s0 m0 args0 below0 meth0 c0 H locs 0 0 (QMi below0 D ((fun (u : Int × Int × (Int → Int) × Int) => [(ad 18, .inr (6, [.ref (ad 19), .int (iI (tl)), .int (iI (u.1)), .int (iI (u.2.1)), .ref (ad 20), .int (iI (u.2.2.2))])), (ad 19, .inl (cC, 80, .inl (iA (SG)))), (ad 20, .inl (cI, 4, .inl (iA (u.2.2.1))))])) (fun v (u : Int × Int × (Int → Int) × Int) => (v, (u.1, u.2.2.1, u.2.2.2)) = rC SG tl tp TA ∧ u.2.1 = sgn SG tl tp ∧ (v = 0 ∨ v = 1) ∧ 0 ≤ u.2.2.2 ∧ u.2.2.2 ≤ 4) AA args0 s0 (0) (0)) (F0 m0 60 ls []) := by
        intro fu
        induction fu with
        | zero => intro i px TAx tx g_i g_fu g_px g_tx g_c H locs hP hD hS ls hl; exfalso; omega
        | succ fu ih60 =>
          intro i px TAx tx g_i g_fu g_px g_tx g_c H locs hP hD hS ls hl
          refine lv_iload_n hx hb dX6_readCommand_60 rfl (lv_at hl 0 rfl) ?_
          refine lv_aload_n hx hb dX6_readCommand_61 rfl (lv_at hl 1 rfl) ?_
          refine z_jrV (i := (frm (sgn SG tl tp))) (As := []) (rest := [.int (iI ((i : Int)))]) ⟨hx, hb, hml, hown, hts⟩ (c_J0_length_8abf5 l b0 adK adV ((frm (sgn SG tl tp))) (by first | assumption | omega)) (cwV 0 hts gX6_readCommand_J0_length_8abf5 rfl rfl rfl (by decide +kernel) ⟨Nat.le_of_ble_eq_true rfl, Nat.le_of_ble_eq_true rfl⟩) hE (va_S.wide hS hAb) (by first | assumption | omega) rfl hl.1 rfl (Nat.le_of_ble_eq_true rfl) dX6_readCommand_62 ⟨by omega, by omega⟩ ?_
          refine z_icmp_ge (tgt := 88) hx hb dX6_readCommand_65 (by decide) ⟨⟨by omega, by omega⟩, ⟨by omega, by omega⟩⟩ (fun c_5 => ?_) (fun c_5 => ?_)
          · refine lv_iconst (v := iI (1)) hx hb dX6_readCommand_88 rfl ?_
            refine z_mretZ ((px, sgn SG tl tp, TAx, tx)) hx hb hr hlocks dX6_readCommand_89 (by omega) hP hD hS ?_
            dsimp only
            refine ⟨?_, rfl, by omega, by omega, by omega⟩
            rw [rC_t h_lt, g_c, show tlen (frm (sgn SG tl tp)) - i = 0 by omega]
            rfl
          · refine lv_aload_n hx hb dX6_readCommand_68 rfl (lv_at hl 2 rfl) ?_
            refine lv_aload_n hx hb dX6_readCommand_69 rfl (lv_at hl 1 rfl) ?_
            refine lv_iload_n hx hb dX6_readCommand_70 rfl (lv_at hl 0 rfl) ?_
            refine z_jrV (i := (frm (sgn SG tl tp))) (As := [.int (iI ((i : Int)))]) (rest := [.ref (ad 18)]) ⟨hx, hb, hml, hown, hts⟩ (c_J0_charAt_5068e l b0 adK adV ((frm (sgn SG tl tp))) ((i : Int)) (by first | assumption | omega) (⟨by omega, by omega⟩)) (cwV 1 hts gX6_readCommand_J0_charAt_5068e rfl rfl rfl (by decide +kernel) ⟨Nat.le_of_ble_eq_true rfl, Nat.le_of_ble_eq_true rfl⟩) hE (va_S.wide hS hAb) (by first | assumption | omega) rfl hl.1 rfl (Nat.le_of_ble_eq_true rfl) dX6_readCommand_71 ⟨by omega, by omega⟩ ?_
            refine z_muV (As := [.int (iI ((chr ((frm (sgn SG tl tp))) ((i : Int)))))]) (rest := []) (wr := []) (ws2 := (fun (u : Int × (Int → Int) × Int) => [(ad 18, .inr (6, [.ref (ad 19), .int (iI (tl)), .int (iI (u.1)), .int (iI ((sgn SG tl tp))), .ref (ad 20), .int (iI (u.2.2))])), (ad 19, .inl (cC, 80, .inl (iA (SG)))), (ad 20, .inl (cI, 4, .inl (iA (u.2.1))))])) ⟨hx, hb, hml, hown, hts⟩ (c_X6_readPart l D cI cZ cC H.size (ad) (SG) (tl) (px) (sgn SG tl tp) (tx) (TAx) ((chr ((frm (sgn SG tl tp))) ((i : Int)))) (by first | assumption | omega) (by first | assumption | omega) (⟨by omega, by omega⟩) (⟨by omega, by omega⟩) (⟨(chr_b h_fr _).1, by have := (chr_b h_fr (i : Int)).2; omega⟩)) (cwV 1 hts gX6_readCommand_X6_readPart rfl rfl rfl (by decide +kernel) ⟨Nat.le_of_ble_eq_true rfl, Nat.le_of_ble_eq_true rfl⟩) hP hD hS hA hK [0, 1, 2] [] [0, 1, 2] rfl (by decide) rfl (by decide) (by decide) (by decide) (fun _ => rfl) 0 6 rfl rfl rfl rfl hl.1 rfl (Nat.le_of_ble_eq_true rfl) dX6_readCommand_74 ⟨by omega, by omega⟩ (fun r_7 u H locs hq_6 hP hD hS => ?_)
            obtain ⟨tp_8, TA_9, tac_10⟩ := u
            have hP : va_P D vwCl [(ad 18, .inr (6, [.ref (ad 19), .int (iI (tl)), .int (iI (tp_8)), .int (iI ((sgn SG tl tp))), .ref (ad 20), .int (iI (tac_10))])), (ad 19, .inl (cC, 80, .inl (iA (SG)))), (ad 20, .inl (cI, 4, .inl (iA (TA_9))))] H := hP
            have hD : va_D AA [(ad 18, .inr (6, [.ref (ad 19), .int (iI (tl)), .int (iI (tp_8)), .int (iI ((sgn SG tl tp))), .ref (ad 20), .int (iI (tac_10))])), (ad 19, .inl (cC, 80, .inl (iA (SG)))), (ad 20, .inl (cI, 4, .inl (iA (TA_9))))] := hD
            try dsimp only at hq_6
            obtain ⟨h_rp, h_ta, h_tb⟩ := hq_6
            have h_pb := rP_b g_SG (chr_b h_fr (i : Int)).1 (px, TAx, tx) g_px.2
            rw [← h_rp] at h_pb
            dsimp only at h_pb
            refine z_if_ne (tgt := 82) hx hb dX6_readCommand_77 (by decide) ⟨by omega, by omega⟩ (fun c_11 => ?_) (fun c_11 => ?_)
            · refine lv_iinc (v := iI ((i : Int) + 1)) (lv' := [(2, .int (iI ((i : Int) + 1))), (1, .ref (adK (frm (sgn SG tl tp)))), (0, .ref (ad 18))]) hx hb dX6_readCommand_82 hl (k := 0) rfl (iI_add ((i : Int)) (1)) (by decide) rfl (fun ls hl => ?_)
              refine lv_goto (tgt := 60) hx hb dX6_readCommand_85 (by decide) ?_
              exact ih60 (i + 1) _ _ _ (by omega) (by omega) ⟨by omega, by omega⟩ ⟨by omega, by omega⟩ (by rw [g_c, show tlen (frm (sgn SG tl tp)) - i = (tlen (frm (sgn SG tl tp)) - (i + 1)) + 1 by omega, rF_f (by rw [← h_rp]; omega), ← h_rp]) _ _ hP hD hS _ (lv_sub hl [0, 1, 2] rfl)
            · refine lv_iconst (v := iI (0)) hx hb dX6_readCommand_80 rfl ?_
              refine z_mretZ ((tp_8, (sgn SG tl tp), TA_9, tac_10)) hx hb hr hlocks dX6_readCommand_81 (by omega) hP hD hS ?_
              dsimp only
              refine ⟨?_, rfl, by omega, by omega, by omega⟩
              rw [rC_t h_lt, g_c, show tlen (frm (sgn SG tl tp)) - i = (tlen (frm (sgn SG tl tp)) - (i + 1)) + 1 by omega, rF_t (by rw [← h_rp]; omega), ← h_rp]
      exact loop60 (tlen (frm (sgn SG tl tp)) + 1) 0 _ _ _ (by omega) (by omega) ⟨by omega, by omega⟩ ⟨by omega, by omega⟩ rfl _ _ hP hD hS _ (lv_sub hl [0, 1, 2] rfl)
    · refine lv_iconst (v := iI (0)) hx hb dX6_readCommand_38 rfl ?_
      refine z_mretZ ((tp, (sgn SG tl tp), TA, 0)) hx hb hr hlocks dX6_readCommand_39 (by omega) hP hD hS ?_
      dsimp only
      refine ⟨?_, rfl, by omega, by omega, by omega⟩
      rw [rC_f (fun q => by have q2 := q.2; omega)]

set_option maxHeartbeats 600000 in
set_option maxRecDepth 100000 in
theorem c_X6_findError (l : Launch) (D : va_G) (cI cZ cC : ClassId) (b0 : Nat) (adK adV : Nat → Nat) (sz : Nat) (ad : Nat → Nat) (SG : Int → Int) (tl tp tq tac : Int) (TA : Int → Int) (g_SG : ∀ j : Int, 0 ≤ j → j < 80 → 0 ≤ SG j ∧ SG j < 128) (g_tl : 0 ≤ tl ∧ tl ≤ 80) : zMiE l yX6_findError wsX6_findError ({ frames := 5, cells := 0, slots := 0, locals := 128 }) D cI cZ cC b0 adK adV [(ad 18, .inr (6, [.ref (ad 19), .int (iI (tl)), .int (iI (tp)), .int (iI (tq)), .ref (ad 20), .int (iI (tac))])), (ad 19, .inl (cC, 80, .inl (iA (SG)))), (ad 20, .inl (cI, 4, .inl (iA (TA))))] sz [.ref (ad 18)] (0) (0) (fun (u : Int × Int × (Int → Int) × Int) => [(ad 18, .inr (6, [.ref (ad 19), .int (iI (tl)), .int (iI (u.1)), .int (iI (u.2.1)), .ref (ad 20), .int (iI (u.2.2.2))])), (ad 19, .inl (cC, 80, .inl (iA (SG)))), (ad 20, .inl (cI, 4, .inl (iA (u.2.2.1))))]) (fun v (u : Int × Int × (Int → Int) × Int) => v = eF SG tl 80 0 TA ∧ -2 ≤ v ∧ v ≤ 80 ∧ 0 ≤ u.1 ∧ u.1 ≤ tl) := by
  refine z_ofMiE (cc := cX6_findError) (maxL := 2) (ret := (some .int)) RX6 (by decide +kernel) rfl rfl (Nat.le_of_ble_eq_true rfl) ?_
  intro p0 en0 s0 m0 args0 below0 meth0 c0 ls AA hx hb hr hlocks hml hown hts hE hAb hbs hP hD hS hA hK hl
  have hl : lv_has ls 2 [(0, .ref (ad 18))] := hl
  obtain ⟨H, hH⟩ : ∃ H, H = s0.heap := ⟨_, rfl⟩
  obtain ⟨locs, hlo⟩ : ∃ locs : List Loc, locs = [] := ⟨_, rfl⟩
  have hP : va_P D vwCl [(ad 18, .inr (6, [.ref (ad 19), .int (iI (tl)), .int (iI (tp)), .int (iI (tq)), .ref (ad 20), .int (iI (tac))])), (ad 19, .inl (cC, 80, .inl (iA (SG)))), (ad 20, .inl (cI, 4, .inl (iA (TA))))] H := by rw [hH]; exact hP
  have hS : va_S AA s0.heap H locs := by rw [hH, hlo]; exact hS
  suffices hW : W p0 l en0 (headSpec wsX6_findError ({ frames := 5, cells := 0, slots := 0, locals := 128 })).room s0 m0 args0 below0 meth0 c0 H locs 0 0 (QMi below0 D ((fun (u : Int × Int × (Int → Int) × Int) => [(ad 18, .inr (6, [.ref (ad 19), .int (iI (tl)), .int (iI (u.1)), .int (iI (u.2.1)), .ref (ad 20), .int (iI (u.2.2.2))])), (ad 19, .inl (cC, 80, .inl (iA (SG)))), (ad 20, .inl (cI, 4, .inl (iA (u.2.2.1))))])) (fun v (u : Int × Int × (Int → Int) × Int) => v = eF SG tl 80 0 TA ∧ -2 ≤ v ∧ v ≤ 80 ∧ 0 ≤ u.1 ∧ u.1 ≤ tl) AA args0 s0 (0) (0)) (F0 m0 0 ls []) by rw [hH, hlo] at hW; exact hW
  refine lv_aload_n hx hb dX6_findError_0 rfl (lv_at hl 0 rfl) ?_
  refine z_mvV (As := []) (rest := []) (wr := [(ad 19, .inl (cC, 80, .inl (iA (SG)))), (ad 20, .inl (cI, 4, .inl (iA (TA))))]) (ws2 := (fun (u : Unit) => [(ad 18, .inr (6, [.ref (ad 19), .int (iI (tl)), .int (iI (0)), .int (iI (tq)), .ref (ad 20), .int (iI (tac))])), (ad 19, .inl (cC, 80, .inl (iA (SG)))), (ad 20, .inl (cI, 4, .inl (iA (TA))))])) ⟨hx, hb, hml, hown, hts⟩ (c_X6_rewind l D cI cZ cC H.size (ad) (SG) (tl) (tp) (tq) (tac) ) (cwV 0 hts gX6_findError_X6_rewind rfl rfl rfl (by decide +kernel) ⟨Nat.le_of_ble_eq_true rfl, Nat.le_of_ble_eq_true rfl⟩) hP hD hS hA hK [0] [1, 2] [2, 0, 1] rfl (by decide) rfl (by decide) (by decide) (by decide) (fun _ => rfl) 0 6 rfl rfl rfl rfl hl.1 rfl (Nat.le_of_ble_eq_true rfl) dX6_findError_1 ⟨by omega, by omega⟩ (fun u H locs hq_1 hP hD hS => ?_)
  have hP : va_P D vwCl [(ad 18, .inr (6, [.ref (ad 19), .int (iI (tl)), .int (iI (0)), .int (iI (tq)), .ref (ad 20), .int (iI (tac))])), (ad 19, .inl (cC, 80, .inl (iA (SG)))), (ad 20, .inl (cI, 4, .inl (iA (TA))))] H := hP
  have hD : va_D AA [(ad 18, .inr (6, [.ref (ad 19), .int (iI (tl)), .int (iI (0)), .int (iI (tq)), .ref (ad 20), .int (iI (tac))])), (ad 19, .inl (cC, 80, .inl (iA (SG)))), (ad 20, .inl (cI, 4, .inl (iA (TA))))] := hD
  try dsimp only at hq_1
  refine lv_iconst (v := iI (0)) hx hb dX6_findError_4 rfl ?_
  refine lv_istore_n (lv' := [(1, .int (iI (0))), (0, .ref (ad 18))]) hx hb dX6_findError_5 rfl hl (by decide) rfl (fun ls hl => ?_)
  have loop6 : ∀ (fu : Nat) (i : Nat) (px qx : Int) (TAx : Int → Int) (tx : Int), (g_i : i ≤ 80) → (g_fu : 80 < i + fu) → (g_px : 0 ≤ px ∧ px ≤ tl) → (g_c : eF SG tl 80 0 TA = eF SG tl (80 - i) px TAx) → ∀ (H : Heap) (locs : List Loc), va_P D vwCl [(ad 18, .inr (6, [.ref (ad 19), .int (iI (tl)), .int (iI (px)), .int (iI (qx)), .ref (ad 20), .int (iI (tx))])), (ad 19, .inl (cC, 80, .inl (iA (SG)))), (ad 20, .inl (cI, 4, .inl (iA (TAx))))] H → va_D AA [(ad 18, .inr (6, [.ref (ad 19), .int (iI (tl)), .int (iI (px)), .int (iI (qx)), .ref (ad 20), .int (iI (tx))])), (ad 19, .inl (cC, 80, .inl (iA (SG)))), (ad 20, .inl (cI, 4, .inl (iA (TAx))))] → va_S AA s0.heap H locs → ∀ ls : Array Slot, lv_has ls 2 [(1, .int (iI ((i : Int)))), (0, .ref (ad 18))] → W p0 l en0 (headSpec wsX6_findError ({ frames := 5, cells := 0, slots := 0, locals := 128 })).room s0 m0 args0 below0 meth0 c0 H locs 0 0 (QMi below0 D ((fun (u : Int × Int × (Int → Int) × Int) => [(ad 18, .inr (6, [.ref (ad 19), .int (iI (tl)), .int (iI (u.1)), .int (iI (u.2.1)), .ref (ad 20), .int (iI (u.2.2.2))])), (ad 19, .inl (cC, 80, .inl (iA (SG)))), (ad 20, .inl (cI, 4, .inl (iA (u.2.2.1))))])) (fun v (u : Int × Int × (Int → Int) × Int) => v = eF SG tl 80 0 TA ∧ -2 ≤ v ∧ v ≤ 80 ∧ 0 ≤ u.1 ∧ u.1 ≤ tl) AA args0 s0 (0) (0)) (F0 m0 6 ls []) := by
    intro fu
    induction fu with
    | zero => intro i px qx TAx tx g_i g_fu g_px g_c H locs hP hD hS ls hl; exfalso; omega
    | succ fu ih6 =>
      intro i px qx TAx tx g_i g_fu g_px g_c H locs hP hD hS ls hl
      refine lv_iload_n hx hb dX6_findError_6 rfl (lv_at hl 0 rfl) ?_
      refine lv_bipush (v := iI (80)) hx hb dX6_findError_7 (by decide) ?_
      refine z_icmp_ge (tgt := 58) hx hb dX6_findError_9 (by decide) ⟨⟨by omega, by omega⟩, ⟨by omega, by omega⟩⟩ (fun c_2 => ?_) (fun c_2 => ?_)
      · refine lv_aload_n hx hb dX6_findError_58 rfl (lv_at hl 1 rfl) ?_
        refine va_get (D := D) (ci := 6) (v := .int (iI (px))) (C := RX6) (T := TX6) (N := 6) hx hb hts (fun _ h => List.mem_cons_of_mem _ (List.mem_append_right _ (h))) hown hK.1 hP 0 rfl rfl 2 (by decide) (hts (.fieldLink RX6 19 "ForeignKeyStore$Text" "position" "I") (List.mem_of_getElem? (i := 1) rfl)) (fun _ h9 => h9) rfl dX6_findError_59 ?_
        refine z_mret ((px, qx, TAx, tx)) hx hb hr hlocks dX6_findError_62 hP hD hS ?_
        dsimp only
        refine ⟨?_, by omega, by omega, by omega, by omega⟩
        rw [g_c, show 80 - i = 0 by omega]
        rfl
      · refine lv_aload_n hx hb dX6_findError_12 rfl (lv_at hl 1 rfl) ?_
        refine z_muVE (As := []) (rest := []) hE hAb hbs (wr := []) (ws2 := (fun (u : Int × Int × (Int → Int) × Int) => [(ad 18, .inr (6, [.ref (ad 19), .int (iI (tl)), .int (iI (u.1)), .int (iI (u.2.1)), .ref (ad 20), .int (iI (u.2.2.2))])), (ad 19, .inl (cC, 80, .inl (iA (SG)))), (ad 20, .inl (cI, 4, .inl (iA (u.2.2.1))))])) ⟨hx, hb, hml, hown, hts⟩ (c_X6_readCommand l D cI cZ cC b0 adK adV H.size (ad) (SG) (tl) (px) (qx) (tx) (TAx) (by first | assumption | omega) (by first | assumption | omega) (by first | assumption | omega)) (cwV 0 hts gX6_findError_X6_readCommand rfl rfl rfl (by decide +kernel) ⟨Nat.le_of_ble_eq_true rfl, Nat.le_of_ble_eq_true rfl⟩) hP hD hS hA hK [0, 1, 2] [] [0, 1, 2] rfl (by decide) rfl (by decide) (by decide) (by decide) (fun _ => rfl) 0 6 rfl rfl rfl rfl hl.1 rfl (Nat.le_of_ble_eq_true rfl) dX6_findError_13 ⟨by omega, by omega⟩ (fun r_4 u H locs hq_3 hP hD hS => ?_)
        obtain ⟨tp_5, tq_6, TA_7, tac_8⟩ := u
        have hP : va_P D vwCl [(ad 18, .inr (6, [.ref (ad 19), .int (iI (tl)), .int (iI (tp_5)), .int (iI (tq_6)), .ref (ad 20), .int (iI (tac_8))])), (ad 19, .inl (cC, 80, .inl (iA (SG)))), (ad 20, .inl (cI, 4, .inl (iA (TA_7))))] H := hP
        have hD : va_D AA [(ad 18, .inr (6, [.ref (ad 19), .int (iI (tl)), .int (iI (tp_5)), .int (iI (tq_6)), .ref (ad 20), .int (iI (tac_8))])), (ad 19, .inl (cC, 80, .inl (iA (SG)))), (ad 20, .inl (cI, 4, .inl (iA (TA_7))))] := hD
        try dsimp only at hq_3
        obtain ⟨h_rc, h_tq, h_01, h_ta, h_tb⟩ := hq_3
        have h_cb := rC_b g_SG px TAx g_px.2
        rw [← h_rc] at h_cb
        dsimp only at h_cb
        refine z_if_ne (tgt := 24) hx hb dX6_findError_16 (by decide) ⟨by omega, by omega⟩ (fun c_9 => ?_) (fun c_9 => ?_)
        · refine lv_aload_n hx hb dX6_findError_24 rfl (lv_at hl 1 rfl) ?_
          refine va_get (D := D) (ci := 6) (v := .int (iI (tp_5))) (C := RX6) (T := TX6) (N := 6) hx hb hts (fun _ h => List.mem_cons_of_mem _ (List.mem_append_right _ (h))) hown hK.1 hP 0 rfl rfl 2 (by decide) (hts (.fieldLink RX6 19 "ForeignKeyStore$Text" "position" "I") (List.mem_of_getElem? (i := 1) rfl)) (fun _ h9 => h9) rfl dX6_findError_25 ?_
          refine lv_aload_n hx hb dX6_findError_28 rfl (lv_at hl 1 rfl) ?_
          refine va_get (D := D) (ci := 6) (v := .int (iI (tl))) (C := RX6) (T := TX6) (N := 6) hx hb hts (fun _ h => List.mem_cons_of_mem _ (List.mem_append_right _ (h))) hown hK.1 hP 0 rfl rfl 1 (by decide) (hts (.fieldLink RX6 15 "ForeignKeyStore$Text" "length" "I") (List.mem_of_getElem? (i := 2) rfl)) (fun _ h9 => h9) rfl dX6_findError_29 ?_
          refine z_icmp_lt (tgt := 38) hx hb dX6_findError_32 (by decide) ⟨⟨by omega, by omega⟩, ⟨by omega, by omega⟩⟩ (fun c_10 => ?_) (fun c_10 => ?_)
          · refine lv_aload_n hx hb dX6_findError_38 rfl (lv_at hl 1 rfl) ?_
            refine lv_bipush (v := iI (59)) hx hb dX6_findError_39 (by decide) ?_
            refine z_muV (As := [.int (iI (59))]) (rest := []) (wr := [(ad 20, .inl (cI, 4, .inl (iA (TA_7))))]) (ws2 := (fun (u : Int) => [(ad 18, .inr (6, [.ref (ad 19), .int (iI (tl)), .int (iI (u)), .int (iI (tq_6)), .ref (ad 20), .int (iI (tac_8))])), (ad 19, .inl (cC, 80, .inl (iA (SG)))), (ad 20, .inl (cI, 4, .inl (iA (TA_7))))])) ⟨hx, hb, hml, hown, hts⟩ (c_X6_readSign l D cI cZ cC H.size (ad) (SG) (tl) (tp_5) (tq_6) (tac_8) (59) (by first | assumption | omega) (by first | assumption | omega) (by first | assumption | omega) (by first | assumption | omega)) (cwV 1 hts gX6_findError_X6_readSign rfl rfl rfl (by decide +kernel) ⟨Nat.le_of_ble_eq_true rfl, Nat.le_of_ble_eq_true rfl⟩) hP hD hS hA hK [0, 1] [2] [1, 2, 0] rfl (by decide) rfl (by decide) (by decide) (by decide) (fun _ => rfl) 0 6 rfl rfl rfl rfl hl.1 rfl (Nat.le_of_ble_eq_true rfl) dX6_findError_41 ⟨by omega, by omega⟩ (fun r_12 u H locs hq_11 hP hD hS => ?_)
            obtain ⟨tp_13, rfl⟩ : ∃ z, z = u := ⟨_, rfl⟩
            have hP : va_P D vwCl [(ad 18, .inr (6, [.ref (ad 19), .int (iI (tl)), .int (iI (tp_13)), .int (iI (tq_6)), .ref (ad 20), .int (iI (tac_8))])), (ad 19, .inl (cC, 80, .inl (iA (SG)))), (ad 20, .inl (cI, 4, .inl (iA (TA_7))))] H := hP
            have hD : va_D AA [(ad 18, .inr (6, [.ref (ad 19), .int (iI (tl)), .int (iI (tp_13)), .int (iI (tq_6)), .ref (ad 20), .int (iI (tac_8))])), (ad 19, .inl (cC, 80, .inl (iA (SG)))), (ad 20, .inl (cI, 4, .inl (iA (TA_7))))] := hD
            try dsimp only at hq_11
            have h_rs := hq_11
            have h_sb := rS_b g_SG 59 _ (by omega) h_cb.2.2
            rw [← h_rs] at h_sb
            dsimp only at h_sb
            refine z_if_ne (tgt := 52) hx hb dX6_findError_44 (by decide) ⟨by omega, by omega⟩ (fun c_14 => ?_) (fun c_14 => ?_)
            · refine lv_iinc (v := iI ((i : Int) + 1)) (lv' := [(1, .int (iI ((i : Int) + 1))), (0, .ref (ad 18))]) hx hb dX6_findError_52 hl (k := 0) rfl (iI_add ((i : Int)) (1)) (by decide) rfl (fun ls hl => ?_)
              refine lv_goto (tgt := 6) hx hb dX6_findError_55 (by decide) ?_
              exact ih6 (i + 1) _ _ _ _ (by omega) (by omega) ⟨by omega, by omega⟩ (by rw [g_c, show 80 - i = (80 - (i + 1)) + 1 by omega, eF, ← h_rc, if_neg (by dsimp only; omega), if_neg (by dsimp only; omega)]; dsimp only; rw [← h_rs, if_neg (by dsimp only; omega)]) _ _ hP hD hS _ (lv_sub hl [0, 1] rfl)
            · refine lv_aload_n hx hb dX6_findError_47 rfl (lv_at hl 1 rfl) ?_
              refine va_get (D := D) (ci := 6) (v := .int (iI (tp_13))) (C := RX6) (T := TX6) (N := 6) hx hb hts (fun _ h => List.mem_cons_of_mem _ (List.mem_append_right _ (h))) hown hK.1 hP 0 rfl rfl 2 (by decide) (hts (.fieldLink RX6 19 "ForeignKeyStore$Text" "position" "I") (List.mem_of_getElem? (i := 1) rfl)) (fun _ h9 => h9) rfl dX6_findError_48 ?_
              refine z_mret ((tp_13, tq_6, TA_7, tac_8)) hx hb hr hlocks dX6_findError_51 hP hD hS ?_
              dsimp only
              refine ⟨?_, by omega, by omega, by omega, by omega⟩
              rw [g_c, show 80 - i = (80 - (i + 1)) + 1 by omega, eF, ← h_rc, if_neg (by dsimp only; omega), if_neg (by dsimp only; omega)]
              dsimp only
              rw [← h_rs, if_pos (by dsimp only; omega)]
          · refine lv_bipush (v := iI (-2)) hx hb dX6_findError_35 (by decide) ?_
            refine z_mret ((tp_5, tq_6, TA_7, tac_8)) hx hb hr hlocks dX6_findError_37 hP hD hS ?_
            dsimp only
            refine ⟨?_, by omega, by omega, by omega, by omega⟩
            rw [g_c, show 80 - i = (80 - (i + 1)) + 1 by omega, eF, ← h_rc, if_neg (by dsimp only; omega), if_pos (by dsimp only; omega)]
        · refine lv_aload_n hx hb dX6_findError_19 rfl (lv_at hl 1 rfl) ?_
          refine va_get (D := D) (ci := 6) (v := .int (iI (tp_5))) (C := RX6) (T := TX6) (N := 6) hx hb hts (fun _ h => List.mem_cons_of_mem _ (List.mem_append_right _ (h))) hown hK.1 hP 0 rfl rfl 2 (by decide) (hts (.fieldLink RX6 19 "ForeignKeyStore$Text" "position" "I") (List.mem_of_getElem? (i := 1) rfl)) (fun _ h9 => h9) rfl dX6_findError_20 ?_
          refine z_mret ((tp_5, tq_6, TA_7, tac_8)) hx hb hr hlocks dX6_findError_23 hP hD hS ?_
          dsimp only
          refine ⟨?_, by omega, by omega, by omega, by omega⟩
          rw [g_c, show 80 - i = (80 - (i + 1)) + 1 by omega, eF, ← h_rc, if_pos (by dsimp only; omega)]
  exact loop6 81 0 _ _ _ _ (by omega) (by omega) ⟨by omega, by omega⟩ rfl _ _ hP hD hS _ (lv_sub hl [0, 1] rfl)

