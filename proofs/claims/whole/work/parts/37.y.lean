theorem rC_def {Ic Pm Am Dm P Ac Mo : Int → Int} {k p a d : Int} (h : rC8 Ic Pm Am Dm P Ac Mo) (hp : 0 ≤ p ∧ p ≤ 3) (ha : 0 ≤ a ∧ a ≤ 3) (hd : d = 0 ∨ d = 1) : rC8 (uI Ic k 1) (uI Pm k p) (uI Am k a) (uI Dm k d) (uI P k p) (uI Ac k a) (uI Mo k d) := by
  intro j h1 h2
  have h3 := h j h1 h2
  unfold uI
  by_cases e : j = k
  · rw [if_pos e, if_pos e, if_pos e, if_pos e, if_pos e, if_pos e, if_pos e]
    omega
  · rw [if_neg e, if_neg e, if_neg e, if_neg e, if_neg e, if_neg e, if_neg e]
    exact h3
theorem rC_undef {Ic Pm Am Dm P Ac Mo P2 Ac2 Mo2 : Int → Int} {k p f : Int} (h : rC8 Ic Pm Am Dm P Ac Mo) (hp : 0 ≤ p ∧ p ≤ 3) (h2 : P2 k = -2) (ho : ∀ j : Int, ¬ j = k → P2 j = P j ∧ Ac2 j = Ac j ∧ Mo2 j = Mo j) : rC8 (uI (uI Ic k f) k 0) (uI Pm k p) Am Dm P2 Ac2 Mo2 := by
  intro j h1 h2
  have h3 := h j h1 h2
  unfold uI
  by_cases e : j = k
  · subst e
    rw [if_pos rfl, if_pos rfl]
    omega
  · have := ho j e
    rw [if_neg e, if_neg e, if_neg e]
    omega
theorem rC_drop {Ic Pm Am Dm P Ac Mo : Int → Int} {k : Int} (h : rC8 Ic Pm Am Dm P Ac Mo) : rC8 (uI Ic k 0) Pm Am Dm (uI P k (-2)) (uI Ac k 1) (uI Mo k 0) := by
  intro j h1 h2
  have h3 := h j h1 h2
  unfold uI
  by_cases e : j = k
  · rw [if_pos e, if_pos e, if_pos e, if_pos e]
    omega
  · rw [if_neg e, if_neg e, if_neg e, if_neg e]
    exact h3
theorem rC_mode {Ic Pm Am Dm P Ac Mo : Int → Int} {k d : Int} (h : rC8 Ic Pm Am Dm P Ac Mo) (hd : d = 0 ∨ d = 1) : rC8 Ic Pm Am (uI Dm k d) P Ac (uI Mo k d) := by
  intro j h1 h2
  have h3 := h j h1 h2
  unfold uI
  by_cases e : j = k
  · rw [if_pos e, if_pos e]
    omega
  · rw [if_neg e, if_neg e]
    exact h3
theorem uI_self (f : Int → Int) (k : Int) : uI f k (f k) = f := by
  funext j
  unfold uI
  by_cases e : j = k
  · rw [if_pos e, e]
  · rw [if_neg e]
theorem inP_u {P : Int → Int} {k p : Int} (hk : 0 ≤ k ∧ k < 8) : inP (uI P k p) k = p := by
  unfold inP uI
  rw [if_pos hk, if_pos rfl]

set_option maxHeartbeats 600000 in
set_option maxRecDepth 100000 in
theorem c_X8_define (l : Launch) (D : va_G) (cI cZ cC : ClassId) (sz : Nat) (bd : Nat → Nat) (cn mp ty th sp ta ke on tw : Int) (Ir Vm V : Int → Int) (Ic Pm Am Dm P Ac Mo : Int → Int) (t k p a d : Int) (g_R : rV Ir Vm V) (g_C : rC8 Ic Pm Am Dm P Ac Mo) (g_cn : 0 ≤ cn ∧ cn < 2147483648) (g_t : ib t) (g_k : ib k) (g_p : ib p) (g_a : ib a) (g_d : d = 0 ∨ d = 1) : zMi l yX8_define wsX8_define ({ frames := 3, cells := 0, slots := 0, locals := 69 }) D cI cZ cC [(bd 0, .inr (8, [.ref (bd 1), .ref (bd 2), .ref (bd 3), .ref (bd 4), .ref (bd 5), .ref (bd 6), .ref (bd 7), .int (iI (cn)), .ref (bd 8), .int (iI (mp)), .ref (bd 9), .int (iI (ty)), .int (iI (th)), .ref (bd 10), .ref (bd 11), .int (iI (sp)), .int (iI (ta)), .int (iI (ke)), .int (iI (on)), .int (iI (tw))])), (bd 3, .inl (cZ, 8, .inl (iA (Ic)))), (bd 4, .inl (cI, 8, .inl (iA (Pm)))), (bd 5, .inl (cI, 8, .inl (iA (Am)))), (bd 6, .inl (cZ, 8, .inl (iA (Dm)))), (bd 1, .inl (cZ, 80, .inl (iA (Ir)))), (bd 2, .inl (cI, 160, .inl (iA (Vm))))] sz [.ref (bd 0), .int (iI (t)), .int (iI (k)), .int (iI (p)), .int (iI (a)), .int (iI (d))] (0) (0) (fun (u : (Int → Int) × (Int → Int) × (Int → Int) × (Int → Int) × Int) => [(bd 0, .inr (8, [.ref (bd 1), .ref (bd 2), .ref (bd 3), .ref (bd 4), .ref (bd 5), .ref (bd 6), .ref (bd 7), .int (iI (cn)), .ref (bd 8), .int (iI (mp)), .ref (bd 9), .int (iI (ty)), .int (iI (u.2.2.2.2)), .ref (bd 10), .ref (bd 11), .int (iI (sp)), .int (iI (ta)), .int (iI (ke)), .int (iI (on)), .int (iI (tw))])), (bd 3, .inl (cZ, 8, .inl (iA (u.1)))), (bd 4, .inl (cI, 8, .inl (iA (u.2.1)))), (bd 5, .inl (cI, 8, .inl (iA (u.2.2.1)))), (bd 6, .inl (cZ, 8, .inl (iA (u.2.2.2.1)))), (bd 1, .inl (cZ, 80, .inl (iA (Ir)))), (bd 2, .inl (cI, 160, .inl (iA (Vm))))]) (fun v (u : (Int → Int) × (Int → Int) × (Int → Int) × (Int → Int) × Int) => u.2.2.2.2 = goK (0 ≤ t ∧ t < 4 ∧ 0 ≤ k ∧ k < 2 ∧ 0 ≤ p ∧ p < 4) (0 ≤ a ∧ a ≤ 3) (cn = 0 ∧ inP P (t * 2 + k) = -2 ∧ vio V (t * 2 + k) p = 0) ∧ ib v ∧ (u.2.2.2.2 = 0 → v = sumN (fun i => bI (¬ inP (uI P (t * 2 + k) p) i = -2)) 8 ∧ rC8 u.1 u.2.1 u.2.2.1 u.2.2.2.1 (uI P (t * 2 + k) p) (uI Ac (t * 2 + k) a) (uI Mo (t * 2 + k) d)) ∧ (¬ u.2.2.2.2 = 0 → rC8 u.1 u.2.1 u.2.2.1 u.2.2.2.1 P Ac Mo)) := by
  refine z_ofMi (cc := cX8_define) (maxL := 9) (ret := (some .int)) RX8 (by decide +kernel) rfl rfl (Nat.le_of_ble_eq_true rfl) ?_
  intro p0 en0 s0 m0 args0 below0 meth0 c0 ls AA hx hb hr hlocks hml hown hts hP hD hS hA hK hl
  have hl : lv_has ls 9 [(0, .ref (bd 0)), (1, .int (iI (t))), (2, .int (iI (k))), (3, .int (iI (p))), (4, .int (iI (a))), (5, .int (iI (d)))] := hl
  obtain ⟨H, hH⟩ : ∃ H, H = s0.heap := ⟨_, rfl⟩
  obtain ⟨locs, hlo⟩ : ∃ locs : List Loc, locs = [] := ⟨_, rfl⟩
  have hP : va_P D vwCl [(bd 0, .inr (8, [.ref (bd 1), .ref (bd 2), .ref (bd 3), .ref (bd 4), .ref (bd 5), .ref (bd 6), .ref (bd 7), .int (iI (cn)), .ref (bd 8), .int (iI (mp)), .ref (bd 9), .int (iI (ty)), .int (iI (th)), .ref (bd 10), .ref (bd 11), .int (iI (sp)), .int (iI (ta)), .int (iI (ke)), .int (iI (on)), .int (iI (tw))])), (bd 3, .inl (cZ, 8, .inl (iA (Ic)))), (bd 4, .inl (cI, 8, .inl (iA (Pm)))), (bd 5, .inl (cI, 8, .inl (iA (Am)))), (bd 6, .inl (cZ, 8, .inl (iA (Dm)))), (bd 1, .inl (cZ, 80, .inl (iA (Ir)))), (bd 2, .inl (cI, 160, .inl (iA (Vm))))] H := by rw [hH]; exact hP
  have hS : va_S AA s0.heap H locs := by rw [hH, hlo]; exact hS
  suffices hW : W p0 l en0 (headSpec wsX8_define ({ frames := 3, cells := 0, slots := 0, locals := 69 })).room s0 m0 args0 below0 meth0 c0 H locs 0 0 (QMi below0 D ((fun (u : (Int → Int) × (Int → Int) × (Int → Int) × (Int → Int) × Int) => [(bd 0, .inr (8, [.ref (bd 1), .ref (bd 2), .ref (bd 3), .ref (bd 4), .ref (bd 5), .ref (bd 6), .ref (bd 7), .int (iI (cn)), .ref (bd 8), .int (iI (mp)), .ref (bd 9), .int (iI (ty)), .int (iI (u.2.2.2.2)), .ref (bd 10), .ref (bd 11), .int (iI (sp)), .int (iI (ta)), .int (iI (ke)), .int (iI (on)), .int (iI (tw))])), (bd 3, .inl (cZ, 8, .inl (iA (u.1)))), (bd 4, .inl (cI, 8, .inl (iA (u.2.1)))), (bd 5, .inl (cI, 8, .inl (iA (u.2.2.1)))), (bd 6, .inl (cZ, 8, .inl (iA (u.2.2.2.1)))), (bd 1, .inl (cZ, 80, .inl (iA (Ir)))), (bd 2, .inl (cI, 160, .inl (iA (Vm))))])) (fun v (u : (Int → Int) × (Int → Int) × (Int → Int) × (Int → Int) × Int) => u.2.2.2.2 = goK (0 ≤ t ∧ t < 4 ∧ 0 ≤ k ∧ k < 2 ∧ 0 ≤ p ∧ p < 4) (0 ≤ a ∧ a ≤ 3) (cn = 0 ∧ inP P (t * 2 + k) = -2 ∧ vio V (t * 2 + k) p = 0) ∧ ib v ∧ (u.2.2.2.2 = 0 → v = sumN (fun i => bI (¬ inP (uI P (t * 2 + k) p) i = -2)) 8 ∧ rC8 u.1 u.2.1 u.2.2.1 u.2.2.2.1 (uI P (t * 2 + k) p) (uI Ac (t * 2 + k) a) (uI Mo (t * 2 + k) d)) ∧ (¬ u.2.2.2.2 = 0 → rC8 u.1 u.2.1 u.2.2.1 u.2.2.2.1 P Ac Mo)) AA args0 s0 (0) (0)) (F0 m0 0 ls []) by rw [hH, hlo] at hW; exact hW
  have e20 : t * 2 + k = 2 * t + k := by omega
  have h_kk := fun q : 0 ≤ t ∧ t < 4 ∧ 0 ≤ k ∧ k < 2 => rC_k g_C (k := 2 * t + k) (by omega)
  have g_Ic := rC_i g_C
  have g_Pm := rC_p g_C
  have g_Am := rC_a g_C
  have g_Dm := rC_d g_C
  refine lv_iconst (v := iI (2)) hx hb dX8_define_0 rfl ?_
  refine lv_iload_n hx hb dX8_define_1 rfl (lv_at hl 1 rfl) ?_
  refine z_imul hx hb dX8_define_2 ?_
  refine lv_iload_n hx hb dX8_define_3 rfl (lv_at hl 2 rfl) ?_
  refine z_iadd hx hb dX8_define_4 ?_
  refine lv_istore (lv' := [(6, .int (iI (((2 * t) + k)))), (0, .ref (bd 0)), (1, .int (iI (t))), (2, .int (iI (k))), (3, .int (iI (p))), (4, .int (iI (a))), (5, .int (iI (d)))]) hx hb dX8_define_5 hl (by decide) rfl (fun ls hl => ?_)
  refine lv_iload_n hx hb dX8_define_7 rfl (lv_at hl 2 rfl) ?_
  refine z_roS (As := [.int (iI (t))]) (rest := []) ⟨hx, hb, hml, hown, hts⟩ (c_X8_isTable l D cI cZ cC (t) (by first | assumption | omega)) (va_cwS 1 hts gX8_define_X8_isTable rfl rfl rfl (by decide +kernel) ⟨Nat.le_of_ble_eq_true rfl, Nat.le_of_ble_eq_true rfl⟩) hP hK [] rfl rfl hl.1 rfl (Nat.le_of_ble_eq_true rfl) dX8_define_8 ⟨by omega, by omega⟩ ?_
  refine z_b_eq (tgt := 32) hx hb dX8_define_11 (by decide) (fun c_1 => ?_) (fun c_1 => ?_)
  · refine lv_iconst (v := iI (0)) hx hb dX8_define_32 rfl ?_
    refine lv_istore (lv' := [(7, .int (iI (0))), (6, .int (iI (((2 * t) + k)))), (0, .ref (bd 0)), (1, .int (iI (t))), (2, .int (iI (k))), (3, .int (iI (p))), (4, .int (iI (a))), (5, .int (iI (d)))]) hx hb dX8_define_33 hl (by decide) rfl (fun ls hl => ?_)
    refine lv_iload hx hb dX8_define_35 (lv_at hl 0 rfl) ?_
    refine z_if_eq (tgt := 61) hx hb dX8_define_37 (by decide) ⟨by omega, by omega⟩ (fun c_2 => ?_) (fun c_2 => ?_)
    · refine lv_iconst (v := iI (0)) hx hb dX8_define_61 rfl ?_
      refine lv_istore (lv' := [(8, .int (iI (0))), (7, .int (iI (0))), (6, .int (iI (((2 * t) + k)))), (0, .ref (bd 0)), (1, .int (iI (t))), (2, .int (iI (k))), (3, .int (iI (p))), (4, .int (iI (a))), (5, .int (iI (d)))]) hx hb dX8_define_62 hl (by decide) rfl (fun ls hl => ?_)
      refine lv_iload hx hb dX8_define_64 (lv_at hl 0 rfl) ?_
      refine z_if_eq (tgt := 109) hx hb dX8_define_66 (by decide) ⟨by omega, by omega⟩ (fun c_3 => ?_) (fun c_3 => ?_)
      · refine lv_aload_n hx hb dX8_define_109 rfl (lv_at hl 3 rfl) ?_
        refine lv_iload hx hb dX8_define_110 (lv_at hl 1 rfl) ?_
        refine lv_iload hx hb dX8_define_112 (lv_at hl 7 rfl) ?_
        refine lv_iconst (v := iI (0)) hx hb dX8_define_114 rfl ?_
        refine lv_iconst (v := iI (3)) hx hb dX8_define_115 rfl ?_
        refine z_roS (As := [.int (iI (a)), .int (iI (0)), .int (iI (3))]) (rest := [.int (iI (0)), .ref (bd 0)]) ⟨hx, hb, hml, hown, hts⟩ (c_X8_in l D cI cZ cC (a) (0) (3) (by first | assumption | omega) (by first | assumption | omega) (by first | assumption | omega)) (va_cwS 3 hts gX8_define_X8_in rfl rfl rfl (by decide +kernel) ⟨Nat.le_of_ble_eq_true rfl, Nat.le_of_ble_eq_true rfl⟩) hP hK [] rfl rfl hl.1 rfl (Nat.le_of_ble_eq_true rfl) dX8_define_116 ⟨by omega, by omega⟩ ?_
        refine lv_iload hx hb dX8_define_119 (lv_at hl 0 rfl) ?_
        by_cases c_4 : (0 ≤ a ∧ a ≤ 3)
        · rw [bI_t c_4]
          refine z_muV (As := [.int (iI (0)), .int (iI (1)), .int (iI (0))]) (rest := []) (wr := [(bd 3, .inl (cZ, 8, .inl (iA (Ic)))), (bd 4, .inl (cI, 8, .inl (iA (Pm)))), (bd 5, .inl (cI, 8, .inl (iA (Am)))), (bd 6, .inl (cZ, 8, .inl (iA (Dm)))), (bd 1, .inl (cZ, 80, .inl (iA (Ir)))), (bd 2, .inl (cI, 160, .inl (iA (Vm))))]) (ws2 := (fun (u : Unit) => [(bd 0, .inr (8, [.ref (bd 1), .ref (bd 2), .ref (bd 3), .ref (bd 4), .ref (bd 5), .ref (bd 6), .ref (bd 7), .int (iI (cn)), .ref (bd 8), .int (iI (mp)), .ref (bd 9), .int (iI (ty)), .int (iI (gkI 0 1 0)), .ref (bd 10), .ref (bd 11), .int (iI (sp)), .int (iI (ta)), .int (iI (ke)), .int (iI (on)), .int (iI (tw))])), (bd 3, .inl (cZ, 8, .inl (iA (Ic)))), (bd 4, .inl (cI, 8, .inl (iA (Pm)))), (bd 5, .inl (cI, 8, .inl (iA (Am)))), (bd 6, .inl (cZ, 8, .inl (iA (Dm)))), (bd 1, .inl (cZ, 80, .inl (iA (Ir)))), (bd 2, .inl (cI, 160, .inl (iA (Vm))))])) ⟨hx, hb, hml, hown, hts⟩ (c_X8_goes l D cI cZ cC H.size (bd) (cn) (mp) (ty) (th) (sp) (ta) (ke) (on) (tw) (0) (1) (0) (by first | assumption | omega) (by first | assumption | omega) (by first | assumption | omega)) (cwV 3 hts gX8_define_X8_goes rfl rfl rfl (by decide +kernel) ⟨Nat.le_of_ble_eq_true rfl, Nat.le_of_ble_eq_true rfl⟩) hP hD hS hA hK [0] [1, 2, 3, 4, 5, 6] [6, 0, 1, 2, 3, 4, 5] rfl (by decide) rfl (by decide) (by decide) (by decide) (fun _ => rfl) 0 8 rfl rfl rfl rfl hl.1 rfl (Nat.le_of_ble_eq_true rfl) dX8_define_121 ⟨by omega, by omega⟩ (fun r_6 u H locs hq_5 hP hD hS => ?_)
          have hP : va_P D vwCl [(bd 0, .inr (8, [.ref (bd 1), .ref (bd 2), .ref (bd 3), .ref (bd 4), .ref (bd 5), .ref (bd 6), .ref (bd 7), .int (iI (cn)), .ref (bd 8), .int (iI (mp)), .ref (bd 9), .int (iI (ty)), .int (iI (gkI 0 1 0)), .ref (bd 10), .ref (bd 11), .int (iI (sp)), .int (iI (ta)), .int (iI (ke)), .int (iI (on)), .int (iI (tw))])), (bd 3, .inl (cZ, 8, .inl (iA (Ic)))), (bd 4, .inl (cI, 8, .inl (iA (Pm)))), (bd 5, .inl (cI, 8, .inl (iA (Am)))), (bd 6, .inl (cZ, 8, .inl (iA (Dm)))), (bd 1, .inl (cZ, 80, .inl (iA (Ir)))), (bd 2, .inl (cI, 160, .inl (iA (Vm))))] H := hP
          have hD : va_D AA [(bd 0, .inr (8, [.ref (bd 1), .ref (bd 2), .ref (bd 3), .ref (bd 4), .ref (bd 5), .ref (bd 6), .ref (bd 7), .int (iI (cn)), .ref (bd 8), .int (iI (mp)), .ref (bd 9), .int (iI (ty)), .int (iI (gkI 0 1 0)), .ref (bd 10), .ref (bd 11), .int (iI (sp)), .int (iI (ta)), .int (iI (ke)), .int (iI (on)), .int (iI (tw))])), (bd 3, .inl (cZ, 8, .inl (iA (Ic)))), (bd 4, .inl (cI, 8, .inl (iA (Pm)))), (bd 5, .inl (cI, 8, .inl (iA (Am)))), (bd 6, .inl (cZ, 8, .inl (iA (Dm)))), (bd 1, .inl (cZ, 80, .inl (iA (Ir)))), (bd 2, .inl (cI, 160, .inl (iA (Vm))))] := hD
          try dsimp only at hq_5
          obtain ⟨hv9, hq_5⟩ := hq_5
          have hv9 := hv9.symm
          subst hv9
          have hth : gkI (0) (1) (0) = 1 := rfl
          rw [hth] at hP hD
          have hP : va_P D vwCl [(bd 0, .inr (8, [.ref (bd 1), .ref (bd 2), .ref (bd 3), .ref (bd 4), .ref (bd 5), .ref (bd 6), .ref (bd 7), .int (iI (cn)), .ref (bd 8), .int (iI (mp)), .ref (bd 9), .int (iI (ty)), .int (iI (1)), .ref (bd 10), .ref (bd 11), .int (iI (sp)), .int (iI (ta)), .int (iI (ke)), .int (iI (on)), .int (iI (tw))])), (bd 3, .inl (cZ, 8, .inl (iA (Ic)))), (bd 4, .inl (cI, 8, .inl (iA (Pm)))), (bd 5, .inl (cI, 8, .inl (iA (Am)))), (bd 6, .inl (cZ, 8, .inl (iA (Dm)))), (bd 1, .inl (cZ, 80, .inl (iA (Ir)))), (bd 2, .inl (cI, 160, .inl (iA (Vm))))] H := hP
          have hD : va_D AA [(bd 0, .inr (8, [.ref (bd 1), .ref (bd 2), .ref (bd 3), .ref (bd 4), .ref (bd 5), .ref (bd 6), .ref (bd 7), .int (iI (cn)), .ref (bd 8), .int (iI (mp)), .ref (bd 9), .int (iI (ty)), .int (iI (1)), .ref (bd 10), .ref (bd 11), .int (iI (sp)), .int (iI (ta)), .int (iI (ke)), .int (iI (on)), .int (iI (tw))])), (bd 3, .inl (cZ, 8, .inl (iA (Ic)))), (bd 4, .inl (cI, 8, .inl (iA (Pm)))), (bd 5, .inl (cI, 8, .inl (iA (Am)))), (bd 6, .inl (cZ, 8, .inl (iA (Dm)))), (bd 1, .inl (cZ, 80, .inl (iA (Ir)))), (bd 2, .inl (cI, 160, .inl (iA (Vm))))] := hD
          rw [show bI (gkI (0) (1) (0) = 0) = 0 from bI_f (by rw [hth]; decide)]
          refine z_if_ne (tgt := 129) hx hb dX8_define_124 (by decide) ⟨by omega, by omega⟩ (fun c_7 => ?_) (fun c_7 => ?_)
          · exfalso
            omega
          · refine lv_iconst (v := iI (0)) hx hb dX8_define_127 rfl ?_
            refine z_mret ((Ic, Pm, Am, Dm, 1)) hx hb hr hlocks dX8_define_128 hP hD hS ?_
            rw [e20]
            have h_k9 := fun q => h_kk q
            refine ⟨by symm; first | (rw [goK_1 (by omega)]; done) | (rw [goK_2 (by omega) (by omega)]; done) | (rw [goK_3 (by omega) (by omega) (by first | omega | (have := h_kk (by omega); omega))]; done), ⟨by omega, by omega⟩, fun h => absurd h (by show ¬ (1 : Int) = 0; decide), fun _ => g_C⟩
        · rw [bI_f c_4]
          refine z_muV (As := [.int (iI (0)), .int (iI (0)), .int (iI (0))]) (rest := []) (wr := [(bd 3, .inl (cZ, 8, .inl (iA (Ic)))), (bd 4, .inl (cI, 8, .inl (iA (Pm)))), (bd 5, .inl (cI, 8, .inl (iA (Am)))), (bd 6, .inl (cZ, 8, .inl (iA (Dm)))), (bd 1, .inl (cZ, 80, .inl (iA (Ir)))), (bd 2, .inl (cI, 160, .inl (iA (Vm))))]) (ws2 := (fun (u : Unit) => [(bd 0, .inr (8, [.ref (bd 1), .ref (bd 2), .ref (bd 3), .ref (bd 4), .ref (bd 5), .ref (bd 6), .ref (bd 7), .int (iI (cn)), .ref (bd 8), .int (iI (mp)), .ref (bd 9), .int (iI (ty)), .int (iI (gkI 0 0 0)), .ref (bd 10), .ref (bd 11), .int (iI (sp)), .int (iI (ta)), .int (iI (ke)), .int (iI (on)), .int (iI (tw))])), (bd 3, .inl (cZ, 8, .inl (iA (Ic)))), (bd 4, .inl (cI, 8, .inl (iA (Pm)))), (bd 5, .inl (cI, 8, .inl (iA (Am)))), (bd 6, .inl (cZ, 8, .inl (iA (Dm)))), (bd 1, .inl (cZ, 80, .inl (iA (Ir)))), (bd 2, .inl (cI, 160, .inl (iA (Vm))))])) ⟨hx, hb, hml, hown, hts⟩ (c_X8_goes l D cI cZ cC H.size (bd) (cn) (mp) (ty) (th) (sp) (ta) (ke) (on) (tw) (0) (0) (0) (by first | assumption | omega) (by first | assumption | omega) (by first | assumption | omega)) (cwV 3 hts gX8_define_X8_goes rfl rfl rfl (by decide +kernel) ⟨Nat.le_of_ble_eq_true rfl, Nat.le_of_ble_eq_true rfl⟩) hP hD hS hA hK [0] [1, 2, 3, 4, 5, 6] [6, 0, 1, 2, 3, 4, 5] rfl (by decide) rfl (by decide) (by decide) (by decide) (fun _ => rfl) 0 8 rfl rfl rfl rfl hl.1 rfl (Nat.le_of_ble_eq_true rfl) dX8_define_121 ⟨by omega, by omega⟩ (fun r_9 u H locs hq_8 hP hD hS => ?_)
          have hP : va_P D vwCl [(bd 0, .inr (8, [.ref (bd 1), .ref (bd 2), .ref (bd 3), .ref (bd 4), .ref (bd 5), .ref (bd 6), .ref (bd 7), .int (iI (cn)), .ref (bd 8), .int (iI (mp)), .ref (bd 9), .int (iI (ty)), .int (iI (gkI 0 0 0)), .ref (bd 10), .ref (bd 11), .int (iI (sp)), .int (iI (ta)), .int (iI (ke)), .int (iI (on)), .int (iI (tw))])), (bd 3, .inl (cZ, 8, .inl (iA (Ic)))), (bd 4, .inl (cI, 8, .inl (iA (Pm)))), (bd 5, .inl (cI, 8, .inl (iA (Am)))), (bd 6, .inl (cZ, 8, .inl (iA (Dm)))), (bd 1, .inl (cZ, 80, .inl (iA (Ir)))), (bd 2, .inl (cI, 160, .inl (iA (Vm))))] H := hP
          have hD : va_D AA [(bd 0, .inr (8, [.ref (bd 1), .ref (bd 2), .ref (bd 3), .ref (bd 4), .ref (bd 5), .ref (bd 6), .ref (bd 7), .int (iI (cn)), .ref (bd 8), .int (iI (mp)), .ref (bd 9), .int (iI (ty)), .int (iI (gkI 0 0 0)), .ref (bd 10), .ref (bd 11), .int (iI (sp)), .int (iI (ta)), .int (iI (ke)), .int (iI (on)), .int (iI (tw))])), (bd 3, .inl (cZ, 8, .inl (iA (Ic)))), (bd 4, .inl (cI, 8, .inl (iA (Pm)))), (bd 5, .inl (cI, 8, .inl (iA (Am)))), (bd 6, .inl (cZ, 8, .inl (iA (Dm)))), (bd 1, .inl (cZ, 80, .inl (iA (Ir)))), (bd 2, .inl (cI, 160, .inl (iA (Vm))))] := hD
          try dsimp only at hq_8
          obtain ⟨hv9, hq_8⟩ := hq_8
          have hv9 := hv9.symm
          subst hv9
          have hth : gkI (0) (0) (0) = 1 := rfl
          rw [hth] at hP hD
          have hP : va_P D vwCl [(bd 0, .inr (8, [.ref (bd 1), .ref (bd 2), .ref (bd 3), .ref (bd 4), .ref (bd 5), .ref (bd 6), .ref (bd 7), .int (iI (cn)), .ref (bd 8), .int (iI (mp)), .ref (bd 9), .int (iI (ty)), .int (iI (1)), .ref (bd 10), .ref (bd 11), .int (iI (sp)), .int (iI (ta)), .int (iI (ke)), .int (iI (on)), .int (iI (tw))])), (bd 3, .inl (cZ, 8, .inl (iA (Ic)))), (bd 4, .inl (cI, 8, .inl (iA (Pm)))), (bd 5, .inl (cI, 8, .inl (iA (Am)))), (bd 6, .inl (cZ, 8, .inl (iA (Dm)))), (bd 1, .inl (cZ, 80, .inl (iA (Ir)))), (bd 2, .inl (cI, 160, .inl (iA (Vm))))] H := hP
          have hD : va_D AA [(bd 0, .inr (8, [.ref (bd 1), .ref (bd 2), .ref (bd 3), .ref (bd 4), .ref (bd 5), .ref (bd 6), .ref (bd 7), .int (iI (cn)), .ref (bd 8), .int (iI (mp)), .ref (bd 9), .int (iI (ty)), .int (iI (1)), .ref (bd 10), .ref (bd 11), .int (iI (sp)), .int (iI (ta)), .int (iI (ke)), .int (iI (on)), .int (iI (tw))])), (bd 3, .inl (cZ, 8, .inl (iA (Ic)))), (bd 4, .inl (cI, 8, .inl (iA (Pm)))), (bd 5, .inl (cI, 8, .inl (iA (Am)))), (bd 6, .inl (cZ, 8, .inl (iA (Dm)))), (bd 1, .inl (cZ, 80, .inl (iA (Ir)))), (bd 2, .inl (cI, 160, .inl (iA (Vm))))] := hD
          rw [show bI (gkI (0) (0) (0) = 0) = 0 from bI_f (by rw [hth]; decide)]
          refine z_if_ne (tgt := 129) hx hb dX8_define_124 (by decide) ⟨by omega, by omega⟩ (fun c_10 => ?_) (fun c_10 => ?_)
          · exfalso
            omega
          · refine lv_iconst (v := iI (0)) hx hb dX8_define_127 rfl ?_
            refine z_mret ((Ic, Pm, Am, Dm, 1)) hx hb hr hlocks dX8_define_128 hP hD hS ?_
            rw [e20]
            have h_k9 := fun q => h_kk q
            refine ⟨by symm; first | (rw [goK_1 (by omega)]; done) | (rw [goK_2 (by omega) (by omega)]; done) | (rw [goK_3 (by omega) (by omega) (by first | omega | (have := h_kk (by omega); omega))]; done), ⟨by omega, by omega⟩, fun h => absurd h (by show ¬ (1 : Int) = 0; decide), fun _ => g_C⟩
      · exfalso
        omega
    · exfalso
      omega
  · refine lv_iload_n hx hb dX8_define_14 rfl (lv_at hl 3 rfl) ?_
    refine z_roS (As := [.int (iI (k))]) (rest := []) ⟨hx, hb, hml, hown, hts⟩ (c_X8_isColumn l D cI cZ cC (k) (by first | assumption | omega)) (va_cwS 1 hts gX8_define_X8_isColumn rfl rfl rfl (by decide +kernel) ⟨Nat.le_of_ble_eq_true rfl, Nat.le_of_ble_eq_true rfl⟩) hP hK [] rfl rfl hl.1 rfl (Nat.le_of_ble_eq_true rfl) dX8_define_15 ⟨by omega, by omega⟩ ?_
    refine z_b_eq (tgt := 32) hx hb dX8_define_18 (by decide) (fun c_11 => ?_) (fun c_11 => ?_)
    · refine lv_iconst (v := iI (0)) hx hb dX8_define_32 rfl ?_
      refine lv_istore (lv' := [(7, .int (iI (0))), (6, .int (iI (((2 * t) + k)))), (0, .ref (bd 0)), (1, .int (iI (t))), (2, .int (iI (k))), (3, .int (iI (p))), (4, .int (iI (a))), (5, .int (iI (d)))]) hx hb dX8_define_33 hl (by decide) rfl (fun ls hl => ?_)
      refine lv_iload hx hb dX8_define_35 (lv_at hl 0 rfl) ?_
      refine z_if_eq (tgt := 61) hx hb dX8_define_37 (by decide) ⟨by omega, by omega⟩ (fun c_12 => ?_) (fun c_12 => ?_)
      · refine lv_iconst (v := iI (0)) hx hb dX8_define_61 rfl ?_
        refine lv_istore (lv' := [(8, .int (iI (0))), (7, .int (iI (0))), (6, .int (iI (((2 * t) + k)))), (0, .ref (bd 0)), (1, .int (iI (t))), (2, .int (iI (k))), (3, .int (iI (p))), (4, .int (iI (a))), (5, .int (iI (d)))]) hx hb dX8_define_62 hl (by decide) rfl (fun ls hl => ?_)
        refine lv_iload hx hb dX8_define_64 (lv_at hl 0 rfl) ?_
        refine z_if_eq (tgt := 109) hx hb dX8_define_66 (by decide) ⟨by omega, by omega⟩ (fun c_13 => ?_) (fun c_13 => ?_)
        · refine lv_aload_n hx hb dX8_define_109 rfl (lv_at hl 3 rfl) ?_
          refine lv_iload hx hb dX8_define_110 (lv_at hl 1 rfl) ?_
          refine lv_iload hx hb dX8_define_112 (lv_at hl 7 rfl) ?_
          refine lv_iconst (v := iI (0)) hx hb dX8_define_114 rfl ?_
          refine lv_iconst (v := iI (3)) hx hb dX8_define_115 rfl ?_
          refine z_roS (As := [.int (iI (a)), .int (iI (0)), .int (iI (3))]) (rest := [.int (iI (0)), .ref (bd 0)]) ⟨hx, hb, hml, hown, hts⟩ (c_X8_in l D cI cZ cC (a) (0) (3) (by first | assumption | omega) (by first | assumption | omega) (by first | assumption | omega)) (va_cwS 3 hts gX8_define_X8_in rfl rfl rfl (by decide +kernel) ⟨Nat.le_of_ble_eq_true rfl, Nat.le_of_ble_eq_true rfl⟩) hP hK [] rfl rfl hl.1 rfl (Nat.le_of_ble_eq_true rfl) dX8_define_116 ⟨by omega, by omega⟩ ?_
          refine lv_iload hx hb dX8_define_119 (lv_at hl 0 rfl) ?_
          by_cases c_14 : (0 ≤ a ∧ a ≤ 3)
          · rw [bI_t c_14]
            refine z_muV (As := [.int (iI (0)), .int (iI (1)), .int (iI (0))]) (rest := []) (wr := [(bd 3, .inl (cZ, 8, .inl (iA (Ic)))), (bd 4, .inl (cI, 8, .inl (iA (Pm)))), (bd 5, .inl (cI, 8, .inl (iA (Am)))), (bd 6, .inl (cZ, 8, .inl (iA (Dm)))), (bd 1, .inl (cZ, 80, .inl (iA (Ir)))), (bd 2, .inl (cI, 160, .inl (iA (Vm))))]) (ws2 := (fun (u : Unit) => [(bd 0, .inr (8, [.ref (bd 1), .ref (bd 2), .ref (bd 3), .ref (bd 4), .ref (bd 5), .ref (bd 6), .ref (bd 7), .int (iI (cn)), .ref (bd 8), .int (iI (mp)), .ref (bd 9), .int (iI (ty)), .int (iI (gkI 0 1 0)), .ref (bd 10), .ref (bd 11), .int (iI (sp)), .int (iI (ta)), .int (iI (ke)), .int (iI (on)), .int (iI (tw))])), (bd 3, .inl (cZ, 8, .inl (iA (Ic)))), (bd 4, .inl (cI, 8, .inl (iA (Pm)))), (bd 5, .inl (cI, 8, .inl (iA (Am)))), (bd 6, .inl (cZ, 8, .inl (iA (Dm)))), (bd 1, .inl (cZ, 80, .inl (iA (Ir)))), (bd 2, .inl (cI, 160, .inl (iA (Vm))))])) ⟨hx, hb, hml, hown, hts⟩ (c_X8_goes l D cI cZ cC H.size (bd) (cn) (mp) (ty) (th) (sp) (ta) (ke) (on) (tw) (0) (1) (0) (by first | assumption | omega) (by first | assumption | omega) (by first | assumption | omega)) (cwV 3 hts gX8_define_X8_goes rfl rfl rfl (by decide +kernel) ⟨Nat.le_of_ble_eq_true rfl, Nat.le_of_ble_eq_true rfl⟩) hP hD hS hA hK [0] [1, 2, 3, 4, 5, 6] [6, 0, 1, 2, 3, 4, 5] rfl (by decide) rfl (by decide) (by decide) (by decide) (fun _ => rfl) 0 8 rfl rfl rfl rfl hl.1 rfl (Nat.le_of_ble_eq_true rfl) dX8_define_121 ⟨by omega, by omega⟩ (fun r_16 u H locs hq_15 hP hD hS => ?_)
            have hP : va_P D vwCl [(bd 0, .inr (8, [.ref (bd 1), .ref (bd 2), .ref (bd 3), .ref (bd 4), .ref (bd 5), .ref (bd 6), .ref (bd 7), .int (iI (cn)), .ref (bd 8), .int (iI (mp)), .ref (bd 9), .int (iI (ty)), .int (iI (gkI 0 1 0)), .ref (bd 10), .ref (bd 11), .int (iI (sp)), .int (iI (ta)), .int (iI (ke)), .int (iI (on)), .int (iI (tw))])), (bd 3, .inl (cZ, 8, .inl (iA (Ic)))), (bd 4, .inl (cI, 8, .inl (iA (Pm)))), (bd 5, .inl (cI, 8, .inl (iA (Am)))), (bd 6, .inl (cZ, 8, .inl (iA (Dm)))), (bd 1, .inl (cZ, 80, .inl (iA (Ir)))), (bd 2, .inl (cI, 160, .inl (iA (Vm))))] H := hP
            have hD : va_D AA [(bd 0, .inr (8, [.ref (bd 1), .ref (bd 2), .ref (bd 3), .ref (bd 4), .ref (bd 5), .ref (bd 6), .ref (bd 7), .int (iI (cn)), .ref (bd 8), .int (iI (mp)), .ref (bd 9), .int (iI (ty)), .int (iI (gkI 0 1 0)), .ref (bd 10), .ref (bd 11), .int (iI (sp)), .int (iI (ta)), .int (iI (ke)), .int (iI (on)), .int (iI (tw))])), (bd 3, .inl (cZ, 8, .inl (iA (Ic)))), (bd 4, .inl (cI, 8, .inl (iA (Pm)))), (bd 5, .inl (cI, 8, .inl (iA (Am)))), (bd 6, .inl (cZ, 8, .inl (iA (Dm)))), (bd 1, .inl (cZ, 80, .inl (iA (Ir)))), (bd 2, .inl (cI, 160, .inl (iA (Vm))))] := hD
            try dsimp only at hq_15
            obtain ⟨hv9, hq_15⟩ := hq_15
            have hv9 := hv9.symm
            subst hv9
            have hth : gkI (0) (1) (0) = 1 := rfl
            rw [hth] at hP hD
            have hP : va_P D vwCl [(bd 0, .inr (8, [.ref (bd 1), .ref (bd 2), .ref (bd 3), .ref (bd 4), .ref (bd 5), .ref (bd 6), .ref (bd 7), .int (iI (cn)), .ref (bd 8), .int (iI (mp)), .ref (bd 9), .int (iI (ty)), .int (iI (1)), .ref (bd 10), .ref (bd 11), .int (iI (sp)), .int (iI (ta)), .int (iI (ke)), .int (iI (on)), .int (iI (tw))])), (bd 3, .inl (cZ, 8, .inl (iA (Ic)))), (bd 4, .inl (cI, 8, .inl (iA (Pm)))), (bd 5, .inl (cI, 8, .inl (iA (Am)))), (bd 6, .inl (cZ, 8, .inl (iA (Dm)))), (bd 1, .inl (cZ, 80, .inl (iA (Ir)))), (bd 2, .inl (cI, 160, .inl (iA (Vm))))] H := hP
            have hD : va_D AA [(bd 0, .inr (8, [.ref (bd 1), .ref (bd 2), .ref (bd 3), .ref (bd 4), .ref (bd 5), .ref (bd 6), .ref (bd 7), .int (iI (cn)), .ref (bd 8), .int (iI (mp)), .ref (bd 9), .int (iI (ty)), .int (iI (1)), .ref (bd 10), .ref (bd 11), .int (iI (sp)), .int (iI (ta)), .int (iI (ke)), .int (iI (on)), .int (iI (tw))])), (bd 3, .inl (cZ, 8, .inl (iA (Ic)))), (bd 4, .inl (cI, 8, .inl (iA (Pm)))), (bd 5, .inl (cI, 8, .inl (iA (Am)))), (bd 6, .inl (cZ, 8, .inl (iA (Dm)))), (bd 1, .inl (cZ, 80, .inl (iA (Ir)))), (bd 2, .inl (cI, 160, .inl (iA (Vm))))] := hD
            rw [show bI (gkI (0) (1) (0) = 0) = 0 from bI_f (by rw [hth]; decide)]
            refine z_if_ne (tgt := 129) hx hb dX8_define_124 (by decide) ⟨by omega, by omega⟩ (fun c_17 => ?_) (fun c_17 => ?_)
            · exfalso
              omega
            · refine lv_iconst (v := iI (0)) hx hb dX8_define_127 rfl ?_
              refine z_mret ((Ic, Pm, Am, Dm, 1)) hx hb hr hlocks dX8_define_128 hP hD hS ?_
              rw [e20]
              have h_k9 := fun q => h_kk q
              refine ⟨by symm; first | (rw [goK_1 (by omega)]; done) | (rw [goK_2 (by omega) (by omega)]; done) | (rw [goK_3 (by omega) (by omega) (by first | omega | (have := h_kk (by omega); omega))]; done), ⟨by omega, by omega⟩, fun h => absurd h (by show ¬ (1 : Int) = 0; decide), fun _ => g_C⟩
          · rw [bI_f c_14]
            refine z_muV (As := [.int (iI (0)), .int (iI (0)), .int (iI (0))]) (rest := []) (wr := [(bd 3, .inl (cZ, 8, .inl (iA (Ic)))), (bd 4, .inl (cI, 8, .inl (iA (Pm)))), (bd 5, .inl (cI, 8, .inl (iA (Am)))), (bd 6, .inl (cZ, 8, .inl (iA (Dm)))), (bd 1, .inl (cZ, 80, .inl (iA (Ir)))), (bd 2, .inl (cI, 160, .inl (iA (Vm))))]) (ws2 := (fun (u : Unit) => [(bd 0, .inr (8, [.ref (bd 1), .ref (bd 2), .ref (bd 3), .ref (bd 4), .ref (bd 5), .ref (bd 6), .ref (bd 7), .int (iI (cn)), .ref (bd 8), .int (iI (mp)), .ref (bd 9), .int (iI (ty)), .int (iI (gkI 0 0 0)), .ref (bd 10), .ref (bd 11), .int (iI (sp)), .int (iI (ta)), .int (iI (ke)), .int (iI (on)), .int (iI (tw))])), (bd 3, .inl (cZ, 8, .inl (iA (Ic)))), (bd 4, .inl (cI, 8, .inl (iA (Pm)))), (bd 5, .inl (cI, 8, .inl (iA (Am)))), (bd 6, .inl (cZ, 8, .inl (iA (Dm)))), (bd 1, .inl (cZ, 80, .inl (iA (Ir)))), (bd 2, .inl (cI, 160, .inl (iA (Vm))))])) ⟨hx, hb, hml, hown, hts⟩ (c_X8_goes l D cI cZ cC H.size (bd) (cn) (mp) (ty) (th) (sp) (ta) (ke) (on) (tw) (0) (0) (0) (by first | assumption | omega) (by first | assumption | omega) (by first | assumption | omega)) (cwV 3 hts gX8_define_X8_goes rfl rfl rfl (by decide +kernel) ⟨Nat.le_of_ble_eq_true rfl, Nat.le_of_ble_eq_true rfl⟩) hP hD hS hA hK [0] [1, 2, 3, 4, 5, 6] [6, 0, 1, 2, 3, 4, 5] rfl (by decide) rfl (by decide) (by decide) (by decide) (fun _ => rfl) 0 8 rfl rfl rfl rfl hl.1 rfl (Nat.le_of_ble_eq_true rfl) dX8_define_121 ⟨by omega, by omega⟩ (fun r_19 u H locs hq_18 hP hD hS => ?_)
            have hP : va_P D vwCl [(bd 0, .inr (8, [.ref (bd 1), .ref (bd 2), .ref (bd 3), .ref (bd 4), .ref (bd 5), .ref (bd 6), .ref (bd 7), .int (iI (cn)), .ref (bd 8), .int (iI (mp)), .ref (bd 9), .int (iI (ty)), .int (iI (gkI 0 0 0)), .ref (bd 10), .ref (bd 11), .int (iI (sp)), .int (iI (ta)), .int (iI (ke)), .int (iI (on)), .int (iI (tw))])), (bd 3, .inl (cZ, 8, .inl (iA (Ic)))), (bd 4, .inl (cI, 8, .inl (iA (Pm)))), (bd 5, .inl (cI, 8, .inl (iA (Am)))), (bd 6, .inl (cZ, 8, .inl (iA (Dm)))), (bd 1, .inl (cZ, 80, .inl (iA (Ir)))), (bd 2, .inl (cI, 160, .inl (iA (Vm))))] H := hP
            have hD : va_D AA [(bd 0, .inr (8, [.ref (bd 1), .ref (bd 2), .ref (bd 3), .ref (bd 4), .ref (bd 5), .ref (bd 6), .ref (bd 7), .int (iI (cn)), .ref (bd 8), .int (iI (mp)), .ref (bd 9), .int (iI (ty)), .int (iI (gkI 0 0 0)), .ref (bd 10), .ref (bd 11), .int (iI (sp)), .int (iI (ta)), .int (iI (ke)), .int (iI (on)), .int (iI (tw))])), (bd 3, .inl (cZ, 8, .inl (iA (Ic)))), (bd 4, .inl (cI, 8, .inl (iA (Pm)))), (bd 5, .inl (cI, 8, .inl (iA (Am)))), (bd 6, .inl (cZ, 8, .inl (iA (Dm)))), (bd 1, .inl (cZ, 80, .inl (iA (Ir)))), (bd 2, .inl (cI, 160, .inl (iA (Vm))))] := hD
            try dsimp only at hq_18
            obtain ⟨hv9, hq_18⟩ := hq_18
            have hv9 := hv9.symm
            subst hv9
            have hth : gkI (0) (0) (0) = 1 := rfl
            rw [hth] at hP hD
            have hP : va_P D vwCl [(bd 0, .inr (8, [.ref (bd 1), .ref (bd 2), .ref (bd 3), .ref (bd 4), .ref (bd 5), .ref (bd 6), .ref (bd 7), .int (iI (cn)), .ref (bd 8), .int (iI (mp)), .ref (bd 9), .int (iI (ty)), .int (iI (1)), .ref (bd 10), .ref (bd 11), .int (iI (sp)), .int (iI (ta)), .int (iI (ke)), .int (iI (on)), .int (iI (tw))])), (bd 3, .inl (cZ, 8, .inl (iA (Ic)))), (bd 4, .inl (cI, 8, .inl (iA (Pm)))), (bd 5, .inl (cI, 8, .inl (iA (Am)))), (bd 6, .inl (cZ, 8, .inl (iA (Dm)))), (bd 1, .inl (cZ, 80, .inl (iA (Ir)))), (bd 2, .inl (cI, 160, .inl (iA (Vm))))] H := hP
            have hD : va_D AA [(bd 0, .inr (8, [.ref (bd 1), .ref (bd 2), .ref (bd 3), .ref (bd 4), .ref (bd 5), .ref (bd 6), .ref (bd 7), .int (iI (cn)), .ref (bd 8), .int (iI (mp)), .ref (bd 9), .int (iI (ty)), .int (iI (1)), .ref (bd 10), .ref (bd 11), .int (iI (sp)), .int (iI (ta)), .int (iI (ke)), .int (iI (on)), .int (iI (tw))])), (bd 3, .inl (cZ, 8, .inl (iA (Ic)))), (bd 4, .inl (cI, 8, .inl (iA (Pm)))), (bd 5, .inl (cI, 8, .inl (iA (Am)))), (bd 6, .inl (cZ, 8, .inl (iA (Dm)))), (bd 1, .inl (cZ, 80, .inl (iA (Ir)))), (bd 2, .inl (cI, 160, .inl (iA (Vm))))] := hD
            rw [show bI (gkI (0) (0) (0) = 0) = 0 from bI_f (by rw [hth]; decide)]
            refine z_if_ne (tgt := 129) hx hb dX8_define_124 (by decide) ⟨by omega, by omega⟩ (fun c_20 => ?_) (fun c_20 => ?_)
            · exfalso
              omega
            · refine lv_iconst (v := iI (0)) hx hb dX8_define_127 rfl ?_
              refine z_mret ((Ic, Pm, Am, Dm, 1)) hx hb hr hlocks dX8_define_128 hP hD hS ?_
              rw [e20]
              have h_k9 := fun q => h_kk q
              refine ⟨by symm; first | (rw [goK_1 (by omega)]; done) | (rw [goK_2 (by omega) (by omega)]; done) | (rw [goK_3 (by omega) (by omega) (by first | omega | (have := h_kk (by omega); omega))]; done), ⟨by omega, by omega⟩, fun h => absurd h (by show ¬ (1 : Int) = 0; decide), fun _ => g_C⟩
        · exfalso
          omega
      · exfalso
        omega
    · refine lv_iload_n hx hb dX8_define_21 rfl (lv_at hl 4 rfl) ?_
      refine z_roS (As := [.int (iI (p))]) (rest := []) ⟨hx, hb, hml, hown, hts⟩ (c_X8_isTable l D cI cZ cC (p) (by first | assumption | omega)) (va_cwS 1 hts gX8_define_X8_isTable rfl rfl rfl (by decide +kernel) ⟨Nat.le_of_ble_eq_true rfl, Nat.le_of_ble_eq_true rfl⟩) hP hK [] rfl rfl hl.1 rfl (Nat.le_of_ble_eq_true rfl) dX8_define_22 ⟨by omega, by omega⟩ ?_
      refine z_b_eq (tgt := 32) hx hb dX8_define_25 (by decide) (fun c_21 => ?_) (fun c_21 => ?_)
      · refine lv_iconst (v := iI (0)) hx hb dX8_define_32 rfl ?_
        refine lv_istore (lv' := [(7, .int (iI (0))), (6, .int (iI (((2 * t) + k)))), (0, .ref (bd 0)), (1, .int (iI (t))), (2, .int (iI (k))), (3, .int (iI (p))), (4, .int (iI (a))), (5, .int (iI (d)))]) hx hb dX8_define_33 hl (by decide) rfl (fun ls hl => ?_)
        refine lv_iload hx hb dX8_define_35 (lv_at hl 0 rfl) ?_
        refine z_if_eq (tgt := 61) hx hb dX8_define_37 (by decide) ⟨by omega, by omega⟩ (fun c_22 => ?_) (fun c_22 => ?_)
        · refine lv_iconst (v := iI (0)) hx hb dX8_define_61 rfl ?_
          refine lv_istore (lv' := [(8, .int (iI (0))), (7, .int (iI (0))), (6, .int (iI (((2 * t) + k)))), (0, .ref (bd 0)), (1, .int (iI (t))), (2, .int (iI (k))), (3, .int (iI (p))), (4, .int (iI (a))), (5, .int (iI (d)))]) hx hb dX8_define_62 hl (by decide) rfl (fun ls hl => ?_)
          refine lv_iload hx hb dX8_define_64 (lv_at hl 0 rfl) ?_
          refine z_if_eq (tgt := 109) hx hb dX8_define_66 (by decide) ⟨by omega, by omega⟩ (fun c_23 => ?_) (fun c_23 => ?_)
          · refine lv_aload_n hx hb dX8_define_109 rfl (lv_at hl 3 rfl) ?_
            refine lv_iload hx hb dX8_define_110 (lv_at hl 1 rfl) ?_
            refine lv_iload hx hb dX8_define_112 (lv_at hl 7 rfl) ?_
            refine lv_iconst (v := iI (0)) hx hb dX8_define_114 rfl ?_
            refine lv_iconst (v := iI (3)) hx hb dX8_define_115 rfl ?_
            refine z_roS (As := [.int (iI (a)), .int (iI (0)), .int (iI (3))]) (rest := [.int (iI (0)), .ref (bd 0)]) ⟨hx, hb, hml, hown, hts⟩ (c_X8_in l D cI cZ cC (a) (0) (3) (by first | assumption | omega) (by first | assumption | omega) (by first | assumption | omega)) (va_cwS 3 hts gX8_define_X8_in rfl rfl rfl (by decide +kernel) ⟨Nat.le_of_ble_eq_true rfl, Nat.le_of_ble_eq_true rfl⟩) hP hK [] rfl rfl hl.1 rfl (Nat.le_of_ble_eq_true rfl) dX8_define_116 ⟨by omega, by omega⟩ ?_
            refine lv_iload hx hb dX8_define_119 (lv_at hl 0 rfl) ?_
            by_cases c_24 : (0 ≤ a ∧ a ≤ 3)
            · rw [bI_t c_24]
              refine z_muV (As := [.int (iI (0)), .int (iI (1)), .int (iI (0))]) (rest := []) (wr := [(bd 3, .inl (cZ, 8, .inl (iA (Ic)))), (bd 4, .inl (cI, 8, .inl (iA (Pm)))), (bd 5, .inl (cI, 8, .inl (iA (Am)))), (bd 6, .inl (cZ, 8, .inl (iA (Dm)))), (bd 1, .inl (cZ, 80, .inl (iA (Ir)))), (bd 2, .inl (cI, 160, .inl (iA (Vm))))]) (ws2 := (fun (u : Unit) => [(bd 0, .inr (8, [.ref (bd 1), .ref (bd 2), .ref (bd 3), .ref (bd 4), .ref (bd 5), .ref (bd 6), .ref (bd 7), .int (iI (cn)), .ref (bd 8), .int (iI (mp)), .ref (bd 9), .int (iI (ty)), .int (iI (gkI 0 1 0)), .ref (bd 10), .ref (bd 11), .int (iI (sp)), .int (iI (ta)), .int (iI (ke)), .int (iI (on)), .int (iI (tw))])), (bd 3, .inl (cZ, 8, .inl (iA (Ic)))), (bd 4, .inl (cI, 8, .inl (iA (Pm)))), (bd 5, .inl (cI, 8, .inl (iA (Am)))), (bd 6, .inl (cZ, 8, .inl (iA (Dm)))), (bd 1, .inl (cZ, 80, .inl (iA (Ir)))), (bd 2, .inl (cI, 160, .inl (iA (Vm))))])) ⟨hx, hb, hml, hown, hts⟩ (c_X8_goes l D cI cZ cC H.size (bd) (cn) (mp) (ty) (th) (sp) (ta) (ke) (on) (tw) (0) (1) (0) (by first | assumption | omega) (by first | assumption | omega) (by first | assumption | omega)) (cwV 3 hts gX8_define_X8_goes rfl rfl rfl (by decide +kernel) ⟨Nat.le_of_ble_eq_true rfl, Nat.le_of_ble_eq_true rfl⟩) hP hD hS hA hK [0] [1, 2, 3, 4, 5, 6] [6, 0, 1, 2, 3, 4, 5] rfl (by decide) rfl (by decide) (by decide) (by decide) (fun _ => rfl) 0 8 rfl rfl rfl rfl hl.1 rfl (Nat.le_of_ble_eq_true rfl) dX8_define_121 ⟨by omega, by omega⟩ (fun r_26 u H locs hq_25 hP hD hS => ?_)
              have hP : va_P D vwCl [(bd 0, .inr (8, [.ref (bd 1), .ref (bd 2), .ref (bd 3), .ref (bd 4), .ref (bd 5), .ref (bd 6), .ref (bd 7), .int (iI (cn)), .ref (bd 8), .int (iI (mp)), .ref (bd 9), .int (iI (ty)), .int (iI (gkI 0 1 0)), .ref (bd 10), .ref (bd 11), .int (iI (sp)), .int (iI (ta)), .int (iI (ke)), .int (iI (on)), .int (iI (tw))])), (bd 3, .inl (cZ, 8, .inl (iA (Ic)))), (bd 4, .inl (cI, 8, .inl (iA (Pm)))), (bd 5, .inl (cI, 8, .inl (iA (Am)))), (bd 6, .inl (cZ, 8, .inl (iA (Dm)))), (bd 1, .inl (cZ, 80, .inl (iA (Ir)))), (bd 2, .inl (cI, 160, .inl (iA (Vm))))] H := hP
              have hD : va_D AA [(bd 0, .inr (8, [.ref (bd 1), .ref (bd 2), .ref (bd 3), .ref (bd 4), .ref (bd 5), .ref (bd 6), .ref (bd 7), .int (iI (cn)), .ref (bd 8), .int (iI (mp)), .ref (bd 9), .int (iI (ty)), .int (iI (gkI 0 1 0)), .ref (bd 10), .ref (bd 11), .int (iI (sp)), .int (iI (ta)), .int (iI (ke)), .int (iI (on)), .int (iI (tw))])), (bd 3, .inl (cZ, 8, .inl (iA (Ic)))), (bd 4, .inl (cI, 8, .inl (iA (Pm)))), (bd 5, .inl (cI, 8, .inl (iA (Am)))), (bd 6, .inl (cZ, 8, .inl (iA (Dm)))), (bd 1, .inl (cZ, 80, .inl (iA (Ir)))), (bd 2, .inl (cI, 160, .inl (iA (Vm))))] := hD
              try dsimp only at hq_25
              obtain ⟨hv9, hq_25⟩ := hq_25
              have hv9 := hv9.symm
              subst hv9
              have hth : gkI (0) (1) (0) = 1 := rfl
              rw [hth] at hP hD
              have hP : va_P D vwCl [(bd 0, .inr (8, [.ref (bd 1), .ref (bd 2), .ref (bd 3), .ref (bd 4), .ref (bd 5), .ref (bd 6), .ref (bd 7), .int (iI (cn)), .ref (bd 8), .int (iI (mp)), .ref (bd 9), .int (iI (ty)), .int (iI (1)), .ref (bd 10), .ref (bd 11), .int (iI (sp)), .int (iI (ta)), .int (iI (ke)), .int (iI (on)), .int (iI (tw))])), (bd 3, .inl (cZ, 8, .inl (iA (Ic)))), (bd 4, .inl (cI, 8, .inl (iA (Pm)))), (bd 5, .inl (cI, 8, .inl (iA (Am)))), (bd 6, .inl (cZ, 8, .inl (iA (Dm)))), (bd 1, .inl (cZ, 80, .inl (iA (Ir)))), (bd 2, .inl (cI, 160, .inl (iA (Vm))))] H := hP
              have hD : va_D AA [(bd 0, .inr (8, [.ref (bd 1), .ref (bd 2), .ref (bd 3), .ref (bd 4), .ref (bd 5), .ref (bd 6), .ref (bd 7), .int (iI (cn)), .ref (bd 8), .int (iI (mp)), .ref (bd 9), .int (iI (ty)), .int (iI (1)), .ref (bd 10), .ref (bd 11), .int (iI (sp)), .int (iI (ta)), .int (iI (ke)), .int (iI (on)), .int (iI (tw))])), (bd 3, .inl (cZ, 8, .inl (iA (Ic)))), (bd 4, .inl (cI, 8, .inl (iA (Pm)))), (bd 5, .inl (cI, 8, .inl (iA (Am)))), (bd 6, .inl (cZ, 8, .inl (iA (Dm)))), (bd 1, .inl (cZ, 80, .inl (iA (Ir)))), (bd 2, .inl (cI, 160, .inl (iA (Vm))))] := hD
              rw [show bI (gkI (0) (1) (0) = 0) = 0 from bI_f (by rw [hth]; decide)]
              refine z_if_ne (tgt := 129) hx hb dX8_define_124 (by decide) ⟨by omega, by omega⟩ (fun c_27 => ?_) (fun c_27 => ?_)
              · exfalso
                omega
              · refine lv_iconst (v := iI (0)) hx hb dX8_define_127 rfl ?_
                refine z_mret ((Ic, Pm, Am, Dm, 1)) hx hb hr hlocks dX8_define_128 hP hD hS ?_
                rw [e20]
                have h_k9 := fun q => h_kk q
                refine ⟨by symm; first | (rw [goK_1 (by omega)]; done) | (rw [goK_2 (by omega) (by omega)]; done) | (rw [goK_3 (by omega) (by omega) (by first | omega | (have := h_kk (by omega); omega))]; done), ⟨by omega, by omega⟩, fun h => absurd h (by show ¬ (1 : Int) = 0; decide), fun _ => g_C⟩
            · rw [bI_f c_24]
              refine z_muV (As := [.int (iI (0)), .int (iI (0)), .int (iI (0))]) (rest := []) (wr := [(bd 3, .inl (cZ, 8, .inl (iA (Ic)))), (bd 4, .inl (cI, 8, .inl (iA (Pm)))), (bd 5, .inl (cI, 8, .inl (iA (Am)))), (bd 6, .inl (cZ, 8, .inl (iA (Dm)))), (bd 1, .inl (cZ, 80, .inl (iA (Ir)))), (bd 2, .inl (cI, 160, .inl (iA (Vm))))]) (ws2 := (fun (u : Unit) => [(bd 0, .inr (8, [.ref (bd 1), .ref (bd 2), .ref (bd 3), .ref (bd 4), .ref (bd 5), .ref (bd 6), .ref (bd 7), .int (iI (cn)), .ref (bd 8), .int (iI (mp)), .ref (bd 9), .int (iI (ty)), .int (iI (gkI 0 0 0)), .ref (bd 10), .ref (bd 11), .int (iI (sp)), .int (iI (ta)), .int (iI (ke)), .int (iI (on)), .int (iI (tw))])), (bd 3, .inl (cZ, 8, .inl (iA (Ic)))), (bd 4, .inl (cI, 8, .inl (iA (Pm)))), (bd 5, .inl (cI, 8, .inl (iA (Am)))), (bd 6, .inl (cZ, 8, .inl (iA (Dm)))), (bd 1, .inl (cZ, 80, .inl (iA (Ir)))), (bd 2, .inl (cI, 160, .inl (iA (Vm))))])) ⟨hx, hb, hml, hown, hts⟩ (c_X8_goes l D cI cZ cC H.size (bd) (cn) (mp) (ty) (th) (sp) (ta) (ke) (on) (tw) (0) (0) (0) (by first | assumption | omega) (by first | assumption | omega) (by first | assumption | omega)) (cwV 3 hts gX8_define_X8_goes rfl rfl rfl (by decide +kernel) ⟨Nat.le_of_ble_eq_true rfl, Nat.le_of_ble_eq_true rfl⟩) hP hD hS hA hK [0] [1, 2, 3, 4, 5, 6] [6, 0, 1, 2, 3, 4, 5] rfl (by decide) rfl (by decide) (by decide) (by decide) (fun _ => rfl) 0 8 rfl rfl rfl rfl hl.1 rfl (Nat.le_of_ble_eq_true rfl) dX8_define_121 ⟨by omega, by omega⟩ (fun r_29 u H locs hq_28 hP hD hS => ?_)
              have hP : va_P D vwCl [(bd 0, .inr (8, [.ref (bd 1), .ref (bd 2), .ref (bd 3), .ref (bd 4), .ref (bd 5), .ref (bd 6), .ref (bd 7), .int (iI (cn)), .ref (bd 8), .int (iI (mp)), .ref (bd 9), .int (iI (ty)), .int (iI (gkI 0 0 0)), .ref (bd 10), .ref (bd 11), .int (iI (sp)), .int (iI (ta)), .int (iI (ke)), .int (iI (on)), .int (iI (tw))])), (bd 3, .inl (cZ, 8, .inl (iA (Ic)))), (bd 4, .inl (cI, 8, .inl (iA (Pm)))), (bd 5, .inl (cI, 8, .inl (iA (Am)))), (bd 6, .inl (cZ, 8, .inl (iA (Dm)))), (bd 1, .inl (cZ, 80, .inl (iA (Ir)))), (bd 2, .inl (cI, 160, .inl (iA (Vm))))] H := hP
              have hD : va_D AA [(bd 0, .inr (8, [.ref (bd 1), .ref (bd 2), .ref (bd 3), .ref (bd 4), .ref (bd 5), .ref (bd 6), .ref (bd 7), .int (iI (cn)), .ref (bd 8), .int (iI (mp)), .ref (bd 9), .int (iI (ty)), .int (iI (gkI 0 0 0)), .ref (bd 10), .ref (bd 11), .int (iI (sp)), .int (iI (ta)), .int (iI (ke)), .int (iI (on)), .int (iI (tw))])), (bd 3, .inl (cZ, 8, .inl (iA (Ic)))), (bd 4, .inl (cI, 8, .inl (iA (Pm)))), (bd 5, .inl (cI, 8, .inl (iA (Am)))), (bd 6, .inl (cZ, 8, .inl (iA (Dm)))), (bd 1, .inl (cZ, 80, .inl (iA (Ir)))), (bd 2, .inl (cI, 160, .inl (iA (Vm))))] := hD
              try dsimp only at hq_28
              obtain ⟨hv9, hq_28⟩ := hq_28
              have hv9 := hv9.symm
              subst hv9
              have hth : gkI (0) (0) (0) = 1 := rfl
              rw [hth] at hP hD
              have hP : va_P D vwCl [(bd 0, .inr (8, [.ref (bd 1), .ref (bd 2), .ref (bd 3), .ref (bd 4), .ref (bd 5), .ref (bd 6), .ref (bd 7), .int (iI (cn)), .ref (bd 8), .int (iI (mp)), .ref (bd 9), .int (iI (ty)), .int (iI (1)), .ref (bd 10), .ref (bd 11), .int (iI (sp)), .int (iI (ta)), .int (iI (ke)), .int (iI (on)), .int (iI (tw))])), (bd 3, .inl (cZ, 8, .inl (iA (Ic)))), (bd 4, .inl (cI, 8, .inl (iA (Pm)))), (bd 5, .inl (cI, 8, .inl (iA (Am)))), (bd 6, .inl (cZ, 8, .inl (iA (Dm)))), (bd 1, .inl (cZ, 80, .inl (iA (Ir)))), (bd 2, .inl (cI, 160, .inl (iA (Vm))))] H := hP
              have hD : va_D AA [(bd 0, .inr (8, [.ref (bd 1), .ref (bd 2), .ref (bd 3), .ref (bd 4), .ref (bd 5), .ref (bd 6), .ref (bd 7), .int (iI (cn)), .ref (bd 8), .int (iI (mp)), .ref (bd 9), .int (iI (ty)), .int (iI (1)), .ref (bd 10), .ref (bd 11), .int (iI (sp)), .int (iI (ta)), .int (iI (ke)), .int (iI (on)), .int (iI (tw))])), (bd 3, .inl (cZ, 8, .inl (iA (Ic)))), (bd 4, .inl (cI, 8, .inl (iA (Pm)))), (bd 5, .inl (cI, 8, .inl (iA (Am)))), (bd 6, .inl (cZ, 8, .inl (iA (Dm)))), (bd 1, .inl (cZ, 80, .inl (iA (Ir)))), (bd 2, .inl (cI, 160, .inl (iA (Vm))))] := hD
              rw [show bI (gkI (0) (0) (0) = 0) = 0 from bI_f (by rw [hth]; decide)]
              refine z_if_ne (tgt := 129) hx hb dX8_define_124 (by decide) ⟨by omega, by omega⟩ (fun c_30 => ?_) (fun c_30 => ?_)
              · exfalso
                omega
              · refine lv_iconst (v := iI (0)) hx hb dX8_define_127 rfl ?_
                refine z_mret ((Ic, Pm, Am, Dm, 1)) hx hb hr hlocks dX8_define_128 hP hD hS ?_
                rw [e20]
                have h_k9 := fun q => h_kk q
                refine ⟨by symm; first | (rw [goK_1 (by omega)]; done) | (rw [goK_2 (by omega) (by omega)]; done) | (rw [goK_3 (by omega) (by omega) (by first | omega | (have := h_kk (by omega); omega))]; done), ⟨by omega, by omega⟩, fun h => absurd h (by show ¬ (1 : Int) = 0; decide), fun _ => g_C⟩
          · exfalso
            omega
        · exfalso
          omega
      · refine lv_iconst (v := iI (1)) hx hb dX8_define_28 rfl ?_
        refine lv_goto (tgt := 33) hx hb dX8_define_29 (by decide) ?_
        refine lv_istore (lv' := [(7, .int (iI (1))), (6, .int (iI (((2 * t) + k)))), (0, .ref (bd 0)), (1, .int (iI (t))), (2, .int (iI (k))), (3, .int (iI (p))), (4, .int (iI (a))), (5, .int (iI (d)))]) hx hb dX8_define_33 hl (by decide) rfl (fun ls hl => ?_)
        refine lv_iload hx hb dX8_define_35 (lv_at hl 0 rfl) ?_
        refine z_if_eq (tgt := 61) hx hb dX8_define_37 (by decide) ⟨by omega, by omega⟩ (fun c_31 => ?_) (fun c_31 => ?_)
        · exfalso
          omega
        · refine lv_aload_n hx hb dX8_define_40 rfl (lv_at hl 2 rfl) ?_
          refine va_get (D := D) (ci := 8) (v := .int (iI (cn))) (C := RX8) (T := TX8) (N := 20) hx hb hts (fun _ h => List.mem_cons_of_mem _ (List.mem_append_right _ (h))) hown hK.1 hP 0 rfl rfl 7 (by decide) (hts (.fieldLink RX8 67 "ForeignKeyStoreModel" "changes" "I") (List.mem_of_getElem? (i := 1) rfl)) (fun _ h9 => h9) rfl dX8_define_41 ?_
          refine z_if_ne (tgt := 61) hx hb dX8_define_44 (by decide) ⟨by omega, by omega⟩ (fun c_32 => ?_) (fun c_32 => ?_)
          · refine lv_iconst (v := iI (0)) hx hb dX8_define_61 rfl ?_
            refine lv_istore (lv' := [(8, .int (iI (0))), (7, .int (iI (1))), (6, .int (iI (((2 * t) + k)))), (0, .ref (bd 0)), (1, .int (iI (t))), (2, .int (iI (k))), (3, .int (iI (p))), (4, .int (iI (a))), (5, .int (iI (d)))]) hx hb dX8_define_62 hl (by decide) rfl (fun ls hl => ?_)
            refine lv_iload hx hb dX8_define_64 (lv_at hl 0 rfl) ?_
            refine z_if_eq (tgt := 109) hx hb dX8_define_66 (by decide) ⟨by omega, by omega⟩ (fun c_33 => ?_) (fun c_33 => ?_)
            · refine lv_aload_n hx hb dX8_define_109 rfl (lv_at hl 3 rfl) ?_
              refine lv_iload hx hb dX8_define_110 (lv_at hl 1 rfl) ?_
              refine lv_iload hx hb dX8_define_112 (lv_at hl 7 rfl) ?_
              refine lv_iconst (v := iI (0)) hx hb dX8_define_114 rfl ?_
              refine lv_iconst (v := iI (3)) hx hb dX8_define_115 rfl ?_
              refine z_roS (As := [.int (iI (a)), .int (iI (0)), .int (iI (3))]) (rest := [.int (iI (1)), .ref (bd 0)]) ⟨hx, hb, hml, hown, hts⟩ (c_X8_in l D cI cZ cC (a) (0) (3) (by first | assumption | omega) (by first | assumption | omega) (by first | assumption | omega)) (va_cwS 3 hts gX8_define_X8_in rfl rfl rfl (by decide +kernel) ⟨Nat.le_of_ble_eq_true rfl, Nat.le_of_ble_eq_true rfl⟩) hP hK [] rfl rfl hl.1 rfl (Nat.le_of_ble_eq_true rfl) dX8_define_116 ⟨by omega, by omega⟩ ?_
              refine lv_iload hx hb dX8_define_119 (lv_at hl 0 rfl) ?_
              by_cases c_34 : (0 ≤ a ∧ a ≤ 3)
              · rw [bI_t c_34]
                refine z_muV (As := [.int (iI (1)), .int (iI (1)), .int (iI (0))]) (rest := []) (wr := [(bd 3, .inl (cZ, 8, .inl (iA (Ic)))), (bd 4, .inl (cI, 8, .inl (iA (Pm)))), (bd 5, .inl (cI, 8, .inl (iA (Am)))), (bd 6, .inl (cZ, 8, .inl (iA (Dm)))), (bd 1, .inl (cZ, 80, .inl (iA (Ir)))), (bd 2, .inl (cI, 160, .inl (iA (Vm))))]) (ws2 := (fun (u : Unit) => [(bd 0, .inr (8, [.ref (bd 1), .ref (bd 2), .ref (bd 3), .ref (bd 4), .ref (bd 5), .ref (bd 6), .ref (bd 7), .int (iI (cn)), .ref (bd 8), .int (iI (mp)), .ref (bd 9), .int (iI (ty)), .int (iI (gkI 1 1 0)), .ref (bd 10), .ref (bd 11), .int (iI (sp)), .int (iI (ta)), .int (iI (ke)), .int (iI (on)), .int (iI (tw))])), (bd 3, .inl (cZ, 8, .inl (iA (Ic)))), (bd 4, .inl (cI, 8, .inl (iA (Pm)))), (bd 5, .inl (cI, 8, .inl (iA (Am)))), (bd 6, .inl (cZ, 8, .inl (iA (Dm)))), (bd 1, .inl (cZ, 80, .inl (iA (Ir)))), (bd 2, .inl (cI, 160, .inl (iA (Vm))))])) ⟨hx, hb, hml, hown, hts⟩ (c_X8_goes l D cI cZ cC H.size (bd) (cn) (mp) (ty) (th) (sp) (ta) (ke) (on) (tw) (1) (1) (0) (by first | assumption | omega) (by first | assumption | omega) (by first | assumption | omega)) (cwV 3 hts gX8_define_X8_goes rfl rfl rfl (by decide +kernel) ⟨Nat.le_of_ble_eq_true rfl, Nat.le_of_ble_eq_true rfl⟩) hP hD hS hA hK [0] [1, 2, 3, 4, 5, 6] [6, 0, 1, 2, 3, 4, 5] rfl (by decide) rfl (by decide) (by decide) (by decide) (fun _ => rfl) 0 8 rfl rfl rfl rfl hl.1 rfl (Nat.le_of_ble_eq_true rfl) dX8_define_121 ⟨by omega, by omega⟩ (fun r_36 u H locs hq_35 hP hD hS => ?_)
                have hP : va_P D vwCl [(bd 0, .inr (8, [.ref (bd 1), .ref (bd 2), .ref (bd 3), .ref (bd 4), .ref (bd 5), .ref (bd 6), .ref (bd 7), .int (iI (cn)), .ref (bd 8), .int (iI (mp)), .ref (bd 9), .int (iI (ty)), .int (iI (gkI 1 1 0)), .ref (bd 10), .ref (bd 11), .int (iI (sp)), .int (iI (ta)), .int (iI (ke)), .int (iI (on)), .int (iI (tw))])), (bd 3, .inl (cZ, 8, .inl (iA (Ic)))), (bd 4, .inl (cI, 8, .inl (iA (Pm)))), (bd 5, .inl (cI, 8, .inl (iA (Am)))), (bd 6, .inl (cZ, 8, .inl (iA (Dm)))), (bd 1, .inl (cZ, 80, .inl (iA (Ir)))), (bd 2, .inl (cI, 160, .inl (iA (Vm))))] H := hP
                have hD : va_D AA [(bd 0, .inr (8, [.ref (bd 1), .ref (bd 2), .ref (bd 3), .ref (bd 4), .ref (bd 5), .ref (bd 6), .ref (bd 7), .int (iI (cn)), .ref (bd 8), .int (iI (mp)), .ref (bd 9), .int (iI (ty)), .int (iI (gkI 1 1 0)), .ref (bd 10), .ref (bd 11), .int (iI (sp)), .int (iI (ta)), .int (iI (ke)), .int (iI (on)), .int (iI (tw))])), (bd 3, .inl (cZ, 8, .inl (iA (Ic)))), (bd 4, .inl (cI, 8, .inl (iA (Pm)))), (bd 5, .inl (cI, 8, .inl (iA (Am)))), (bd 6, .inl (cZ, 8, .inl (iA (Dm)))), (bd 1, .inl (cZ, 80, .inl (iA (Ir)))), (bd 2, .inl (cI, 160, .inl (iA (Vm))))] := hD
                try dsimp only at hq_35
                obtain ⟨hv9, hq_35⟩ := hq_35
                have hv9 := hv9.symm
                subst hv9
                have hth : gkI (1) (1) (0) = 3 := rfl
                rw [hth] at hP hD
                have hP : va_P D vwCl [(bd 0, .inr (8, [.ref (bd 1), .ref (bd 2), .ref (bd 3), .ref (bd 4), .ref (bd 5), .ref (bd 6), .ref (bd 7), .int (iI (cn)), .ref (bd 8), .int (iI (mp)), .ref (bd 9), .int (iI (ty)), .int (iI (3)), .ref (bd 10), .ref (bd 11), .int (iI (sp)), .int (iI (ta)), .int (iI (ke)), .int (iI (on)), .int (iI (tw))])), (bd 3, .inl (cZ, 8, .inl (iA (Ic)))), (bd 4, .inl (cI, 8, .inl (iA (Pm)))), (bd 5, .inl (cI, 8, .inl (iA (Am)))), (bd 6, .inl (cZ, 8, .inl (iA (Dm)))), (bd 1, .inl (cZ, 80, .inl (iA (Ir)))), (bd 2, .inl (cI, 160, .inl (iA (Vm))))] H := hP
                have hD : va_D AA [(bd 0, .inr (8, [.ref (bd 1), .ref (bd 2), .ref (bd 3), .ref (bd 4), .ref (bd 5), .ref (bd 6), .ref (bd 7), .int (iI (cn)), .ref (bd 8), .int (iI (mp)), .ref (bd 9), .int (iI (ty)), .int (iI (3)), .ref (bd 10), .ref (bd 11), .int (iI (sp)), .int (iI (ta)), .int (iI (ke)), .int (iI (on)), .int (iI (tw))])), (bd 3, .inl (cZ, 8, .inl (iA (Ic)))), (bd 4, .inl (cI, 8, .inl (iA (Pm)))), (bd 5, .inl (cI, 8, .inl (iA (Am)))), (bd 6, .inl (cZ, 8, .inl (iA (Dm)))), (bd 1, .inl (cZ, 80, .inl (iA (Ir)))), (bd 2, .inl (cI, 160, .inl (iA (Vm))))] := hD
                rw [show bI (gkI (1) (1) (0) = 0) = 0 from bI_f (by rw [hth]; decide)]
                refine z_if_ne (tgt := 129) hx hb dX8_define_124 (by decide) ⟨by omega, by omega⟩ (fun c_37 => ?_) (fun c_37 => ?_)
                · exfalso
                  omega
                · refine lv_iconst (v := iI (0)) hx hb dX8_define_127 rfl ?_
                  refine z_mret ((Ic, Pm, Am, Dm, 3)) hx hb hr hlocks dX8_define_128 hP hD hS ?_
                  rw [e20]
                  have h_k9 := fun q => h_kk q
                  refine ⟨by symm; first | (rw [goK_1 (by omega)]; done) | (rw [goK_2 (by omega) (by omega)]; done) | (rw [goK_3 (by omega) (by omega) (by first | omega | (have := h_kk (by omega); omega))]; done), ⟨by omega, by omega⟩, fun h => absurd h (by show ¬ (3 : Int) = 0; decide), fun _ => g_C⟩
              · rw [bI_f c_34]
                refine z_muV (As := [.int (iI (1)), .int (iI (0)), .int (iI (0))]) (rest := []) (wr := [(bd 3, .inl (cZ, 8, .inl (iA (Ic)))), (bd 4, .inl (cI, 8, .inl (iA (Pm)))), (bd 5, .inl (cI, 8, .inl (iA (Am)))), (bd 6, .inl (cZ, 8, .inl (iA (Dm)))), (bd 1, .inl (cZ, 80, .inl (iA (Ir)))), (bd 2, .inl (cI, 160, .inl (iA (Vm))))]) (ws2 := (fun (u : Unit) => [(bd 0, .inr (8, [.ref (bd 1), .ref (bd 2), .ref (bd 3), .ref (bd 4), .ref (bd 5), .ref (bd 6), .ref (bd 7), .int (iI (cn)), .ref (bd 8), .int (iI (mp)), .ref (bd 9), .int (iI (ty)), .int (iI (gkI 1 0 0)), .ref (bd 10), .ref (bd 11), .int (iI (sp)), .int (iI (ta)), .int (iI (ke)), .int (iI (on)), .int (iI (tw))])), (bd 3, .inl (cZ, 8, .inl (iA (Ic)))), (bd 4, .inl (cI, 8, .inl (iA (Pm)))), (bd 5, .inl (cI, 8, .inl (iA (Am)))), (bd 6, .inl (cZ, 8, .inl (iA (Dm)))), (bd 1, .inl (cZ, 80, .inl (iA (Ir)))), (bd 2, .inl (cI, 160, .inl (iA (Vm))))])) ⟨hx, hb, hml, hown, hts⟩ (c_X8_goes l D cI cZ cC H.size (bd) (cn) (mp) (ty) (th) (sp) (ta) (ke) (on) (tw) (1) (0) (0) (by first | assumption | omega) (by first | assumption | omega) (by first | assumption | omega)) (cwV 3 hts gX8_define_X8_goes rfl rfl rfl (by decide +kernel) ⟨Nat.le_of_ble_eq_true rfl, Nat.le_of_ble_eq_true rfl⟩) hP hD hS hA hK [0] [1, 2, 3, 4, 5, 6] [6, 0, 1, 2, 3, 4, 5] rfl (by decide) rfl (by decide) (by decide) (by decide) (fun _ => rfl) 0 8 rfl rfl rfl rfl hl.1 rfl (Nat.le_of_ble_eq_true rfl) dX8_define_121 ⟨by omega, by omega⟩ (fun r_39 u H locs hq_38 hP hD hS => ?_)
                have hP : va_P D vwCl [(bd 0, .inr (8, [.ref (bd 1), .ref (bd 2), .ref (bd 3), .ref (bd 4), .ref (bd 5), .ref (bd 6), .ref (bd 7), .int (iI (cn)), .ref (bd 8), .int (iI (mp)), .ref (bd 9), .int (iI (ty)), .int (iI (gkI 1 0 0)), .ref (bd 10), .ref (bd 11), .int (iI (sp)), .int (iI (ta)), .int (iI (ke)), .int (iI (on)), .int (iI (tw))])), (bd 3, .inl (cZ, 8, .inl (iA (Ic)))), (bd 4, .inl (cI, 8, .inl (iA (Pm)))), (bd 5, .inl (cI, 8, .inl (iA (Am)))), (bd 6, .inl (cZ, 8, .inl (iA (Dm)))), (bd 1, .inl (cZ, 80, .inl (iA (Ir)))), (bd 2, .inl (cI, 160, .inl (iA (Vm))))] H := hP
                have hD : va_D AA [(bd 0, .inr (8, [.ref (bd 1), .ref (bd 2), .ref (bd 3), .ref (bd 4), .ref (bd 5), .ref (bd 6), .ref (bd 7), .int (iI (cn)), .ref (bd 8), .int (iI (mp)), .ref (bd 9), .int (iI (ty)), .int (iI (gkI 1 0 0)), .ref (bd 10), .ref (bd 11), .int (iI (sp)), .int (iI (ta)), .int (iI (ke)), .int (iI (on)), .int (iI (tw))])), (bd 3, .inl (cZ, 8, .inl (iA (Ic)))), (bd 4, .inl (cI, 8, .inl (iA (Pm)))), (bd 5, .inl (cI, 8, .inl (iA (Am)))), (bd 6, .inl (cZ, 8, .inl (iA (Dm)))), (bd 1, .inl (cZ, 80, .inl (iA (Ir)))), (bd 2, .inl (cI, 160, .inl (iA (Vm))))] := hD
                try dsimp only at hq_38
                obtain ⟨hv9, hq_38⟩ := hq_38
                have hv9 := hv9.symm
                subst hv9
                have hth : gkI (1) (0) (0) = 2 := rfl
                rw [hth] at hP hD
                have hP : va_P D vwCl [(bd 0, .inr (8, [.ref (bd 1), .ref (bd 2), .ref (bd 3), .ref (bd 4), .ref (bd 5), .ref (bd 6), .ref (bd 7), .int (iI (cn)), .ref (bd 8), .int (iI (mp)), .ref (bd 9), .int (iI (ty)), .int (iI (2)), .ref (bd 10), .ref (bd 11), .int (iI (sp)), .int (iI (ta)), .int (iI (ke)), .int (iI (on)), .int (iI (tw))])), (bd 3, .inl (cZ, 8, .inl (iA (Ic)))), (bd 4, .inl (cI, 8, .inl (iA (Pm)))), (bd 5, .inl (cI, 8, .inl (iA (Am)))), (bd 6, .inl (cZ, 8, .inl (iA (Dm)))), (bd 1, .inl (cZ, 80, .inl (iA (Ir)))), (bd 2, .inl (cI, 160, .inl (iA (Vm))))] H := hP
                have hD : va_D AA [(bd 0, .inr (8, [.ref (bd 1), .ref (bd 2), .ref (bd 3), .ref (bd 4), .ref (bd 5), .ref (bd 6), .ref (bd 7), .int (iI (cn)), .ref (bd 8), .int (iI (mp)), .ref (bd 9), .int (iI (ty)), .int (iI (2)), .ref (bd 10), .ref (bd 11), .int (iI (sp)), .int (iI (ta)), .int (iI (ke)), .int (iI (on)), .int (iI (tw))])), (bd 3, .inl (cZ, 8, .inl (iA (Ic)))), (bd 4, .inl (cI, 8, .inl (iA (Pm)))), (bd 5, .inl (cI, 8, .inl (iA (Am)))), (bd 6, .inl (cZ, 8, .inl (iA (Dm)))), (bd 1, .inl (cZ, 80, .inl (iA (Ir)))), (bd 2, .inl (cI, 160, .inl (iA (Vm))))] := hD
                rw [show bI (gkI (1) (0) (0) = 0) = 0 from bI_f (by rw [hth]; decide)]
                refine z_if_ne (tgt := 129) hx hb dX8_define_124 (by decide) ⟨by omega, by omega⟩ (fun c_40 => ?_) (fun c_40 => ?_)
                · exfalso
                  omega
                · refine lv_iconst (v := iI (0)) hx hb dX8_define_127 rfl ?_
                  refine z_mret ((Ic, Pm, Am, Dm, 2)) hx hb hr hlocks dX8_define_128 hP hD hS ?_
                  rw [e20]
                  have h_k9 := fun q => h_kk q
                  refine ⟨by symm; first | (rw [goK_1 (by omega)]; done) | (rw [goK_2 (by omega) (by omega)]; done) | (rw [goK_3 (by omega) (by omega) (by first | omega | (have := h_kk (by omega); omega))]; done), ⟨by omega, by omega⟩, fun h => absurd h (by show ¬ (2 : Int) = 0; decide), fun _ => g_C⟩
            · exfalso
              omega
          · refine lv_aload_n hx hb dX8_define_47 rfl (lv_at hl 2 rfl) ?_
            refine va_get (D := D) (ci := 8) (v := .ref (bd 3)) (C := RX8) (T := TX8) (N := 20) hx hb hts (fun _ h => List.mem_cons_of_mem _ (List.mem_append_right _ (h))) hown hK.1 hP 0 rfl rfl 2 (by decide) (hts (.fieldLink RX8 17 "ForeignKeyStoreModel" "isConstraint" "[Z") (List.mem_of_getElem? (i := 2) rfl)) (fun _ h9 => h9) rfl dX8_define_48 ?_
            refine lv_iload hx hb dX8_define_51 (lv_at hl 1 rfl) ?_
            refine z_zald hx hb hK.1 hP 1 1 rfl rfl (by omega) (by decide) dX8_define_53 ?_
            have hb_41 := g_Ic (((2 * t) + k)) (by omega) (by omega)
            refine z_if_ne (tgt := 61) hx hb dX8_define_54 (by decide) ⟨by omega, by omega⟩ (fun c_42 => ?_) (fun c_42 => ?_)
            · refine lv_iconst (v := iI (0)) hx hb dX8_define_61 rfl ?_
              refine lv_istore (lv' := [(8, .int (iI (0))), (7, .int (iI (1))), (6, .int (iI (((2 * t) + k)))), (0, .ref (bd 0)), (1, .int (iI (t))), (2, .int (iI (k))), (3, .int (iI (p))), (4, .int (iI (a))), (5, .int (iI (d)))]) hx hb dX8_define_62 hl (by decide) rfl (fun ls hl => ?_)
              refine lv_iload hx hb dX8_define_64 (lv_at hl 0 rfl) ?_
              refine z_if_eq (tgt := 109) hx hb dX8_define_66 (by decide) ⟨by omega, by omega⟩ (fun c_43 => ?_) (fun c_43 => ?_)
              · refine lv_aload_n hx hb dX8_define_109 rfl (lv_at hl 3 rfl) ?_
                refine lv_iload hx hb dX8_define_110 (lv_at hl 1 rfl) ?_
                refine lv_iload hx hb dX8_define_112 (lv_at hl 7 rfl) ?_
                refine lv_iconst (v := iI (0)) hx hb dX8_define_114 rfl ?_
                refine lv_iconst (v := iI (3)) hx hb dX8_define_115 rfl ?_
                refine z_roS (As := [.int (iI (a)), .int (iI (0)), .int (iI (3))]) (rest := [.int (iI (1)), .ref (bd 0)]) ⟨hx, hb, hml, hown, hts⟩ (c_X8_in l D cI cZ cC (a) (0) (3) (by first | assumption | omega) (by first | assumption | omega) (by first | assumption | omega)) (va_cwS 3 hts gX8_define_X8_in rfl rfl rfl (by decide +kernel) ⟨Nat.le_of_ble_eq_true rfl, Nat.le_of_ble_eq_true rfl⟩) hP hK [] rfl rfl hl.1 rfl (Nat.le_of_ble_eq_true rfl) dX8_define_116 ⟨by omega, by omega⟩ ?_
                refine lv_iload hx hb dX8_define_119 (lv_at hl 0 rfl) ?_
                by_cases c_44 : (0 ≤ a ∧ a ≤ 3)
                · rw [bI_t c_44]
                  refine z_muV (As := [.int (iI (1)), .int (iI (1)), .int (iI (0))]) (rest := []) (wr := [(bd 3, .inl (cZ, 8, .inl (iA (Ic)))), (bd 4, .inl (cI, 8, .inl (iA (Pm)))), (bd 5, .inl (cI, 8, .inl (iA (Am)))), (bd 6, .inl (cZ, 8, .inl (iA (Dm)))), (bd 1, .inl (cZ, 80, .inl (iA (Ir)))), (bd 2, .inl (cI, 160, .inl (iA (Vm))))]) (ws2 := (fun (u : Unit) => [(bd 0, .inr (8, [.ref (bd 1), .ref (bd 2), .ref (bd 3), .ref (bd 4), .ref (bd 5), .ref (bd 6), .ref (bd 7), .int (iI (cn)), .ref (bd 8), .int (iI (mp)), .ref (bd 9), .int (iI (ty)), .int (iI (gkI 1 1 0)), .ref (bd 10), .ref (bd 11), .int (iI (sp)), .int (iI (ta)), .int (iI (ke)), .int (iI (on)), .int (iI (tw))])), (bd 3, .inl (cZ, 8, .inl (iA (Ic)))), (bd 4, .inl (cI, 8, .inl (iA (Pm)))), (bd 5, .inl (cI, 8, .inl (iA (Am)))), (bd 6, .inl (cZ, 8, .inl (iA (Dm)))), (bd 1, .inl (cZ, 80, .inl (iA (Ir)))), (bd 2, .inl (cI, 160, .inl (iA (Vm))))])) ⟨hx, hb, hml, hown, hts⟩ (c_X8_goes l D cI cZ cC H.size (bd) (cn) (mp) (ty) (th) (sp) (ta) (ke) (on) (tw) (1) (1) (0) (by first | assumption | omega) (by first | assumption | omega) (by first | assumption | omega)) (cwV 3 hts gX8_define_X8_goes rfl rfl rfl (by decide +kernel) ⟨Nat.le_of_ble_eq_true rfl, Nat.le_of_ble_eq_true rfl⟩) hP hD hS hA hK [0] [1, 2, 3, 4, 5, 6] [6, 0, 1, 2, 3, 4, 5] rfl (by decide) rfl (by decide) (by decide) (by decide) (fun _ => rfl) 0 8 rfl rfl rfl rfl hl.1 rfl (Nat.le_of_ble_eq_true rfl) dX8_define_121 ⟨by omega, by omega⟩ (fun r_46 u H locs hq_45 hP hD hS => ?_)
                  have hP : va_P D vwCl [(bd 0, .inr (8, [.ref (bd 1), .ref (bd 2), .ref (bd 3), .ref (bd 4), .ref (bd 5), .ref (bd 6), .ref (bd 7), .int (iI (cn)), .ref (bd 8), .int (iI (mp)), .ref (bd 9), .int (iI (ty)), .int (iI (gkI 1 1 0)), .ref (bd 10), .ref (bd 11), .int (iI (sp)), .int (iI (ta)), .int (iI (ke)), .int (iI (on)), .int (iI (tw))])), (bd 3, .inl (cZ, 8, .inl (iA (Ic)))), (bd 4, .inl (cI, 8, .inl (iA (Pm)))), (bd 5, .inl (cI, 8, .inl (iA (Am)))), (bd 6, .inl (cZ, 8, .inl (iA (Dm)))), (bd 1, .inl (cZ, 80, .inl (iA (Ir)))), (bd 2, .inl (cI, 160, .inl (iA (Vm))))] H := hP
                  have hD : va_D AA [(bd 0, .inr (8, [.ref (bd 1), .ref (bd 2), .ref (bd 3), .ref (bd 4), .ref (bd 5), .ref (bd 6), .ref (bd 7), .int (iI (cn)), .ref (bd 8), .int (iI (mp)), .ref (bd 9), .int (iI (ty)), .int (iI (gkI 1 1 0)), .ref (bd 10), .ref (bd 11), .int (iI (sp)), .int (iI (ta)), .int (iI (ke)), .int (iI (on)), .int (iI (tw))])), (bd 3, .inl (cZ, 8, .inl (iA (Ic)))), (bd 4, .inl (cI, 8, .inl (iA (Pm)))), (bd 5, .inl (cI, 8, .inl (iA (Am)))), (bd 6, .inl (cZ, 8, .inl (iA (Dm)))), (bd 1, .inl (cZ, 80, .inl (iA (Ir)))), (bd 2, .inl (cI, 160, .inl (iA (Vm))))] := hD
                  try dsimp only at hq_45
                  obtain ⟨hv9, hq_45⟩ := hq_45
                  have hv9 := hv9.symm
                  subst hv9
                  have hth : gkI (1) (1) (0) = 3 := rfl
                  rw [hth] at hP hD
                  have hP : va_P D vwCl [(bd 0, .inr (8, [.ref (bd 1), .ref (bd 2), .ref (bd 3), .ref (bd 4), .ref (bd 5), .ref (bd 6), .ref (bd 7), .int (iI (cn)), .ref (bd 8), .int (iI (mp)), .ref (bd 9), .int (iI (ty)), .int (iI (3)), .ref (bd 10), .ref (bd 11), .int (iI (sp)), .int (iI (ta)), .int (iI (ke)), .int (iI (on)), .int (iI (tw))])), (bd 3, .inl (cZ, 8, .inl (iA (Ic)))), (bd 4, .inl (cI, 8, .inl (iA (Pm)))), (bd 5, .inl (cI, 8, .inl (iA (Am)))), (bd 6, .inl (cZ, 8, .inl (iA (Dm)))), (bd 1, .inl (cZ, 80, .inl (iA (Ir)))), (bd 2, .inl (cI, 160, .inl (iA (Vm))))] H := hP
                  have hD : va_D AA [(bd 0, .inr (8, [.ref (bd 1), .ref (bd 2), .ref (bd 3), .ref (bd 4), .ref (bd 5), .ref (bd 6), .ref (bd 7), .int (iI (cn)), .ref (bd 8), .int (iI (mp)), .ref (bd 9), .int (iI (ty)), .int (iI (3)), .ref (bd 10), .ref (bd 11), .int (iI (sp)), .int (iI (ta)), .int (iI (ke)), .int (iI (on)), .int (iI (tw))])), (bd 3, .inl (cZ, 8, .inl (iA (Ic)))), (bd 4, .inl (cI, 8, .inl (iA (Pm)))), (bd 5, .inl (cI, 8, .inl (iA (Am)))), (bd 6, .inl (cZ, 8, .inl (iA (Dm)))), (bd 1, .inl (cZ, 80, .inl (iA (Ir)))), (bd 2, .inl (cI, 160, .inl (iA (Vm))))] := hD
                  rw [show bI (gkI (1) (1) (0) = 0) = 0 from bI_f (by rw [hth]; decide)]
                  refine z_if_ne (tgt := 129) hx hb dX8_define_124 (by decide) ⟨by omega, by omega⟩ (fun c_47 => ?_) (fun c_47 => ?_)
                  · exfalso
                    omega
                  · refine lv_iconst (v := iI (0)) hx hb dX8_define_127 rfl ?_
                    refine z_mret ((Ic, Pm, Am, Dm, 3)) hx hb hr hlocks dX8_define_128 hP hD hS ?_
                    rw [e20]
                    have h_k9 := fun q => h_kk q
                    refine ⟨by symm; first | (rw [goK_1 (by omega)]; done) | (rw [goK_2 (by omega) (by omega)]; done) | (rw [goK_3 (by omega) (by omega) (by first | omega | (have := h_kk (by omega); omega))]; done), ⟨by omega, by omega⟩, fun h => absurd h (by show ¬ (3 : Int) = 0; decide), fun _ => g_C⟩
                · rw [bI_f c_44]
                  refine z_muV (As := [.int (iI (1)), .int (iI (0)), .int (iI (0))]) (rest := []) (wr := [(bd 3, .inl (cZ, 8, .inl (iA (Ic)))), (bd 4, .inl (cI, 8, .inl (iA (Pm)))), (bd 5, .inl (cI, 8, .inl (iA (Am)))), (bd 6, .inl (cZ, 8, .inl (iA (Dm)))), (bd 1, .inl (cZ, 80, .inl (iA (Ir)))), (bd 2, .inl (cI, 160, .inl (iA (Vm))))]) (ws2 := (fun (u : Unit) => [(bd 0, .inr (8, [.ref (bd 1), .ref (bd 2), .ref (bd 3), .ref (bd 4), .ref (bd 5), .ref (bd 6), .ref (bd 7), .int (iI (cn)), .ref (bd 8), .int (iI (mp)), .ref (bd 9), .int (iI (ty)), .int (iI (gkI 1 0 0)), .ref (bd 10), .ref (bd 11), .int (iI (sp)), .int (iI (ta)), .int (iI (ke)), .int (iI (on)), .int (iI (tw))])), (bd 3, .inl (cZ, 8, .inl (iA (Ic)))), (bd 4, .inl (cI, 8, .inl (iA (Pm)))), (bd 5, .inl (cI, 8, .inl (iA (Am)))), (bd 6, .inl (cZ, 8, .inl (iA (Dm)))), (bd 1, .inl (cZ, 80, .inl (iA (Ir)))), (bd 2, .inl (cI, 160, .inl (iA (Vm))))])) ⟨hx, hb, hml, hown, hts⟩ (c_X8_goes l D cI cZ cC H.size (bd) (cn) (mp) (ty) (th) (sp) (ta) (ke) (on) (tw) (1) (0) (0) (by first | assumption | omega) (by first | assumption | omega) (by first | assumption | omega)) (cwV 3 hts gX8_define_X8_goes rfl rfl rfl (by decide +kernel) ⟨Nat.le_of_ble_eq_true rfl, Nat.le_of_ble_eq_true rfl⟩) hP hD hS hA hK [0] [1, 2, 3, 4, 5, 6] [6, 0, 1, 2, 3, 4, 5] rfl (by decide) rfl (by decide) (by decide) (by decide) (fun _ => rfl) 0 8 rfl rfl rfl rfl hl.1 rfl (Nat.le_of_ble_eq_true rfl) dX8_define_121 ⟨by omega, by omega⟩ (fun r_49 u H locs hq_48 hP hD hS => ?_)
                  have hP : va_P D vwCl [(bd 0, .inr (8, [.ref (bd 1), .ref (bd 2), .ref (bd 3), .ref (bd 4), .ref (bd 5), .ref (bd 6), .ref (bd 7), .int (iI (cn)), .ref (bd 8), .int (iI (mp)), .ref (bd 9), .int (iI (ty)), .int (iI (gkI 1 0 0)), .ref (bd 10), .ref (bd 11), .int (iI (sp)), .int (iI (ta)), .int (iI (ke)), .int (iI (on)), .int (iI (tw))])), (bd 3, .inl (cZ, 8, .inl (iA (Ic)))), (bd 4, .inl (cI, 8, .inl (iA (Pm)))), (bd 5, .inl (cI, 8, .inl (iA (Am)))), (bd 6, .inl (cZ, 8, .inl (iA (Dm)))), (bd 1, .inl (cZ, 80, .inl (iA (Ir)))), (bd 2, .inl (cI, 160, .inl (iA (Vm))))] H := hP
                  have hD : va_D AA [(bd 0, .inr (8, [.ref (bd 1), .ref (bd 2), .ref (bd 3), .ref (bd 4), .ref (bd 5), .ref (bd 6), .ref (bd 7), .int (iI (cn)), .ref (bd 8), .int (iI (mp)), .ref (bd 9), .int (iI (ty)), .int (iI (gkI 1 0 0)), .ref (bd 10), .ref (bd 11), .int (iI (sp)), .int (iI (ta)), .int (iI (ke)), .int (iI (on)), .int (iI (tw))])), (bd 3, .inl (cZ, 8, .inl (iA (Ic)))), (bd 4, .inl (cI, 8, .inl (iA (Pm)))), (bd 5, .inl (cI, 8, .inl (iA (Am)))), (bd 6, .inl (cZ, 8, .inl (iA (Dm)))), (bd 1, .inl (cZ, 80, .inl (iA (Ir)))), (bd 2, .inl (cI, 160, .inl (iA (Vm))))] := hD
                  try dsimp only at hq_48
                  obtain ⟨hv9, hq_48⟩ := hq_48
                  have hv9 := hv9.symm
                  subst hv9
                  have hth : gkI (1) (0) (0) = 2 := rfl
                  rw [hth] at hP hD
                  have hP : va_P D vwCl [(bd 0, .inr (8, [.ref (bd 1), .ref (bd 2), .ref (bd 3), .ref (bd 4), .ref (bd 5), .ref (bd 6), .ref (bd 7), .int (iI (cn)), .ref (bd 8), .int (iI (mp)), .ref (bd 9), .int (iI (ty)), .int (iI (2)), .ref (bd 10), .ref (bd 11), .int (iI (sp)), .int (iI (ta)), .int (iI (ke)), .int (iI (on)), .int (iI (tw))])), (bd 3, .inl (cZ, 8, .inl (iA (Ic)))), (bd 4, .inl (cI, 8, .inl (iA (Pm)))), (bd 5, .inl (cI, 8, .inl (iA (Am)))), (bd 6, .inl (cZ, 8, .inl (iA (Dm)))), (bd 1, .inl (cZ, 80, .inl (iA (Ir)))), (bd 2, .inl (cI, 160, .inl (iA (Vm))))] H := hP
                  have hD : va_D AA [(bd 0, .inr (8, [.ref (bd 1), .ref (bd 2), .ref (bd 3), .ref (bd 4), .ref (bd 5), .ref (bd 6), .ref (bd 7), .int (iI (cn)), .ref (bd 8), .int (iI (mp)), .ref (bd 9), .int (iI (ty)), .int (iI (2)), .ref (bd 10), .ref (bd 11), .int (iI (sp)), .int (iI (ta)), .int (iI (ke)), .int (iI (on)), .int (iI (tw))])), (bd 3, .inl (cZ, 8, .inl (iA (Ic)))), (bd 4, .inl (cI, 8, .inl (iA (Pm)))), (bd 5, .inl (cI, 8, .inl (iA (Am)))), (bd 6, .inl (cZ, 8, .inl (iA (Dm)))), (bd 1, .inl (cZ, 80, .inl (iA (Ir)))), (bd 2, .inl (cI, 160, .inl (iA (Vm))))] := hD
                  rw [show bI (gkI (1) (0) (0) = 0) = 0 from bI_f (by rw [hth]; decide)]
                  refine z_if_ne (tgt := 129) hx hb dX8_define_124 (by decide) ⟨by omega, by omega⟩ (fun c_50 => ?_) (fun c_50 => ?_)
                  · exfalso
                    omega
                  · refine lv_iconst (v := iI (0)) hx hb dX8_define_127 rfl ?_
                    refine z_mret ((Ic, Pm, Am, Dm, 2)) hx hb hr hlocks dX8_define_128 hP hD hS ?_
                    rw [e20]
                    have h_k9 := fun q => h_kk q
                    refine ⟨by symm; first | (rw [goK_1 (by omega)]; done) | (rw [goK_2 (by omega) (by omega)]; done) | (rw [goK_3 (by omega) (by omega) (by first | omega | (have := h_kk (by omega); omega))]; done), ⟨by omega, by omega⟩, fun h => absurd h (by show ¬ (2 : Int) = 0; decide), fun _ => g_C⟩
              · exfalso
                omega
            · refine lv_iconst (v := iI (1)) hx hb dX8_define_57 rfl ?_
              refine lv_goto (tgt := 62) hx hb dX8_define_58 (by decide) ?_
              refine lv_istore (lv' := [(8, .int (iI (1))), (7, .int (iI (1))), (6, .int (iI (((2 * t) + k)))), (0, .ref (bd 0)), (1, .int (iI (t))), (2, .int (iI (k))), (3, .int (iI (p))), (4, .int (iI (a))), (5, .int (iI (d)))]) hx hb dX8_define_62 hl (by decide) rfl (fun ls hl => ?_)
              refine lv_iload hx hb dX8_define_64 (lv_at hl 0 rfl) ?_
              refine z_if_eq (tgt := 109) hx hb dX8_define_66 (by decide) ⟨by omega, by omega⟩ (fun c_51 => ?_) (fun c_51 => ?_)
              · exfalso
                omega
              · refine lv_aload_n hx hb dX8_define_69 rfl (lv_at hl 3 rfl) ?_
                refine va_get (D := D) (ci := 8) (v := .ref (bd 3)) (C := RX8) (T := TX8) (N := 20) hx hb hts (fun _ h => List.mem_cons_of_mem _ (List.mem_append_right _ (h))) hown hK.1 hP 0 rfl rfl 2 (by decide) (hts (.fieldLink RX8 17 "ForeignKeyStoreModel" "isConstraint" "[Z") (List.mem_of_getElem? (i := 2) rfl)) (fun _ h9 => h9) rfl dX8_define_70 ?_
                refine lv_iload hx hb dX8_define_73 (lv_at hl 2 rfl) ?_
                refine lv_iconst (v := iI (1)) hx hb dX8_define_75 rfl ?_
                refine z_zast hx hb hK.1 hP hD hS 1 1 rfl rfl (by omega) (by decide) (by omega) dX8_define_76 (fun H locs hP hD hS => ?_)
                have hP : va_P D vwCl [(bd 0, .inr (8, [.ref (bd 1), .ref (bd 2), .ref (bd 3), .ref (bd 4), .ref (bd 5), .ref (bd 6), .ref (bd 7), .int (iI (cn)), .ref (bd 8), .int (iI (mp)), .ref (bd 9), .int (iI (ty)), .int (iI (th)), .ref (bd 10), .ref (bd 11), .int (iI (sp)), .int (iI (ta)), .int (iI (ke)), .int (iI (on)), .int (iI (tw))])), (bd 3, .inl (cZ, 8, .inl (iA (uI (Ic) (((2 * t) + k)) (1))))), (bd 4, .inl (cI, 8, .inl (iA (Pm)))), (bd 5, .inl (cI, 8, .inl (iA (Am)))), (bd 6, .inl (cZ, 8, .inl (iA (Dm)))), (bd 1, .inl (cZ, 80, .inl (iA (Ir)))), (bd 2, .inl (cI, 160, .inl (iA (Vm))))] H := hP
                have hD : va_D AA [(bd 0, .inr (8, [.ref (bd 1), .ref (bd 2), .ref (bd 3), .ref (bd 4), .ref (bd 5), .ref (bd 6), .ref (bd 7), .int (iI (cn)), .ref (bd 8), .int (iI (mp)), .ref (bd 9), .int (iI (ty)), .int (iI (th)), .ref (bd 10), .ref (bd 11), .int (iI (sp)), .int (iI (ta)), .int (iI (ke)), .int (iI (on)), .int (iI (tw))])), (bd 3, .inl (cZ, 8, .inl (iA (uI (Ic) (((2 * t) + k)) (1))))), (bd 4, .inl (cI, 8, .inl (iA (Pm)))), (bd 5, .inl (cI, 8, .inl (iA (Am)))), (bd 6, .inl (cZ, 8, .inl (iA (Dm)))), (bd 1, .inl (cZ, 80, .inl (iA (Ir)))), (bd 2, .inl (cI, 160, .inl (iA (Vm))))] := hD
                refine lv_aload_n hx hb dX8_define_77 rfl (lv_at hl 3 rfl) ?_
                refine va_get (D := D) (ci := 8) (v := .ref (bd 4)) (C := RX8) (T := TX8) (N := 20) hx hb hts (fun _ h => List.mem_cons_of_mem _ (List.mem_append_right _ (h))) hown hK.1 hP 0 rfl rfl 3 (by decide) (hts (.fieldLink RX8 20 "ForeignKeyStoreModel" "parents" "[I") (List.mem_of_getElem? (i := 3) rfl)) (fun _ h9 => h9) rfl dX8_define_78 ?_
                refine lv_iload hx hb dX8_define_81 (lv_at hl 2 rfl) ?_
                refine lv_iload_n hx hb dX8_define_83 rfl (lv_at hl 6 rfl) ?_
                refine z_iast hx hb hK.1 hP hD hS 2 0 rfl rfl (by omega) (by decide) dX8_define_84 (fun H locs hP hD hS => ?_)
                have hP : va_P D vwCl [(bd 0, .inr (8, [.ref (bd 1), .ref (bd 2), .ref (bd 3), .ref (bd 4), .ref (bd 5), .ref (bd 6), .ref (bd 7), .int (iI (cn)), .ref (bd 8), .int (iI (mp)), .ref (bd 9), .int (iI (ty)), .int (iI (th)), .ref (bd 10), .ref (bd 11), .int (iI (sp)), .int (iI (ta)), .int (iI (ke)), .int (iI (on)), .int (iI (tw))])), (bd 3, .inl (cZ, 8, .inl (iA (uI (Ic) (((2 * t) + k)) (1))))), (bd 4, .inl (cI, 8, .inl (iA (uI (Pm) (((2 * t) + k)) (p))))), (bd 5, .inl (cI, 8, .inl (iA (Am)))), (bd 6, .inl (cZ, 8, .inl (iA (Dm)))), (bd 1, .inl (cZ, 80, .inl (iA (Ir)))), (bd 2, .inl (cI, 160, .inl (iA (Vm))))] H := hP
                have hD : va_D AA [(bd 0, .inr (8, [.ref (bd 1), .ref (bd 2), .ref (bd 3), .ref (bd 4), .ref (bd 5), .ref (bd 6), .ref (bd 7), .int (iI (cn)), .ref (bd 8), .int (iI (mp)), .ref (bd 9), .int (iI (ty)), .int (iI (th)), .ref (bd 10), .ref (bd 11), .int (iI (sp)), .int (iI (ta)), .int (iI (ke)), .int (iI (on)), .int (iI (tw))])), (bd 3, .inl (cZ, 8, .inl (iA (uI (Ic) (((2 * t) + k)) (1))))), (bd 4, .inl (cI, 8, .inl (iA (uI (Pm) (((2 * t) + k)) (p))))), (bd 5, .inl (cI, 8, .inl (iA (Am)))), (bd 6, .inl (cZ, 8, .inl (iA (Dm)))), (bd 1, .inl (cZ, 80, .inl (iA (Ir)))), (bd 2, .inl (cI, 160, .inl (iA (Vm))))] := hD
                refine lv_aload_n hx hb dX8_define_85 rfl (lv_at hl 3 rfl) ?_
                have h_C2 : rC8 (uI Ic (2 * t + k) 1) (uI Pm (2 * t + k) p) Am Dm (uI P (2 * t + k) p) (uI Ac (2 * t + k) (Am (2 * t + k))) (uI Mo (2 * t + k) (Dm (2 * t + k))) := by
                  have h := rC_def (k := 2 * t + k) (p := p) (a := Am (2 * t + k)) (d := Dm (2 * t + k)) g_C (by omega) (g_Am _ (by omega) (by omega)) (g_Dm _ (by omega) (by omega))
                  rw [uI_self, uI_self] at h
                  exact h
                refine lv_iload hx hb dX8_define_86 (lv_at hl 2 rfl) ?_
                refine z_roV (As := [.int (iI (((2 * t) + k)))]) (rest := []) ⟨hx, hb, hml, hown, hts⟩ (c_X8_violations l D cI cZ cC (bd) (cn) (mp) (ty) (th) (sp) (ta) (ke) (on) (tw) (Ir) (Vm) (V) (uI (Ic) (((2 * t) + k)) (1)) (uI (Pm) (((2 * t) + k)) (p)) (Am) (Dm) (uI P (2 * t + k) p) (uI Ac (2 * t + k) (Am (2 * t + k))) (uI Mo (2 * t + k) (Dm (2 * t + k))) (((2 * t) + k)) (g_R) (h_C2) (⟨by omega, by omega⟩)) (cwV 1 hts gX8_define_X8_violations rfl rfl rfl (by decide +kernel) ⟨Nat.le_of_ble_eq_true rfl, Nat.le_of_ble_eq_true rfl⟩) hP hK [0, 5, 6, 1, 2] rfl 0 8 rfl rfl rfl rfl hl.1 rfl (Nat.le_of_ble_eq_true rfl) dX8_define_88 ⟨by omega, by omega⟩ ?_
                have hf_52 := vio_b V ((((2 * t) + k))) (inP (uI P (2 * t + k) p) ((((2 * t) + k))))
                have h_ip : inP (uI P (2 * t + k) p) (2 * t + k) = p := inP_u ⟨by omega, by omega⟩
                rw [h_ip]
                have h_vb := vio_b V (2 * t + k) p
                refine z_if_ne (tgt := 98) hx hb dX8_define_91 (by decide) ⟨by omega, by omega⟩ (fun c_53 => ?_) (fun c_53 => ?_)
                · refine lv_iconst (v := iI (0)) hx hb dX8_define_98 rfl ?_
                  refine lv_istore (lv' := [(8, .int (iI (0))), (7, .int (iI (1))), (6, .int (iI (((2 * t) + k)))), (0, .ref (bd 0)), (1, .int (iI (t))), (2, .int (iI (k))), (3, .int (iI (p))), (4, .int (iI (a))), (5, .int (iI (d)))]) hx hb dX8_define_99 hl (by decide) rfl (fun ls hl => ?_)
                  refine lv_aload_n hx hb dX8_define_101 rfl (lv_at hl 3 rfl) ?_
                  refine va_get (D := D) (ci := 8) (v := .ref (bd 3)) (C := RX8) (T := TX8) (N := 20) hx hb hts (fun _ h => List.mem_cons_of_mem _ (List.mem_append_right _ (h))) hown hK.1 hP 0 rfl rfl 2 (by decide) (hts (.fieldLink RX8 17 "ForeignKeyStoreModel" "isConstraint" "[Z") (List.mem_of_getElem? (i := 2) rfl)) (fun _ h9 => h9) rfl dX8_define_102 ?_
                  refine lv_iload hx hb dX8_define_105 (lv_at hl 2 rfl) ?_
                  refine lv_iconst (v := iI (0)) hx hb dX8_define_107 rfl ?_
                  refine z_zast hx hb hK.1 hP hD hS 1 1 rfl rfl (by omega) (by decide) (by omega) dX8_define_108 (fun H locs hP hD hS => ?_)
                  have hP : va_P D vwCl [(bd 0, .inr (8, [.ref (bd 1), .ref (bd 2), .ref (bd 3), .ref (bd 4), .ref (bd 5), .ref (bd 6), .ref (bd 7), .int (iI (cn)), .ref (bd 8), .int (iI (mp)), .ref (bd 9), .int (iI (ty)), .int (iI (th)), .ref (bd 10), .ref (bd 11), .int (iI (sp)), .int (iI (ta)), .int (iI (ke)), .int (iI (on)), .int (iI (tw))])), (bd 3, .inl (cZ, 8, .inl (iA (uI (uI (Ic) (((2 * t) + k)) (1)) (((2 * t) + k)) (0))))), (bd 4, .inl (cI, 8, .inl (iA (uI (Pm) (((2 * t) + k)) (p))))), (bd 5, .inl (cI, 8, .inl (iA (Am)))), (bd 6, .inl (cZ, 8, .inl (iA (Dm)))), (bd 1, .inl (cZ, 80, .inl (iA (Ir)))), (bd 2, .inl (cI, 160, .inl (iA (Vm))))] H := hP
                  have hD : va_D AA [(bd 0, .inr (8, [.ref (bd 1), .ref (bd 2), .ref (bd 3), .ref (bd 4), .ref (bd 5), .ref (bd 6), .ref (bd 7), .int (iI (cn)), .ref (bd 8), .int (iI (mp)), .ref (bd 9), .int (iI (ty)), .int (iI (th)), .ref (bd 10), .ref (bd 11), .int (iI (sp)), .int (iI (ta)), .int (iI (ke)), .int (iI (on)), .int (iI (tw))])), (bd 3, .inl (cZ, 8, .inl (iA (uI (uI (Ic) (((2 * t) + k)) (1)) (((2 * t) + k)) (0))))), (bd 4, .inl (cI, 8, .inl (iA (uI (Pm) (((2 * t) + k)) (p))))), (bd 5, .inl (cI, 8, .inl (iA (Am)))), (bd 6, .inl (cZ, 8, .inl (iA (Dm)))), (bd 1, .inl (cZ, 80, .inl (iA (Ir)))), (bd 2, .inl (cI, 160, .inl (iA (Vm))))] := hD
                  refine lv_aload_n hx hb dX8_define_109 rfl (lv_at hl 3 rfl) ?_
                  refine lv_iload hx hb dX8_define_110 (lv_at hl 1 rfl) ?_
                  refine lv_iload hx hb dX8_define_112 (lv_at hl 7 rfl) ?_
                  refine lv_iconst (v := iI (0)) hx hb dX8_define_114 rfl ?_
                  refine lv_iconst (v := iI (3)) hx hb dX8_define_115 rfl ?_
                  refine z_roS (As := [.int (iI (a)), .int (iI (0)), .int (iI (3))]) (rest := [.int (iI (1)), .ref (bd 0)]) ⟨hx, hb, hml, hown, hts⟩ (c_X8_in l D cI cZ cC (a) (0) (3) (by first | assumption | omega) (by first | assumption | omega) (by first | assumption | omega)) (va_cwS 3 hts gX8_define_X8_in rfl rfl rfl (by decide +kernel) ⟨Nat.le_of_ble_eq_true rfl, Nat.le_of_ble_eq_true rfl⟩) hP hK [] rfl rfl hl.1 rfl (Nat.le_of_ble_eq_true rfl) dX8_define_116 ⟨by omega, by omega⟩ ?_
                  refine lv_iload hx hb dX8_define_119 (lv_at hl 0 rfl) ?_
                  by_cases c_54 : (0 ≤ a ∧ a ≤ 3)
                  · rw [bI_t c_54]
                    refine z_muV (As := [.int (iI (1)), .int (iI (1)), .int (iI (0))]) (rest := []) (wr := [(bd 3, .inl (cZ, 8, .inl (iA (uI (uI (Ic) (((2 * t) + k)) (1)) (((2 * t) + k)) (0))))), (bd 4, .inl (cI, 8, .inl (iA (uI (Pm) (((2 * t) + k)) (p))))), (bd 5, .inl (cI, 8, .inl (iA (Am)))), (bd 6, .inl (cZ, 8, .inl (iA (Dm)))), (bd 1, .inl (cZ, 80, .inl (iA (Ir)))), (bd 2, .inl (cI, 160, .inl (iA (Vm))))]) (ws2 := (fun (u : Unit) => [(bd 0, .inr (8, [.ref (bd 1), .ref (bd 2), .ref (bd 3), .ref (bd 4), .ref (bd 5), .ref (bd 6), .ref (bd 7), .int (iI (cn)), .ref (bd 8), .int (iI (mp)), .ref (bd 9), .int (iI (ty)), .int (iI (gkI 1 1 0)), .ref (bd 10), .ref (bd 11), .int (iI (sp)), .int (iI (ta)), .int (iI (ke)), .int (iI (on)), .int (iI (tw))])), (bd 3, .inl (cZ, 8, .inl (iA (uI (uI (Ic) (((2 * t) + k)) (1)) (((2 * t) + k)) (0))))), (bd 4, .inl (cI, 8, .inl (iA (uI (Pm) (((2 * t) + k)) (p))))), (bd 5, .inl (cI, 8, .inl (iA (Am)))), (bd 6, .inl (cZ, 8, .inl (iA (Dm)))), (bd 1, .inl (cZ, 80, .inl (iA (Ir)))), (bd 2, .inl (cI, 160, .inl (iA (Vm))))])) ⟨hx, hb, hml, hown, hts⟩ (c_X8_goes l D cI cZ cC H.size (bd) (cn) (mp) (ty) (th) (sp) (ta) (ke) (on) (tw) (1) (1) (0) (by first | assumption | omega) (by first | assumption | omega) (by first | assumption | omega)) (cwV 3 hts gX8_define_X8_goes rfl rfl rfl (by decide +kernel) ⟨Nat.le_of_ble_eq_true rfl, Nat.le_of_ble_eq_true rfl⟩) hP hD hS hA hK [0] [1, 2, 3, 4, 5, 6] [6, 0, 1, 2, 3, 4, 5] rfl (by decide) rfl (by decide) (by decide) (by decide) (fun _ => rfl) 0 8 rfl rfl rfl rfl hl.1 rfl (Nat.le_of_ble_eq_true rfl) dX8_define_121 ⟨by omega, by omega⟩ (fun r_56 u H locs hq_55 hP hD hS => ?_)
                    have hP : va_P D vwCl [(bd 0, .inr (8, [.ref (bd 1), .ref (bd 2), .ref (bd 3), .ref (bd 4), .ref (bd 5), .ref (bd 6), .ref (bd 7), .int (iI (cn)), .ref (bd 8), .int (iI (mp)), .ref (bd 9), .int (iI (ty)), .int (iI (gkI 1 1 0)), .ref (bd 10), .ref (bd 11), .int (iI (sp)), .int (iI (ta)), .int (iI (ke)), .int (iI (on)), .int (iI (tw))])), (bd 3, .inl (cZ, 8, .inl (iA (uI (uI (Ic) (((2 * t) + k)) (1)) (((2 * t) + k)) (0))))), (bd 4, .inl (cI, 8, .inl (iA (uI (Pm) (((2 * t) + k)) (p))))), (bd 5, .inl (cI, 8, .inl (iA (Am)))), (bd 6, .inl (cZ, 8, .inl (iA (Dm)))), (bd 1, .inl (cZ, 80, .inl (iA (Ir)))), (bd 2, .inl (cI, 160, .inl (iA (Vm))))] H := hP
                    have hD : va_D AA [(bd 0, .inr (8, [.ref (bd 1), .ref (bd 2), .ref (bd 3), .ref (bd 4), .ref (bd 5), .ref (bd 6), .ref (bd 7), .int (iI (cn)), .ref (bd 8), .int (iI (mp)), .ref (bd 9), .int (iI (ty)), .int (iI (gkI 1 1 0)), .ref (bd 10), .ref (bd 11), .int (iI (sp)), .int (iI (ta)), .int (iI (ke)), .int (iI (on)), .int (iI (tw))])), (bd 3, .inl (cZ, 8, .inl (iA (uI (uI (Ic) (((2 * t) + k)) (1)) (((2 * t) + k)) (0))))), (bd 4, .inl (cI, 8, .inl (iA (uI (Pm) (((2 * t) + k)) (p))))), (bd 5, .inl (cI, 8, .inl (iA (Am)))), (bd 6, .inl (cZ, 8, .inl (iA (Dm)))), (bd 1, .inl (cZ, 80, .inl (iA (Ir)))), (bd 2, .inl (cI, 160, .inl (iA (Vm))))] := hD
                    try dsimp only at hq_55
                    obtain ⟨hv9, hq_55⟩ := hq_55
                    have hv9 := hv9.symm
                    subst hv9
                    have hth : gkI (1) (1) (0) = 3 := rfl
                    rw [hth] at hP hD
                    have hP : va_P D vwCl [(bd 0, .inr (8, [.ref (bd 1), .ref (bd 2), .ref (bd 3), .ref (bd 4), .ref (bd 5), .ref (bd 6), .ref (bd 7), .int (iI (cn)), .ref (bd 8), .int (iI (mp)), .ref (bd 9), .int (iI (ty)), .int (iI (3)), .ref (bd 10), .ref (bd 11), .int (iI (sp)), .int (iI (ta)), .int (iI (ke)), .int (iI (on)), .int (iI (tw))])), (bd 3, .inl (cZ, 8, .inl (iA (uI (uI (Ic) (((2 * t) + k)) (1)) (((2 * t) + k)) (0))))), (bd 4, .inl (cI, 8, .inl (iA (uI (Pm) (((2 * t) + k)) (p))))), (bd 5, .inl (cI, 8, .inl (iA (Am)))), (bd 6, .inl (cZ, 8, .inl (iA (Dm)))), (bd 1, .inl (cZ, 80, .inl (iA (Ir)))), (bd 2, .inl (cI, 160, .inl (iA (Vm))))] H := hP
                    have hD : va_D AA [(bd 0, .inr (8, [.ref (bd 1), .ref (bd 2), .ref (bd 3), .ref (bd 4), .ref (bd 5), .ref (bd 6), .ref (bd 7), .int (iI (cn)), .ref (bd 8), .int (iI (mp)), .ref (bd 9), .int (iI (ty)), .int (iI (3)), .ref (bd 10), .ref (bd 11), .int (iI (sp)), .int (iI (ta)), .int (iI (ke)), .int (iI (on)), .int (iI (tw))])), (bd 3, .inl (cZ, 8, .inl (iA (uI (uI (Ic) (((2 * t) + k)) (1)) (((2 * t) + k)) (0))))), (bd 4, .inl (cI, 8, .inl (iA (uI (Pm) (((2 * t) + k)) (p))))), (bd 5, .inl (cI, 8, .inl (iA (Am)))), (bd 6, .inl (cZ, 8, .inl (iA (Dm)))), (bd 1, .inl (cZ, 80, .inl (iA (Ir)))), (bd 2, .inl (cI, 160, .inl (iA (Vm))))] := hD
                    rw [show bI (gkI (1) (1) (0) = 0) = 0 from bI_f (by rw [hth]; decide)]
                    refine z_if_ne (tgt := 129) hx hb dX8_define_124 (by decide) ⟨by omega, by omega⟩ (fun c_57 => ?_) (fun c_57 => ?_)
                    · exfalso
                      omega
                    · refine lv_iconst (v := iI (0)) hx hb dX8_define_127 rfl ?_
                      refine z_mret ((uI (uI (Ic) (((2 * t) + k)) (1)) (((2 * t) + k)) (0), uI (Pm) (((2 * t) + k)) (p), Am, Dm, 3)) hx hb hr hlocks dX8_define_128 hP hD hS ?_
                      rw [e20]
                      have h_k9 := fun q => h_kk q
                      refine ⟨by symm; first | (rw [goK_1 (by omega)]; done) | (rw [goK_2 (by omega) (by omega)]; done) | (rw [goK_3 (by omega) (by omega) (by first | omega | (have := h_kk (by omega); omega))]; done), ⟨by omega, by omega⟩, fun h => absurd h (by show ¬ (3 : Int) = 0; decide), fun _ => (rC_undef (f := 1) g_C (by omega) (by have := h_kk (by omega); unfold inP at this; rw [if_pos (by omega)] at this; omega) (fun j _ => ⟨rfl, rfl, rfl⟩))⟩
                  · rw [bI_f c_54]
                    refine z_muV (As := [.int (iI (1)), .int (iI (0)), .int (iI (0))]) (rest := []) (wr := [(bd 3, .inl (cZ, 8, .inl (iA (uI (uI (Ic) (((2 * t) + k)) (1)) (((2 * t) + k)) (0))))), (bd 4, .inl (cI, 8, .inl (iA (uI (Pm) (((2 * t) + k)) (p))))), (bd 5, .inl (cI, 8, .inl (iA (Am)))), (bd 6, .inl (cZ, 8, .inl (iA (Dm)))), (bd 1, .inl (cZ, 80, .inl (iA (Ir)))), (bd 2, .inl (cI, 160, .inl (iA (Vm))))]) (ws2 := (fun (u : Unit) => [(bd 0, .inr (8, [.ref (bd 1), .ref (bd 2), .ref (bd 3), .ref (bd 4), .ref (bd 5), .ref (bd 6), .ref (bd 7), .int (iI (cn)), .ref (bd 8), .int (iI (mp)), .ref (bd 9), .int (iI (ty)), .int (iI (gkI 1 0 0)), .ref (bd 10), .ref (bd 11), .int (iI (sp)), .int (iI (ta)), .int (iI (ke)), .int (iI (on)), .int (iI (tw))])), (bd 3, .inl (cZ, 8, .inl (iA (uI (uI (Ic) (((2 * t) + k)) (1)) (((2 * t) + k)) (0))))), (bd 4, .inl (cI, 8, .inl (iA (uI (Pm) (((2 * t) + k)) (p))))), (bd 5, .inl (cI, 8, .inl (iA (Am)))), (bd 6, .inl (cZ, 8, .inl (iA (Dm)))), (bd 1, .inl (cZ, 80, .inl (iA (Ir)))), (bd 2, .inl (cI, 160, .inl (iA (Vm))))])) ⟨hx, hb, hml, hown, hts⟩ (c_X8_goes l D cI cZ cC H.size (bd) (cn) (mp) (ty) (th) (sp) (ta) (ke) (on) (tw) (1) (0) (0) (by first | assumption | omega) (by first | assumption | omega) (by first | assumption | omega)) (cwV 3 hts gX8_define_X8_goes rfl rfl rfl (by decide +kernel) ⟨Nat.le_of_ble_eq_true rfl, Nat.le_of_ble_eq_true rfl⟩) hP hD hS hA hK [0] [1, 2, 3, 4, 5, 6] [6, 0, 1, 2, 3, 4, 5] rfl (by decide) rfl (by decide) (by decide) (by decide) (fun _ => rfl) 0 8 rfl rfl rfl rfl hl.1 rfl (Nat.le_of_ble_eq_true rfl) dX8_define_121 ⟨by omega, by omega⟩ (fun r_59 u H locs hq_58 hP hD hS => ?_)
                    have hP : va_P D vwCl [(bd 0, .inr (8, [.ref (bd 1), .ref (bd 2), .ref (bd 3), .ref (bd 4), .ref (bd 5), .ref (bd 6), .ref (bd 7), .int (iI (cn)), .ref (bd 8), .int (iI (mp)), .ref (bd 9), .int (iI (ty)), .int (iI (gkI 1 0 0)), .ref (bd 10), .ref (bd 11), .int (iI (sp)), .int (iI (ta)), .int (iI (ke)), .int (iI (on)), .int (iI (tw))])), (bd 3, .inl (cZ, 8, .inl (iA (uI (uI (Ic) (((2 * t) + k)) (1)) (((2 * t) + k)) (0))))), (bd 4, .inl (cI, 8, .inl (iA (uI (Pm) (((2 * t) + k)) (p))))), (bd 5, .inl (cI, 8, .inl (iA (Am)))), (bd 6, .inl (cZ, 8, .inl (iA (Dm)))), (bd 1, .inl (cZ, 80, .inl (iA (Ir)))), (bd 2, .inl (cI, 160, .inl (iA (Vm))))] H := hP
                    have hD : va_D AA [(bd 0, .inr (8, [.ref (bd 1), .ref (bd 2), .ref (bd 3), .ref (bd 4), .ref (bd 5), .ref (bd 6), .ref (bd 7), .int (iI (cn)), .ref (bd 8), .int (iI (mp)), .ref (bd 9), .int (iI (ty)), .int (iI (gkI 1 0 0)), .ref (bd 10), .ref (bd 11), .int (iI (sp)), .int (iI (ta)), .int (iI (ke)), .int (iI (on)), .int (iI (tw))])), (bd 3, .inl (cZ, 8, .inl (iA (uI (uI (Ic) (((2 * t) + k)) (1)) (((2 * t) + k)) (0))))), (bd 4, .inl (cI, 8, .inl (iA (uI (Pm) (((2 * t) + k)) (p))))), (bd 5, .inl (cI, 8, .inl (iA (Am)))), (bd 6, .inl (cZ, 8, .inl (iA (Dm)))), (bd 1, .inl (cZ, 80, .inl (iA (Ir)))), (bd 2, .inl (cI, 160, .inl (iA (Vm))))] := hD
                    try dsimp only at hq_58
                    obtain ⟨hv9, hq_58⟩ := hq_58
                    have hv9 := hv9.symm
                    subst hv9
                    have hth : gkI (1) (0) (0) = 2 := rfl
                    rw [hth] at hP hD
                    have hP : va_P D vwCl [(bd 0, .inr (8, [.ref (bd 1), .ref (bd 2), .ref (bd 3), .ref (bd 4), .ref (bd 5), .ref (bd 6), .ref (bd 7), .int (iI (cn)), .ref (bd 8), .int (iI (mp)), .ref (bd 9), .int (iI (ty)), .int (iI (2)), .ref (bd 10), .ref (bd 11), .int (iI (sp)), .int (iI (ta)), .int (iI (ke)), .int (iI (on)), .int (iI (tw))])), (bd 3, .inl (cZ, 8, .inl (iA (uI (uI (Ic) (((2 * t) + k)) (1)) (((2 * t) + k)) (0))))), (bd 4, .inl (cI, 8, .inl (iA (uI (Pm) (((2 * t) + k)) (p))))), (bd 5, .inl (cI, 8, .inl (iA (Am)))), (bd 6, .inl (cZ, 8, .inl (iA (Dm)))), (bd 1, .inl (cZ, 80, .inl (iA (Ir)))), (bd 2, .inl (cI, 160, .inl (iA (Vm))))] H := hP
                    have hD : va_D AA [(bd 0, .inr (8, [.ref (bd 1), .ref (bd 2), .ref (bd 3), .ref (bd 4), .ref (bd 5), .ref (bd 6), .ref (bd 7), .int (iI (cn)), .ref (bd 8), .int (iI (mp)), .ref (bd 9), .int (iI (ty)), .int (iI (2)), .ref (bd 10), .ref (bd 11), .int (iI (sp)), .int (iI (ta)), .int (iI (ke)), .int (iI (on)), .int (iI (tw))])), (bd 3, .inl (cZ, 8, .inl (iA (uI (uI (Ic) (((2 * t) + k)) (1)) (((2 * t) + k)) (0))))), (bd 4, .inl (cI, 8, .inl (iA (uI (Pm) (((2 * t) + k)) (p))))), (bd 5, .inl (cI, 8, .inl (iA (Am)))), (bd 6, .inl (cZ, 8, .inl (iA (Dm)))), (bd 1, .inl (cZ, 80, .inl (iA (Ir)))), (bd 2, .inl (cI, 160, .inl (iA (Vm))))] := hD
                    rw [show bI (gkI (1) (0) (0) = 0) = 0 from bI_f (by rw [hth]; decide)]
                    refine z_if_ne (tgt := 129) hx hb dX8_define_124 (by decide) ⟨by omega, by omega⟩ (fun c_60 => ?_) (fun c_60 => ?_)
                    · exfalso
                      omega
                    · refine lv_iconst (v := iI (0)) hx hb dX8_define_127 rfl ?_
                      refine z_mret ((uI (uI (Ic) (((2 * t) + k)) (1)) (((2 * t) + k)) (0), uI (Pm) (((2 * t) + k)) (p), Am, Dm, 2)) hx hb hr hlocks dX8_define_128 hP hD hS ?_
                      rw [e20]
                      have h_k9 := fun q => h_kk q
                      refine ⟨by symm; first | (rw [goK_1 (by omega)]; done) | (rw [goK_2 (by omega) (by omega)]; done) | (rw [goK_3 (by omega) (by omega) (by first | omega | (have := h_kk (by omega); omega))]; done), ⟨by omega, by omega⟩, fun h => absurd h (by show ¬ (2 : Int) = 0; decide), fun _ => (rC_undef (f := 1) g_C (by omega) (by have := h_kk (by omega); unfold inP at this; rw [if_pos (by omega)] at this; omega) (fun j _ => ⟨rfl, rfl, rfl⟩))⟩
                · refine lv_iconst (v := iI (1)) hx hb dX8_define_94 rfl ?_
                  refine lv_goto (tgt := 99) hx hb dX8_define_95 (by decide) ?_
                  refine lv_istore (lv' := [(8, .int (iI (1))), (7, .int (iI (1))), (6, .int (iI (((2 * t) + k)))), (0, .ref (bd 0)), (1, .int (iI (t))), (2, .int (iI (k))), (3, .int (iI (p))), (4, .int (iI (a))), (5, .int (iI (d)))]) hx hb dX8_define_99 hl (by decide) rfl (fun ls hl => ?_)
                  refine lv_aload_n hx hb dX8_define_101 rfl (lv_at hl 3 rfl) ?_
                  refine va_get (D := D) (ci := 8) (v := .ref (bd 3)) (C := RX8) (T := TX8) (N := 20) hx hb hts (fun _ h => List.mem_cons_of_mem _ (List.mem_append_right _ (h))) hown hK.1 hP 0 rfl rfl 2 (by decide) (hts (.fieldLink RX8 17 "ForeignKeyStoreModel" "isConstraint" "[Z") (List.mem_of_getElem? (i := 2) rfl)) (fun _ h9 => h9) rfl dX8_define_102 ?_
                  refine lv_iload hx hb dX8_define_105 (lv_at hl 2 rfl) ?_
                  refine lv_iconst (v := iI (0)) hx hb dX8_define_107 rfl ?_
                  refine z_zast hx hb hK.1 hP hD hS 1 1 rfl rfl (by omega) (by decide) (by omega) dX8_define_108 (fun H locs hP hD hS => ?_)
                  have hP : va_P D vwCl [(bd 0, .inr (8, [.ref (bd 1), .ref (bd 2), .ref (bd 3), .ref (bd 4), .ref (bd 5), .ref (bd 6), .ref (bd 7), .int (iI (cn)), .ref (bd 8), .int (iI (mp)), .ref (bd 9), .int (iI (ty)), .int (iI (th)), .ref (bd 10), .ref (bd 11), .int (iI (sp)), .int (iI (ta)), .int (iI (ke)), .int (iI (on)), .int (iI (tw))])), (bd 3, .inl (cZ, 8, .inl (iA (uI (uI (Ic) (((2 * t) + k)) (1)) (((2 * t) + k)) (0))))), (bd 4, .inl (cI, 8, .inl (iA (uI (Pm) (((2 * t) + k)) (p))))), (bd 5, .inl (cI, 8, .inl (iA (Am)))), (bd 6, .inl (cZ, 8, .inl (iA (Dm)))), (bd 1, .inl (cZ, 80, .inl (iA (Ir)))), (bd 2, .inl (cI, 160, .inl (iA (Vm))))] H := hP
                  have hD : va_D AA [(bd 0, .inr (8, [.ref (bd 1), .ref (bd 2), .ref (bd 3), .ref (bd 4), .ref (bd 5), .ref (bd 6), .ref (bd 7), .int (iI (cn)), .ref (bd 8), .int (iI (mp)), .ref (bd 9), .int (iI (ty)), .int (iI (th)), .ref (bd 10), .ref (bd 11), .int (iI (sp)), .int (iI (ta)), .int (iI (ke)), .int (iI (on)), .int (iI (tw))])), (bd 3, .inl (cZ, 8, .inl (iA (uI (uI (Ic) (((2 * t) + k)) (1)) (((2 * t) + k)) (0))))), (bd 4, .inl (cI, 8, .inl (iA (uI (Pm) (((2 * t) + k)) (p))))), (bd 5, .inl (cI, 8, .inl (iA (Am)))), (bd 6, .inl (cZ, 8, .inl (iA (Dm)))), (bd 1, .inl (cZ, 80, .inl (iA (Ir)))), (bd 2, .inl (cI, 160, .inl (iA (Vm))))] := hD
                  refine lv_aload_n hx hb dX8_define_109 rfl (lv_at hl 3 rfl) ?_
                  refine lv_iload hx hb dX8_define_110 (lv_at hl 1 rfl) ?_
                  refine lv_iload hx hb dX8_define_112 (lv_at hl 7 rfl) ?_
                  refine lv_iconst (v := iI (0)) hx hb dX8_define_114 rfl ?_
                  refine lv_iconst (v := iI (3)) hx hb dX8_define_115 rfl ?_
                  refine z_roS (As := [.int (iI (a)), .int (iI (0)), .int (iI (3))]) (rest := [.int (iI (1)), .ref (bd 0)]) ⟨hx, hb, hml, hown, hts⟩ (c_X8_in l D cI cZ cC (a) (0) (3) (by first | assumption | omega) (by first | assumption | omega) (by first | assumption | omega)) (va_cwS 3 hts gX8_define_X8_in rfl rfl rfl (by decide +kernel) ⟨Nat.le_of_ble_eq_true rfl, Nat.le_of_ble_eq_true rfl⟩) hP hK [] rfl rfl hl.1 rfl (Nat.le_of_ble_eq_true rfl) dX8_define_116 ⟨by omega, by omega⟩ ?_
                  refine lv_iload hx hb dX8_define_119 (lv_at hl 0 rfl) ?_
                  by_cases c_61 : (0 ≤ a ∧ a ≤ 3)
                  · rw [bI_t c_61]
                    refine z_muV (As := [.int (iI (1)), .int (iI (1)), .int (iI (1))]) (rest := []) (wr := [(bd 3, .inl (cZ, 8, .inl (iA (uI (uI (Ic) (((2 * t) + k)) (1)) (((2 * t) + k)) (0))))), (bd 4, .inl (cI, 8, .inl (iA (uI (Pm) (((2 * t) + k)) (p))))), (bd 5, .inl (cI, 8, .inl (iA (Am)))), (bd 6, .inl (cZ, 8, .inl (iA (Dm)))), (bd 1, .inl (cZ, 80, .inl (iA (Ir)))), (bd 2, .inl (cI, 160, .inl (iA (Vm))))]) (ws2 := (fun (u : Unit) => [(bd 0, .inr (8, [.ref (bd 1), .ref (bd 2), .ref (bd 3), .ref (bd 4), .ref (bd 5), .ref (bd 6), .ref (bd 7), .int (iI (cn)), .ref (bd 8), .int (iI (mp)), .ref (bd 9), .int (iI (ty)), .int (iI (gkI 1 1 1)), .ref (bd 10), .ref (bd 11), .int (iI (sp)), .int (iI (ta)), .int (iI (ke)), .int (iI (on)), .int (iI (tw))])), (bd 3, .inl (cZ, 8, .inl (iA (uI (uI (Ic) (((2 * t) + k)) (1)) (((2 * t) + k)) (0))))), (bd 4, .inl (cI, 8, .inl (iA (uI (Pm) (((2 * t) + k)) (p))))), (bd 5, .inl (cI, 8, .inl (iA (Am)))), (bd 6, .inl (cZ, 8, .inl (iA (Dm)))), (bd 1, .inl (cZ, 80, .inl (iA (Ir)))), (bd 2, .inl (cI, 160, .inl (iA (Vm))))])) ⟨hx, hb, hml, hown, hts⟩ (c_X8_goes l D cI cZ cC H.size (bd) (cn) (mp) (ty) (th) (sp) (ta) (ke) (on) (tw) (1) (1) (1) (by first | assumption | omega) (by first | assumption | omega) (by first | assumption | omega)) (cwV 3 hts gX8_define_X8_goes rfl rfl rfl (by decide +kernel) ⟨Nat.le_of_ble_eq_true rfl, Nat.le_of_ble_eq_true rfl⟩) hP hD hS hA hK [0] [1, 2, 3, 4, 5, 6] [6, 0, 1, 2, 3, 4, 5] rfl (by decide) rfl (by decide) (by decide) (by decide) (fun _ => rfl) 0 8 rfl rfl rfl rfl hl.1 rfl (Nat.le_of_ble_eq_true rfl) dX8_define_121 ⟨by omega, by omega⟩ (fun r_63 u H locs hq_62 hP hD hS => ?_)
                    have hP : va_P D vwCl [(bd 0, .inr (8, [.ref (bd 1), .ref (bd 2), .ref (bd 3), .ref (bd 4), .ref (bd 5), .ref (bd 6), .ref (bd 7), .int (iI (cn)), .ref (bd 8), .int (iI (mp)), .ref (bd 9), .int (iI (ty)), .int (iI (gkI 1 1 1)), .ref (bd 10), .ref (bd 11), .int (iI (sp)), .int (iI (ta)), .int (iI (ke)), .int (iI (on)), .int (iI (tw))])), (bd 3, .inl (cZ, 8, .inl (iA (uI (uI (Ic) (((2 * t) + k)) (1)) (((2 * t) + k)) (0))))), (bd 4, .inl (cI, 8, .inl (iA (uI (Pm) (((2 * t) + k)) (p))))), (bd 5, .inl (cI, 8, .inl (iA (Am)))), (bd 6, .inl (cZ, 8, .inl (iA (Dm)))), (bd 1, .inl (cZ, 80, .inl (iA (Ir)))), (bd 2, .inl (cI, 160, .inl (iA (Vm))))] H := hP
                    have hD : va_D AA [(bd 0, .inr (8, [.ref (bd 1), .ref (bd 2), .ref (bd 3), .ref (bd 4), .ref (bd 5), .ref (bd 6), .ref (bd 7), .int (iI (cn)), .ref (bd 8), .int (iI (mp)), .ref (bd 9), .int (iI (ty)), .int (iI (gkI 1 1 1)), .ref (bd 10), .ref (bd 11), .int (iI (sp)), .int (iI (ta)), .int (iI (ke)), .int (iI (on)), .int (iI (tw))])), (bd 3, .inl (cZ, 8, .inl (iA (uI (uI (Ic) (((2 * t) + k)) (1)) (((2 * t) + k)) (0))))), (bd 4, .inl (cI, 8, .inl (iA (uI (Pm) (((2 * t) + k)) (p))))), (bd 5, .inl (cI, 8, .inl (iA (Am)))), (bd 6, .inl (cZ, 8, .inl (iA (Dm)))), (bd 1, .inl (cZ, 80, .inl (iA (Ir)))), (bd 2, .inl (cI, 160, .inl (iA (Vm))))] := hD
                    try dsimp only at hq_62
                    obtain ⟨hv9, hq_62⟩ := hq_62
                    have hv9 := hv9.symm
                    subst hv9
                    have hth : gkI (1) (1) (1) = 0 := rfl
                    rw [hth] at hP hD
                    have hP : va_P D vwCl [(bd 0, .inr (8, [.ref (bd 1), .ref (bd 2), .ref (bd 3), .ref (bd 4), .ref (bd 5), .ref (bd 6), .ref (bd 7), .int (iI (cn)), .ref (bd 8), .int (iI (mp)), .ref (bd 9), .int (iI (ty)), .int (iI (0)), .ref (bd 10), .ref (bd 11), .int (iI (sp)), .int (iI (ta)), .int (iI (ke)), .int (iI (on)), .int (iI (tw))])), (bd 3, .inl (cZ, 8, .inl (iA (uI (uI (Ic) (((2 * t) + k)) (1)) (((2 * t) + k)) (0))))), (bd 4, .inl (cI, 8, .inl (iA (uI (Pm) (((2 * t) + k)) (p))))), (bd 5, .inl (cI, 8, .inl (iA (Am)))), (bd 6, .inl (cZ, 8, .inl (iA (Dm)))), (bd 1, .inl (cZ, 80, .inl (iA (Ir)))), (bd 2, .inl (cI, 160, .inl (iA (Vm))))] H := hP
                    have hD : va_D AA [(bd 0, .inr (8, [.ref (bd 1), .ref (bd 2), .ref (bd 3), .ref (bd 4), .ref (bd 5), .ref (bd 6), .ref (bd 7), .int (iI (cn)), .ref (bd 8), .int (iI (mp)), .ref (bd 9), .int (iI (ty)), .int (iI (0)), .ref (bd 10), .ref (bd 11), .int (iI (sp)), .int (iI (ta)), .int (iI (ke)), .int (iI (on)), .int (iI (tw))])), (bd 3, .inl (cZ, 8, .inl (iA (uI (uI (Ic) (((2 * t) + k)) (1)) (((2 * t) + k)) (0))))), (bd 4, .inl (cI, 8, .inl (iA (uI (Pm) (((2 * t) + k)) (p))))), (bd 5, .inl (cI, 8, .inl (iA (Am)))), (bd 6, .inl (cZ, 8, .inl (iA (Dm)))), (bd 1, .inl (cZ, 80, .inl (iA (Ir)))), (bd 2, .inl (cI, 160, .inl (iA (Vm))))] := hD
                    rw [show bI (gkI (1) (1) (1) = 0) = 1 from bI_t hth]
                    refine z_if_ne (tgt := 129) hx hb dX8_define_124 (by decide) ⟨by omega, by omega⟩ (fun c_64 => ?_) (fun c_64 => ?_)
                    · refine lv_aload_n hx hb dX8_define_129 rfl (lv_at hl 3 rfl) ?_
                      refine va_get (D := D) (ci := 8) (v := .ref (bd 3)) (C := RX8) (T := TX8) (N := 20) hx hb hts (fun _ h => List.mem_cons_of_mem _ (List.mem_append_right _ (h))) hown hK.1 hP 0 rfl rfl 2 (by decide) (hts (.fieldLink RX8 17 "ForeignKeyStoreModel" "isConstraint" "[Z") (List.mem_of_getElem? (i := 2) rfl)) (fun _ h9 => h9) rfl dX8_define_130 ?_
                      refine lv_iload hx hb dX8_define_133 (lv_at hl 2 rfl) ?_
                      refine lv_iconst (v := iI (1)) hx hb dX8_define_135 rfl ?_
                      refine z_zast hx hb hK.1 hP hD hS 1 1 rfl rfl (by omega) (by decide) (by omega) dX8_define_136 (fun H locs hP hD hS => ?_)
                      have hP : va_P D vwCl [(bd 0, .inr (8, [.ref (bd 1), .ref (bd 2), .ref (bd 3), .ref (bd 4), .ref (bd 5), .ref (bd 6), .ref (bd 7), .int (iI (cn)), .ref (bd 8), .int (iI (mp)), .ref (bd 9), .int (iI (ty)), .int (iI (0)), .ref (bd 10), .ref (bd 11), .int (iI (sp)), .int (iI (ta)), .int (iI (ke)), .int (iI (on)), .int (iI (tw))])), (bd 3, .inl (cZ, 8, .inl (iA (uI (uI (uI (Ic) (((2 * t) + k)) (1)) (((2 * t) + k)) (0)) (((2 * t) + k)) (1))))), (bd 4, .inl (cI, 8, .inl (iA (uI (Pm) (((2 * t) + k)) (p))))), (bd 5, .inl (cI, 8, .inl (iA (Am)))), (bd 6, .inl (cZ, 8, .inl (iA (Dm)))), (bd 1, .inl (cZ, 80, .inl (iA (Ir)))), (bd 2, .inl (cI, 160, .inl (iA (Vm))))] H := hP
                      have hD : va_D AA [(bd 0, .inr (8, [.ref (bd 1), .ref (bd 2), .ref (bd 3), .ref (bd 4), .ref (bd 5), .ref (bd 6), .ref (bd 7), .int (iI (cn)), .ref (bd 8), .int (iI (mp)), .ref (bd 9), .int (iI (ty)), .int (iI (0)), .ref (bd 10), .ref (bd 11), .int (iI (sp)), .int (iI (ta)), .int (iI (ke)), .int (iI (on)), .int (iI (tw))])), (bd 3, .inl (cZ, 8, .inl (iA (uI (uI (uI (Ic) (((2 * t) + k)) (1)) (((2 * t) + k)) (0)) (((2 * t) + k)) (1))))), (bd 4, .inl (cI, 8, .inl (iA (uI (Pm) (((2 * t) + k)) (p))))), (bd 5, .inl (cI, 8, .inl (iA (Am)))), (bd 6, .inl (cZ, 8, .inl (iA (Dm)))), (bd 1, .inl (cZ, 80, .inl (iA (Ir)))), (bd 2, .inl (cI, 160, .inl (iA (Vm))))] := hD
                      refine lv_aload_n hx hb dX8_define_137 rfl (lv_at hl 3 rfl) ?_
                      refine va_get (D := D) (ci := 8) (v := .ref (bd 5)) (C := RX8) (T := TX8) (N := 20) hx hb hts (fun _ h => List.mem_cons_of_mem _ (List.mem_append_right _ (h))) hown hK.1 hP 0 rfl rfl 4 (by decide) (hts (.fieldLink RX8 23 "ForeignKeyStoreModel" "actions" "[I") (List.mem_of_getElem? (i := 4) rfl)) (fun _ h9 => h9) rfl dX8_define_138 ?_
                      refine lv_iload hx hb dX8_define_141 (lv_at hl 2 rfl) ?_
                      refine lv_iload hx hb dX8_define_143 (lv_at hl 7 rfl) ?_
                      refine z_iast hx hb hK.1 hP hD hS 3 0 rfl rfl (by omega) (by decide) dX8_define_145 (fun H locs hP hD hS => ?_)
                      have hP : va_P D vwCl [(bd 0, .inr (8, [.ref (bd 1), .ref (bd 2), .ref (bd 3), .ref (bd 4), .ref (bd 5), .ref (bd 6), .ref (bd 7), .int (iI (cn)), .ref (bd 8), .int (iI (mp)), .ref (bd 9), .int (iI (ty)), .int (iI (0)), .ref (bd 10), .ref (bd 11), .int (iI (sp)), .int (iI (ta)), .int (iI (ke)), .int (iI (on)), .int (iI (tw))])), (bd 3, .inl (cZ, 8, .inl (iA (uI (uI (uI (Ic) (((2 * t) + k)) (1)) (((2 * t) + k)) (0)) (((2 * t) + k)) (1))))), (bd 4, .inl (cI, 8, .inl (iA (uI (Pm) (((2 * t) + k)) (p))))), (bd 5, .inl (cI, 8, .inl (iA (uI (Am) (((2 * t) + k)) (a))))), (bd 6, .inl (cZ, 8, .inl (iA (Dm)))), (bd 1, .inl (cZ, 80, .inl (iA (Ir)))), (bd 2, .inl (cI, 160, .inl (iA (Vm))))] H := hP
                      have hD : va_D AA [(bd 0, .inr (8, [.ref (bd 1), .ref (bd 2), .ref (bd 3), .ref (bd 4), .ref (bd 5), .ref (bd 6), .ref (bd 7), .int (iI (cn)), .ref (bd 8), .int (iI (mp)), .ref (bd 9), .int (iI (ty)), .int (iI (0)), .ref (bd 10), .ref (bd 11), .int (iI (sp)), .int (iI (ta)), .int (iI (ke)), .int (iI (on)), .int (iI (tw))])), (bd 3, .inl (cZ, 8, .inl (iA (uI (uI (uI (Ic) (((2 * t) + k)) (1)) (((2 * t) + k)) (0)) (((2 * t) + k)) (1))))), (bd 4, .inl (cI, 8, .inl (iA (uI (Pm) (((2 * t) + k)) (p))))), (bd 5, .inl (cI, 8, .inl (iA (uI (Am) (((2 * t) + k)) (a))))), (bd 6, .inl (cZ, 8, .inl (iA (Dm)))), (bd 1, .inl (cZ, 80, .inl (iA (Ir)))), (bd 2, .inl (cI, 160, .inl (iA (Vm))))] := hD
                      refine lv_aload_n hx hb dX8_define_146 rfl (lv_at hl 3 rfl) ?_
                      refine va_get (D := D) (ci := 8) (v := .ref (bd 6)) (C := RX8) (T := TX8) (N := 20) hx hb hts (fun _ h => List.mem_cons_of_mem _ (List.mem_append_right _ (h))) hown hK.1 hP 0 rfl rfl 5 (by decide) (hts (.fieldLink RX8 26 "ForeignKeyStoreModel" "isDeferred" "[Z") (List.mem_of_getElem? (i := 5) rfl)) (fun _ h9 => h9) rfl dX8_define_147 ?_
                      refine lv_iload hx hb dX8_define_150 (lv_at hl 2 rfl) ?_
                      refine lv_iload hx hb dX8_define_152 (lv_at hl 8 rfl) ?_
                      refine z_zast hx hb hK.1 hP hD hS 4 1 rfl rfl (by omega) (by decide) (by omega) dX8_define_154 (fun H locs hP hD hS => ?_)
                      have hP : va_P D vwCl [(bd 0, .inr (8, [.ref (bd 1), .ref (bd 2), .ref (bd 3), .ref (bd 4), .ref (bd 5), .ref (bd 6), .ref (bd 7), .int (iI (cn)), .ref (bd 8), .int (iI (mp)), .ref (bd 9), .int (iI (ty)), .int (iI (0)), .ref (bd 10), .ref (bd 11), .int (iI (sp)), .int (iI (ta)), .int (iI (ke)), .int (iI (on)), .int (iI (tw))])), (bd 3, .inl (cZ, 8, .inl (iA (uI (uI (uI (Ic) (((2 * t) + k)) (1)) (((2 * t) + k)) (0)) (((2 * t) + k)) (1))))), (bd 4, .inl (cI, 8, .inl (iA (uI (Pm) (((2 * t) + k)) (p))))), (bd 5, .inl (cI, 8, .inl (iA (uI (Am) (((2 * t) + k)) (a))))), (bd 6, .inl (cZ, 8, .inl (iA (uI (Dm) (((2 * t) + k)) (d))))), (bd 1, .inl (cZ, 80, .inl (iA (Ir)))), (bd 2, .inl (cI, 160, .inl (iA (Vm))))] H := hP
                      have hD : va_D AA [(bd 0, .inr (8, [.ref (bd 1), .ref (bd 2), .ref (bd 3), .ref (bd 4), .ref (bd 5), .ref (bd 6), .ref (bd 7), .int (iI (cn)), .ref (bd 8), .int (iI (mp)), .ref (bd 9), .int (iI (ty)), .int (iI (0)), .ref (bd 10), .ref (bd 11), .int (iI (sp)), .int (iI (ta)), .int (iI (ke)), .int (iI (on)), .int (iI (tw))])), (bd 3, .inl (cZ, 8, .inl (iA (uI (uI (uI (Ic) (((2 * t) + k)) (1)) (((2 * t) + k)) (0)) (((2 * t) + k)) (1))))), (bd 4, .inl (cI, 8, .inl (iA (uI (Pm) (((2 * t) + k)) (p))))), (bd 5, .inl (cI, 8, .inl (iA (uI (Am) (((2 * t) + k)) (a))))), (bd 6, .inl (cZ, 8, .inl (iA (uI (Dm) (((2 * t) + k)) (d))))), (bd 1, .inl (cZ, 80, .inl (iA (Ir)))), (bd 2, .inl (cI, 160, .inl (iA (Vm))))] := hD
                      refine lv_aload_n hx hb dX8_define_155 rfl (lv_at hl 3 rfl) ?_
                      have h_fin : rC8 (uI (uI (uI (Ic) (((2 * t) + k)) (1)) (((2 * t) + k)) (0)) (((2 * t) + k)) (1)) (uI (Pm) (((2 * t) + k)) (p)) (uI (Am) (((2 * t) + k)) (a)) (uI (Dm) (((2 * t) + k)) (d)) (uI P (2 * t + k) p) (uI Ac (2 * t + k) a) (uI Mo (2 * t + k) d) := by
                        have h := rC_def (k := 2 * t + k) (p := p) (a := a) (d := d) g_C (by omega) (by omega) g_d
                        intro j h1 h2
                        have h3 := h j h1 h2
                        unfold uI at h3 ⊢
                        split at h3 <;> simp_all
                      refine z_roV (As := []) (rest := []) ⟨hx, hb, hml, hown, hts⟩ (c_X8_manyConstraints l D cI cZ cC (bd) (cn) (mp) (ty) (0) (sp) (ta) (ke) (on) (tw) (uI (uI (uI (Ic) (((2 * t) + k)) (1)) (((2 * t) + k)) (0)) (((2 * t) + k)) (1)) (uI (Pm) (((2 * t) + k)) (p)) (uI (Am) (((2 * t) + k)) (a)) (uI (Dm) (((2 * t) + k)) (d)) (uI P (2 * t + k) p) (uI Ac (2 * t + k) a) (uI Mo (2 * t + k) d) (h_fin)) (cwV 0 hts gX8_define_X8_manyConstraints rfl rfl rfl (by decide +kernel) ⟨Nat.le_of_ble_eq_true rfl, Nat.le_of_ble_eq_true rfl⟩) hP hK [0, 1] rfl 0 8 rfl rfl rfl rfl hl.1 rfl (Nat.le_of_ble_eq_true rfl) dX8_define_156 ⟨by omega, by omega⟩ ?_
                      have hf_65 := sumN_b (fun i => bI_01 (¬ inP ((uI P (2 * t + k) p)) i = -2)) 8
                      refine z_mret ((uI (uI (uI (Ic) (((2 * t) + k)) (1)) (((2 * t) + k)) (0)) (((2 * t) + k)) (1), uI (Pm) (((2 * t) + k)) (p), uI (Am) (((2 * t) + k)) (a), uI (Dm) (((2 * t) + k)) (d), 0)) hx hb hr hlocks dX8_define_159 hP hD hS ?_
                      rw [e20]
                      have h_k9 := h_kk (by omega)
                      refine ⟨by symm; first | (rw [goK_1 (by omega)]; done) | (rw [goK_2 (by omega) (by omega)]; done) | (rw [goK_3 (by omega) (by omega) (by omega)]; done) | (rw [goK_0 (by omega) (by omega) (by omega)]; done) | (rw [goK_0 (by omega) (by omega) trivial]; done), ⟨by omega, by omega⟩, fun _ => ⟨rfl, h_fin⟩, fun h => absurd rfl h⟩
                    · exfalso
                      omega
                  · rw [bI_f c_61]
                    refine z_muV (As := [.int (iI (1)), .int (iI (0)), .int (iI (1))]) (rest := []) (wr := [(bd 3, .inl (cZ, 8, .inl (iA (uI (uI (Ic) (((2 * t) + k)) (1)) (((2 * t) + k)) (0))))), (bd 4, .inl (cI, 8, .inl (iA (uI (Pm) (((2 * t) + k)) (p))))), (bd 5, .inl (cI, 8, .inl (iA (Am)))), (bd 6, .inl (cZ, 8, .inl (iA (Dm)))), (bd 1, .inl (cZ, 80, .inl (iA (Ir)))), (bd 2, .inl (cI, 160, .inl (iA (Vm))))]) (ws2 := (fun (u : Unit) => [(bd 0, .inr (8, [.ref (bd 1), .ref (bd 2), .ref (bd 3), .ref (bd 4), .ref (bd 5), .ref (bd 6), .ref (bd 7), .int (iI (cn)), .ref (bd 8), .int (iI (mp)), .ref (bd 9), .int (iI (ty)), .int (iI (gkI 1 0 1)), .ref (bd 10), .ref (bd 11), .int (iI (sp)), .int (iI (ta)), .int (iI (ke)), .int (iI (on)), .int (iI (tw))])), (bd 3, .inl (cZ, 8, .inl (iA (uI (uI (Ic) (((2 * t) + k)) (1)) (((2 * t) + k)) (0))))), (bd 4, .inl (cI, 8, .inl (iA (uI (Pm) (((2 * t) + k)) (p))))), (bd 5, .inl (cI, 8, .inl (iA (Am)))), (bd 6, .inl (cZ, 8, .inl (iA (Dm)))), (bd 1, .inl (cZ, 80, .inl (iA (Ir)))), (bd 2, .inl (cI, 160, .inl (iA (Vm))))])) ⟨hx, hb, hml, hown, hts⟩ (c_X8_goes l D cI cZ cC H.size (bd) (cn) (mp) (ty) (th) (sp) (ta) (ke) (on) (tw) (1) (0) (1) (by first | assumption | omega) (by first | assumption | omega) (by first | assumption | omega)) (cwV 3 hts gX8_define_X8_goes rfl rfl rfl (by decide +kernel) ⟨Nat.le_of_ble_eq_true rfl, Nat.le_of_ble_eq_true rfl⟩) hP hD hS hA hK [0] [1, 2, 3, 4, 5, 6] [6, 0, 1, 2, 3, 4, 5] rfl (by decide) rfl (by decide) (by decide) (by decide) (fun _ => rfl) 0 8 rfl rfl rfl rfl hl.1 rfl (Nat.le_of_ble_eq_true rfl) dX8_define_121 ⟨by omega, by omega⟩ (fun r_67 u H locs hq_66 hP hD hS => ?_)
                    have hP : va_P D vwCl [(bd 0, .inr (8, [.ref (bd 1), .ref (bd 2), .ref (bd 3), .ref (bd 4), .ref (bd 5), .ref (bd 6), .ref (bd 7), .int (iI (cn)), .ref (bd 8), .int (iI (mp)), .ref (bd 9), .int (iI (ty)), .int (iI (gkI 1 0 1)), .ref (bd 10), .ref (bd 11), .int (iI (sp)), .int (iI (ta)), .int (iI (ke)), .int (iI (on)), .int (iI (tw))])), (bd 3, .inl (cZ, 8, .inl (iA (uI (uI (Ic) (((2 * t) + k)) (1)) (((2 * t) + k)) (0))))), (bd 4, .inl (cI, 8, .inl (iA (uI (Pm) (((2 * t) + k)) (p))))), (bd 5, .inl (cI, 8, .inl (iA (Am)))), (bd 6, .inl (cZ, 8, .inl (iA (Dm)))), (bd 1, .inl (cZ, 80, .inl (iA (Ir)))), (bd 2, .inl (cI, 160, .inl (iA (Vm))))] H := hP
                    have hD : va_D AA [(bd 0, .inr (8, [.ref (bd 1), .ref (bd 2), .ref (bd 3), .ref (bd 4), .ref (bd 5), .ref (bd 6), .ref (bd 7), .int (iI (cn)), .ref (bd 8), .int (iI (mp)), .ref (bd 9), .int (iI (ty)), .int (iI (gkI 1 0 1)), .ref (bd 10), .ref (bd 11), .int (iI (sp)), .int (iI (ta)), .int (iI (ke)), .int (iI (on)), .int (iI (tw))])), (bd 3, .inl (cZ, 8, .inl (iA (uI (uI (Ic) (((2 * t) + k)) (1)) (((2 * t) + k)) (0))))), (bd 4, .inl (cI, 8, .inl (iA (uI (Pm) (((2 * t) + k)) (p))))), (bd 5, .inl (cI, 8, .inl (iA (Am)))), (bd 6, .inl (cZ, 8, .inl (iA (Dm)))), (bd 1, .inl (cZ, 80, .inl (iA (Ir)))), (bd 2, .inl (cI, 160, .inl (iA (Vm))))] := hD
                    try dsimp only at hq_66
                    obtain ⟨hv9, hq_66⟩ := hq_66
                    have hv9 := hv9.symm
                    subst hv9
                    have hth : gkI (1) (0) (1) = 2 := rfl
                    rw [hth] at hP hD
                    have hP : va_P D vwCl [(bd 0, .inr (8, [.ref (bd 1), .ref (bd 2), .ref (bd 3), .ref (bd 4), .ref (bd 5), .ref (bd 6), .ref (bd 7), .int (iI (cn)), .ref (bd 8), .int (iI (mp)), .ref (bd 9), .int (iI (ty)), .int (iI (2)), .ref (bd 10), .ref (bd 11), .int (iI (sp)), .int (iI (ta)), .int (iI (ke)), .int (iI (on)), .int (iI (tw))])), (bd 3, .inl (cZ, 8, .inl (iA (uI (uI (Ic) (((2 * t) + k)) (1)) (((2 * t) + k)) (0))))), (bd 4, .inl (cI, 8, .inl (iA (uI (Pm) (((2 * t) + k)) (p))))), (bd 5, .inl (cI, 8, .inl (iA (Am)))), (bd 6, .inl (cZ, 8, .inl (iA (Dm)))), (bd 1, .inl (cZ, 80, .inl (iA (Ir)))), (bd 2, .inl (cI, 160, .inl (iA (Vm))))] H := hP
                    have hD : va_D AA [(bd 0, .inr (8, [.ref (bd 1), .ref (bd 2), .ref (bd 3), .ref (bd 4), .ref (bd 5), .ref (bd 6), .ref (bd 7), .int (iI (cn)), .ref (bd 8), .int (iI (mp)), .ref (bd 9), .int (iI (ty)), .int (iI (2)), .ref (bd 10), .ref (bd 11), .int (iI (sp)), .int (iI (ta)), .int (iI (ke)), .int (iI (on)), .int (iI (tw))])), (bd 3, .inl (cZ, 8, .inl (iA (uI (uI (Ic) (((2 * t) + k)) (1)) (((2 * t) + k)) (0))))), (bd 4, .inl (cI, 8, .inl (iA (uI (Pm) (((2 * t) + k)) (p))))), (bd 5, .inl (cI, 8, .inl (iA (Am)))), (bd 6, .inl (cZ, 8, .inl (iA (Dm)))), (bd 1, .inl (cZ, 80, .inl (iA (Ir)))), (bd 2, .inl (cI, 160, .inl (iA (Vm))))] := hD
                    rw [show bI (gkI (1) (0) (1) = 0) = 0 from bI_f (by rw [hth]; decide)]
                    refine z_if_ne (tgt := 129) hx hb dX8_define_124 (by decide) ⟨by omega, by omega⟩ (fun c_68 => ?_) (fun c_68 => ?_)
                    · exfalso
                      omega
                    · refine lv_iconst (v := iI (0)) hx hb dX8_define_127 rfl ?_
                      refine z_mret ((uI (uI (Ic) (((2 * t) + k)) (1)) (((2 * t) + k)) (0), uI (Pm) (((2 * t) + k)) (p), Am, Dm, 2)) hx hb hr hlocks dX8_define_128 hP hD hS ?_
                      rw [e20]
                      have h_k9 := fun q => h_kk q
                      refine ⟨by symm; first | (rw [goK_1 (by omega)]; done) | (rw [goK_2 (by omega) (by omega)]; done) | (rw [goK_3 (by omega) (by omega) (by first | omega | (have := h_kk (by omega); omega))]; done), ⟨by omega, by omega⟩, fun h => absurd h (by show ¬ (2 : Int) = 0; decide), fun _ => (rC_undef (f := 1) g_C (by omega) (by have := h_kk (by omega); unfold inP at this; rw [if_pos (by omega)] at this; omega) (fun j _ => ⟨rfl, rfl, rfl⟩))⟩

set_option maxHeartbeats 600000 in
set_option maxRecDepth 100000 in
theorem c_X8_drop (l : Launch) (D : va_G) (cI cZ cC : ClassId) (sz : Nat) (bd : Nat → Nat) (cn mp ty th sp ta ke on tw : Int) (Ic Pm Am Dm P Ac Mo : Int → Int) (t k : Int) (g_C : rC8 Ic Pm Am Dm P Ac Mo) (g_cn : 0 ≤ cn ∧ cn < 2147483648) (g_t : ib t) (g_k : ib k) : zMi l yX8_drop wsX8_drop ({ frames := 3, cells := 0, slots := 0, locals := 64 }) D cI cZ cC [(bd 0, .inr (8, [.ref (bd 1), .ref (bd 2), .ref (bd 3), .ref (bd 4), .ref (bd 5), .ref (bd 6), .ref (bd 7), .int (iI (cn)), .ref (bd 8), .int (iI (mp)), .ref (bd 9), .int (iI (ty)), .int (iI (th)), .ref (bd 10), .ref (bd 11), .int (iI (sp)), .int (iI (ta)), .int (iI (ke)), .int (iI (on)), .int (iI (tw))])), (bd 3, .inl (cZ, 8, .inl (iA (Ic))))] sz [.ref (bd 0), .int (iI (t)), .int (iI (k))] (0) (0) (fun (u : (Int → Int) × Int) => [(bd 0, .inr (8, [.ref (bd 1), .ref (bd 2), .ref (bd 3), .ref (bd 4), .ref (bd 5), .ref (bd 6), .ref (bd 7), .int (iI (cn)), .ref (bd 8), .int (iI (mp)), .ref (bd 9), .int (iI (ty)), .int (iI (u.2)), .ref (bd 10), .ref (bd 11), .int (iI (sp)), .int (iI (ta)), .int (iI (ke)), .int (iI (on)), .int (iI (tw))])), (bd 3, .inl (cZ, 8, .inl (iA (u.1))))]) (fun v (u : (Int → Int) × Int) => u.2 = goK (0 ≤ t ∧ t < 4 ∧ 0 ≤ k ∧ k < 2) (cn = 0 ∧ ¬ inP P (t * 2 + k) = -2) (True) ∧ ib v ∧ (u.2 = 0 → v = sumN (fun i => bI (¬ inP (uI P (t * 2 + k) (-2)) i = -2)) 8 ∧ rC8 u.1 Pm Am Dm (uI P (t * 2 + k) (-2)) (uI Ac (t * 2 + k) 1) (uI Mo (t * 2 + k) 0)) ∧ (¬ u.2 = 0 → u.1 = Ic)) := by
  refine z_ofMi (cc := cX8_drop) (maxL := 3) (ret := (some .int)) RX8 (by decide +kernel) rfl rfl (Nat.le_of_ble_eq_true rfl) ?_
  intro p0 en0 s0 m0 args0 below0 meth0 c0 ls AA hx hb hr hlocks hml hown hts hP hD hS hA hK hl
  have hl : lv_has ls 3 [(0, .ref (bd 0)), (1, .int (iI (t))), (2, .int (iI (k)))] := hl
  obtain ⟨H, hH⟩ : ∃ H, H = s0.heap := ⟨_, rfl⟩
  obtain ⟨locs, hlo⟩ : ∃ locs : List Loc, locs = [] := ⟨_, rfl⟩
  have hP : va_P D vwCl [(bd 0, .inr (8, [.ref (bd 1), .ref (bd 2), .ref (bd 3), .ref (bd 4), .ref (bd 5), .ref (bd 6), .ref (bd 7), .int (iI (cn)), .ref (bd 8), .int (iI (mp)), .ref (bd 9), .int (iI (ty)), .int (iI (th)), .ref (bd 10), .ref (bd 11), .int (iI (sp)), .int (iI (ta)), .int (iI (ke)), .int (iI (on)), .int (iI (tw))])), (bd 3, .inl (cZ, 8, .inl (iA (Ic))))] H := by rw [hH]; exact hP
  have hS : va_S AA s0.heap H locs := by rw [hH, hlo]; exact hS
  suffices hW : W p0 l en0 (headSpec wsX8_drop ({ frames := 3, cells := 0, slots := 0, locals := 64 })).room s0 m0 args0 below0 meth0 c0 H locs 0 0 (QMi below0 D ((fun (u : (Int → Int) × Int) => [(bd 0, .inr (8, [.ref (bd 1), .ref (bd 2), .ref (bd 3), .ref (bd 4), .ref (bd 5), .ref (bd 6), .ref (bd 7), .int (iI (cn)), .ref (bd 8), .int (iI (mp)), .ref (bd 9), .int (iI (ty)), .int (iI (u.2)), .ref (bd 10), .ref (bd 11), .int (iI (sp)), .int (iI (ta)), .int (iI (ke)), .int (iI (on)), .int (iI (tw))])), (bd 3, .inl (cZ, 8, .inl (iA (u.1))))])) (fun v (u : (Int → Int) × Int) => u.2 = goK (0 ≤ t ∧ t < 4 ∧ 0 ≤ k ∧ k < 2) (cn = 0 ∧ ¬ inP P (t * 2 + k) = -2) (True) ∧ ib v ∧ (u.2 = 0 → v = sumN (fun i => bI (¬ inP (uI P (t * 2 + k) (-2)) i = -2)) 8 ∧ rC8 u.1 Pm Am Dm (uI P (t * 2 + k) (-2)) (uI Ac (t * 2 + k) 1) (uI Mo (t * 2 + k) 0)) ∧ (¬ u.2 = 0 → u.1 = Ic)) AA args0 s0 (0) (0)) (F0 m0 0 ls []) by rw [hH, hlo] at hW; exact hW
  have e20 : t * 2 + k = 2 * t + k := by omega
  have h_kk := fun q : 0 ≤ t ∧ t < 4 ∧ 0 ≤ k ∧ k < 2 => rC_k g_C (k := 2 * t + k) (by omega)
  have g_Ic := rC_i g_C
  have g_Pm := rC_p g_C
  have g_Am := rC_a g_C
  have g_Dm := rC_d g_C
  refine lv_aload_n hx hb dX8_drop_0 rfl (lv_at hl 0 rfl) ?_
  refine lv_iload_n hx hb dX8_drop_1 rfl (lv_at hl 1 rfl) ?_
  refine z_roS (As := [.int (iI (t))]) (rest := [.ref (bd 0)]) ⟨hx, hb, hml, hown, hts⟩ (c_X8_isTable l D cI cZ cC (t) (by first | assumption | omega)) (va_cwS 1 hts gX8_drop_X8_isTable rfl rfl rfl (by decide +kernel) ⟨Nat.le_of_ble_eq_true rfl, Nat.le_of_ble_eq_true rfl⟩) hP hK [] rfl rfl hl.1 rfl (Nat.le_of_ble_eq_true rfl) dX8_drop_2 ⟨by omega, by omega⟩ ?_
  refine z_b_eq (tgt := 19) hx hb dX8_drop_5 (by decide) (fun c_1 => ?_) (fun c_1 => ?_)
  · refine lv_iconst (v := iI (0)) hx hb dX8_drop_19 rfl ?_
    refine lv_aload_n hx hb dX8_drop_20 rfl (lv_at hl 0 rfl) ?_
    refine va_get (D := D) (ci := 8) (v := .int (iI (cn))) (C := RX8) (T := TX8) (N := 20) hx hb hts (fun _ h => List.mem_cons_of_mem _ (List.mem_append_right _ (h))) hown hK.1 hP 0 rfl rfl 7 (by decide) (hts (.fieldLink RX8 67 "ForeignKeyStoreModel" "changes" "I") (List.mem_of_getElem? (i := 1) rfl)) (fun _ h9 => h9) rfl dX8_drop_21 ?_
    refine z_if_ne (tgt := 40) hx hb dX8_drop_24 (by decide) ⟨by omega, by omega⟩ (fun c_2 => ?_) (fun c_2 => ?_)
    · refine lv_iconst (v := iI (0)) hx hb dX8_drop_40 rfl ?_
      refine lv_iconst (v := iI (1)) hx hb dX8_drop_41 rfl ?_
      refine z_muV (As := [.int (iI (0)), .int (iI (0)), .int (iI (1))]) (rest := []) (wr := [(bd 3, .inl (cZ, 8, .inl (iA (Ic))))]) (ws2 := (fun (u : Unit) => [(bd 0, .inr (8, [.ref (bd 1), .ref (bd 2), .ref (bd 3), .ref (bd 4), .ref (bd 5), .ref (bd 6), .ref (bd 7), .int (iI (cn)), .ref (bd 8), .int (iI (mp)), .ref (bd 9), .int (iI (ty)), .int (iI (gkI 0 0 1)), .ref (bd 10), .ref (bd 11), .int (iI (sp)), .int (iI (ta)), .int (iI (ke)), .int (iI (on)), .int (iI (tw))])), (bd 3, .inl (cZ, 8, .inl (iA (Ic))))])) ⟨hx, hb, hml, hown, hts⟩ (c_X8_goes l D cI cZ cC H.size (bd) (cn) (mp) (ty) (th) (sp) (ta) (ke) (on) (tw) (0) (0) (1) (by first | assumption | omega) (by first | assumption | omega) (by first | assumption | omega)) (cwV 3 hts gX8_drop_X8_goes rfl rfl rfl (by decide +kernel) ⟨Nat.le_of_ble_eq_true rfl, Nat.le_of_ble_eq_true rfl⟩) hP hD hS hA hK [0] [1] [1, 0] rfl (by decide) rfl (by decide) (by decide) (by decide) (fun _ => rfl) 0 8 rfl rfl rfl rfl hl.1 rfl (Nat.le_of_ble_eq_true rfl) dX8_drop_42 ⟨by omega, by omega⟩ (fun r_4 u H locs hq_3 hP hD hS => ?_)
      have hP : va_P D vwCl [(bd 0, .inr (8, [.ref (bd 1), .ref (bd 2), .ref (bd 3), .ref (bd 4), .ref (bd 5), .ref (bd 6), .ref (bd 7), .int (iI (cn)), .ref (bd 8), .int (iI (mp)), .ref (bd 9), .int (iI (ty)), .int (iI (gkI 0 0 1)), .ref (bd 10), .ref (bd 11), .int (iI (sp)), .int (iI (ta)), .int (iI (ke)), .int (iI (on)), .int (iI (tw))])), (bd 3, .inl (cZ, 8, .inl (iA (Ic))))] H := hP
      have hD : va_D AA [(bd 0, .inr (8, [.ref (bd 1), .ref (bd 2), .ref (bd 3), .ref (bd 4), .ref (bd 5), .ref (bd 6), .ref (bd 7), .int (iI (cn)), .ref (bd 8), .int (iI (mp)), .ref (bd 9), .int (iI (ty)), .int (iI (gkI 0 0 1)), .ref (bd 10), .ref (bd 11), .int (iI (sp)), .int (iI (ta)), .int (iI (ke)), .int (iI (on)), .int (iI (tw))])), (bd 3, .inl (cZ, 8, .inl (iA (Ic))))] := hD
      try dsimp only at hq_3
      obtain ⟨hv9, hq_3⟩ := hq_3
      have hv9 := hv9.symm
      subst hv9
      have hth : gkI (0) (0) (1) = 1 := rfl
      rw [hth] at hP hD
      have hP : va_P D vwCl [(bd 0, .inr (8, [.ref (bd 1), .ref (bd 2), .ref (bd 3), .ref (bd 4), .ref (bd 5), .ref (bd 6), .ref (bd 7), .int (iI (cn)), .ref (bd 8), .int (iI (mp)), .ref (bd 9), .int (iI (ty)), .int (iI (1)), .ref (bd 10), .ref (bd 11), .int (iI (sp)), .int (iI (ta)), .int (iI (ke)), .int (iI (on)), .int (iI (tw))])), (bd 3, .inl (cZ, 8, .inl (iA (Ic))))] H := hP
      have hD : va_D AA [(bd 0, .inr (8, [.ref (bd 1), .ref (bd 2), .ref (bd 3), .ref (bd 4), .ref (bd 5), .ref (bd 6), .ref (bd 7), .int (iI (cn)), .ref (bd 8), .int (iI (mp)), .ref (bd 9), .int (iI (ty)), .int (iI (1)), .ref (bd 10), .ref (bd 11), .int (iI (sp)), .int (iI (ta)), .int (iI (ke)), .int (iI (on)), .int (iI (tw))])), (bd 3, .inl (cZ, 8, .inl (iA (Ic))))] := hD
      rw [show bI (gkI (0) (0) (1) = 0) = 0 from bI_f (by rw [hth]; decide)]
      refine z_if_ne (tgt := 50) hx hb dX8_drop_45 (by decide) ⟨by omega, by omega⟩ (fun c_5 => ?_) (fun c_5 => ?_)
      · exfalso
        omega
      · refine lv_iconst (v := iI (0)) hx hb dX8_drop_48 rfl ?_
        refine z_mret ((Ic, 1)) hx hb hr hlocks dX8_drop_49 hP hD hS ?_
        rw [e20]
        refine ⟨by symm; first | (rw [goK_1 (by omega)]; done) | (rw [goK_2 (by omega) (by omega)]; done) | (rw [goK_3 (by omega) (by omega) (by omega)]; done) | (rw [goK_0 (by omega) (by omega) (by omega)]; done) | (rw [goK_0 (by omega) (by omega) trivial]; done), ⟨by omega, by omega⟩, fun h => absurd h (by show ¬ (1 : Int) = 0; decide), fun _ => rfl⟩
    · refine lv_aload_n hx hb dX8_drop_27 rfl (lv_at hl 0 rfl) ?_
      refine lv_iload_n hx hb dX8_drop_28 rfl (lv_at hl 1 rfl) ?_
      refine lv_iload_n hx hb dX8_drop_29 rfl (lv_at hl 2 rfl) ?_
      refine z_roV (As := [.int (iI (t)), .int (iI (k))]) (rest := [.int (iI (0)), .ref (bd 0)]) ⟨hx, hb, hml, hown, hts⟩ (c_X8_has l D cI cZ cC (bd) (cn) (mp) (ty) (th) (sp) (ta) (ke) (on) (tw) (Ic) (Pm) (Am) (Dm) (P) (Ac) (Mo) (t) (k) (by first | assumption | omega) (by first | assumption | omega) (by first | assumption | omega)) (cwV 2 hts gX8_drop_X8_has rfl rfl rfl (by decide +kernel) ⟨Nat.le_of_ble_eq_true rfl, Nat.le_of_ble_eq_true rfl⟩) hP hK [0, 1] rfl 0 8 rfl rfl rfl rfl hl.1 rfl (Nat.le_of_ble_eq_true rfl) dX8_drop_30 ⟨by omega, by omega⟩ ?_
      refine z_b_eq (tgt := 40) hx hb dX8_drop_33 (by decide) (fun c_6 => ?_) (fun c_6 => ?_)
      · refine lv_iconst (v := iI (0)) hx hb dX8_drop_40 rfl ?_
        refine lv_iconst (v := iI (1)) hx hb dX8_drop_41 rfl ?_
        refine z_muV (As := [.int (iI (0)), .int (iI (0)), .int (iI (1))]) (rest := []) (wr := [(bd 3, .inl (cZ, 8, .inl (iA (Ic))))]) (ws2 := (fun (u : Unit) => [(bd 0, .inr (8, [.ref (bd 1), .ref (bd 2), .ref (bd 3), .ref (bd 4), .ref (bd 5), .ref (bd 6), .ref (bd 7), .int (iI (cn)), .ref (bd 8), .int (iI (mp)), .ref (bd 9), .int (iI (ty)), .int (iI (gkI 0 0 1)), .ref (bd 10), .ref (bd 11), .int (iI (sp)), .int (iI (ta)), .int (iI (ke)), .int (iI (on)), .int (iI (tw))])), (bd 3, .inl (cZ, 8, .inl (iA (Ic))))])) ⟨hx, hb, hml, hown, hts⟩ (c_X8_goes l D cI cZ cC H.size (bd) (cn) (mp) (ty) (th) (sp) (ta) (ke) (on) (tw) (0) (0) (1) (by first | assumption | omega) (by first | assumption | omega) (by first | assumption | omega)) (cwV 3 hts gX8_drop_X8_goes rfl rfl rfl (by decide +kernel) ⟨Nat.le_of_ble_eq_true rfl, Nat.le_of_ble_eq_true rfl⟩) hP hD hS hA hK [0] [1] [1, 0] rfl (by decide) rfl (by decide) (by decide) (by decide) (fun _ => rfl) 0 8 rfl rfl rfl rfl hl.1 rfl (Nat.le_of_ble_eq_true rfl) dX8_drop_42 ⟨by omega, by omega⟩ (fun r_8 u H locs hq_7 hP hD hS => ?_)
        have hP : va_P D vwCl [(bd 0, .inr (8, [.ref (bd 1), .ref (bd 2), .ref (bd 3), .ref (bd 4), .ref (bd 5), .ref (bd 6), .ref (bd 7), .int (iI (cn)), .ref (bd 8), .int (iI (mp)), .ref (bd 9), .int (iI (ty)), .int (iI (gkI 0 0 1)), .ref (bd 10), .ref (bd 11), .int (iI (sp)), .int (iI (ta)), .int (iI (ke)), .int (iI (on)), .int (iI (tw))])), (bd 3, .inl (cZ, 8, .inl (iA (Ic))))] H := hP
        have hD : va_D AA [(bd 0, .inr (8, [.ref (bd 1), .ref (bd 2), .ref (bd 3), .ref (bd 4), .ref (bd 5), .ref (bd 6), .ref (bd 7), .int (iI (cn)), .ref (bd 8), .int (iI (mp)), .ref (bd 9), .int (iI (ty)), .int (iI (gkI 0 0 1)), .ref (bd 10), .ref (bd 11), .int (iI (sp)), .int (iI (ta)), .int (iI (ke)), .int (iI (on)), .int (iI (tw))])), (bd 3, .inl (cZ, 8, .inl (iA (Ic))))] := hD
        try dsimp only at hq_7
        obtain ⟨hv9, hq_7⟩ := hq_7
        have hv9 := hv9.symm
        subst hv9
        have hth : gkI (0) (0) (1) = 1 := rfl
        rw [hth] at hP hD
        have hP : va_P D vwCl [(bd 0, .inr (8, [.ref (bd 1), .ref (bd 2), .ref (bd 3), .ref (bd 4), .ref (bd 5), .ref (bd 6), .ref (bd 7), .int (iI (cn)), .ref (bd 8), .int (iI (mp)), .ref (bd 9), .int (iI (ty)), .int (iI (1)), .ref (bd 10), .ref (bd 11), .int (iI (sp)), .int (iI (ta)), .int (iI (ke)), .int (iI (on)), .int (iI (tw))])), (bd 3, .inl (cZ, 8, .inl (iA (Ic))))] H := hP
        have hD : va_D AA [(bd 0, .inr (8, [.ref (bd 1), .ref (bd 2), .ref (bd 3), .ref (bd 4), .ref (bd 5), .ref (bd 6), .ref (bd 7), .int (iI (cn)), .ref (bd 8), .int (iI (mp)), .ref (bd 9), .int (iI (ty)), .int (iI (1)), .ref (bd 10), .ref (bd 11), .int (iI (sp)), .int (iI (ta)), .int (iI (ke)), .int (iI (on)), .int (iI (tw))])), (bd 3, .inl (cZ, 8, .inl (iA (Ic))))] := hD
        rw [show bI (gkI (0) (0) (1) = 0) = 0 from bI_f (by rw [hth]; decide)]
        refine z_if_ne (tgt := 50) hx hb dX8_drop_45 (by decide) ⟨by omega, by omega⟩ (fun c_9 => ?_) (fun c_9 => ?_)
        · exfalso
          omega
        · refine lv_iconst (v := iI (0)) hx hb dX8_drop_48 rfl ?_
          refine z_mret ((Ic, 1)) hx hb hr hlocks dX8_drop_49 hP hD hS ?_
          rw [e20]
          refine ⟨by symm; first | (rw [goK_1 (by omega)]; done) | (rw [goK_2 (by omega) (by omega)]; done) | (rw [goK_3 (by omega) (by omega) (by omega)]; done) | (rw [goK_0 (by omega) (by omega) (by omega)]; done) | (rw [goK_0 (by omega) (by omega) trivial]; done), ⟨by omega, by omega⟩, fun h => absurd h (by show ¬ (1 : Int) = 0; decide), fun _ => rfl⟩
      · refine lv_iconst (v := iI (1)) hx hb dX8_drop_36 rfl ?_
        refine lv_goto (tgt := 41) hx hb dX8_drop_37 (by decide) ?_
        refine lv_iconst (v := iI (1)) hx hb dX8_drop_41 rfl ?_
        refine z_muV (As := [.int (iI (0)), .int (iI (1)), .int (iI (1))]) (rest := []) (wr := [(bd 3, .inl (cZ, 8, .inl (iA (Ic))))]) (ws2 := (fun (u : Unit) => [(bd 0, .inr (8, [.ref (bd 1), .ref (bd 2), .ref (bd 3), .ref (bd 4), .ref (bd 5), .ref (bd 6), .ref (bd 7), .int (iI (cn)), .ref (bd 8), .int (iI (mp)), .ref (bd 9), .int (iI (ty)), .int (iI (gkI 0 1 1)), .ref (bd 10), .ref (bd 11), .int (iI (sp)), .int (iI (ta)), .int (iI (ke)), .int (iI (on)), .int (iI (tw))])), (bd 3, .inl (cZ, 8, .inl (iA (Ic))))])) ⟨hx, hb, hml, hown, hts⟩ (c_X8_goes l D cI cZ cC H.size (bd) (cn) (mp) (ty) (th) (sp) (ta) (ke) (on) (tw) (0) (1) (1) (by first | assumption | omega) (by first | assumption | omega) (by first | assumption | omega)) (cwV 3 hts gX8_drop_X8_goes rfl rfl rfl (by decide +kernel) ⟨Nat.le_of_ble_eq_true rfl, Nat.le_of_ble_eq_true rfl⟩) hP hD hS hA hK [0] [1] [1, 0] rfl (by decide) rfl (by decide) (by decide) (by decide) (fun _ => rfl) 0 8 rfl rfl rfl rfl hl.1 rfl (Nat.le_of_ble_eq_true rfl) dX8_drop_42 ⟨by omega, by omega⟩ (fun r_11 u H locs hq_10 hP hD hS => ?_)
        have hP : va_P D vwCl [(bd 0, .inr (8, [.ref (bd 1), .ref (bd 2), .ref (bd 3), .ref (bd 4), .ref (bd 5), .ref (bd 6), .ref (bd 7), .int (iI (cn)), .ref (bd 8), .int (iI (mp)), .ref (bd 9), .int (iI (ty)), .int (iI (gkI 0 1 1)), .ref (bd 10), .ref (bd 11), .int (iI (sp)), .int (iI (ta)), .int (iI (ke)), .int (iI (on)), .int (iI (tw))])), (bd 3, .inl (cZ, 8, .inl (iA (Ic))))] H := hP
        have hD : va_D AA [(bd 0, .inr (8, [.ref (bd 1), .ref (bd 2), .ref (bd 3), .ref (bd 4), .ref (bd 5), .ref (bd 6), .ref (bd 7), .int (iI (cn)), .ref (bd 8), .int (iI (mp)), .ref (bd 9), .int (iI (ty)), .int (iI (gkI 0 1 1)), .ref (bd 10), .ref (bd 11), .int (iI (sp)), .int (iI (ta)), .int (iI (ke)), .int (iI (on)), .int (iI (tw))])), (bd 3, .inl (cZ, 8, .inl (iA (Ic))))] := hD
        try dsimp only at hq_10
        obtain ⟨hv9, hq_10⟩ := hq_10
        have hv9 := hv9.symm
        subst hv9
        have hth : gkI (0) (1) (1) = 1 := rfl
        rw [hth] at hP hD
        have hP : va_P D vwCl [(bd 0, .inr (8, [.ref (bd 1), .ref (bd 2), .ref (bd 3), .ref (bd 4), .ref (bd 5), .ref (bd 6), .ref (bd 7), .int (iI (cn)), .ref (bd 8), .int (iI (mp)), .ref (bd 9), .int (iI (ty)), .int (iI (1)), .ref (bd 10), .ref (bd 11), .int (iI (sp)), .int (iI (ta)), .int (iI (ke)), .int (iI (on)), .int (iI (tw))])), (bd 3, .inl (cZ, 8, .inl (iA (Ic))))] H := hP
        have hD : va_D AA [(bd 0, .inr (8, [.ref (bd 1), .ref (bd 2), .ref (bd 3), .ref (bd 4), .ref (bd 5), .ref (bd 6), .ref (bd 7), .int (iI (cn)), .ref (bd 8), .int (iI (mp)), .ref (bd 9), .int (iI (ty)), .int (iI (1)), .ref (bd 10), .ref (bd 11), .int (iI (sp)), .int (iI (ta)), .int (iI (ke)), .int (iI (on)), .int (iI (tw))])), (bd 3, .inl (cZ, 8, .inl (iA (Ic))))] := hD
        rw [show bI (gkI (0) (1) (1) = 0) = 0 from bI_f (by rw [hth]; decide)]
        refine z_if_ne (tgt := 50) hx hb dX8_drop_45 (by decide) ⟨by omega, by omega⟩ (fun c_12 => ?_) (fun c_12 => ?_)
        · exfalso
          omega
        · refine lv_iconst (v := iI (0)) hx hb dX8_drop_48 rfl ?_
          refine z_mret ((Ic, 1)) hx hb hr hlocks dX8_drop_49 hP hD hS ?_
          rw [e20]
          refine ⟨by symm; first | (rw [goK_1 (by omega)]; done) | (rw [goK_2 (by omega) (by omega)]; done) | (rw [goK_3 (by omega) (by omega) (by omega)]; done) | (rw [goK_0 (by omega) (by omega) (by omega)]; done) | (rw [goK_0 (by omega) (by omega) trivial]; done), ⟨by omega, by omega⟩, fun h => absurd h (by show ¬ (1 : Int) = 0; decide), fun _ => rfl⟩
  · refine lv_iload_n hx hb dX8_drop_8 rfl (lv_at hl 2 rfl) ?_
    refine z_roS (As := [.int (iI (k))]) (rest := [.ref (bd 0)]) ⟨hx, hb, hml, hown, hts⟩ (c_X8_isColumn l D cI cZ cC (k) (by first | assumption | omega)) (va_cwS 1 hts gX8_drop_X8_isColumn rfl rfl rfl (by decide +kernel) ⟨Nat.le_of_ble_eq_true rfl, Nat.le_of_ble_eq_true rfl⟩) hP hK [] rfl rfl hl.1 rfl (Nat.le_of_ble_eq_true rfl) dX8_drop_9 ⟨by omega, by omega⟩ ?_
    refine z_b_eq (tgt := 19) hx hb dX8_drop_12 (by decide) (fun c_13 => ?_) (fun c_13 => ?_)
    · refine lv_iconst (v := iI (0)) hx hb dX8_drop_19 rfl ?_
      refine lv_aload_n hx hb dX8_drop_20 rfl (lv_at hl 0 rfl) ?_
      refine va_get (D := D) (ci := 8) (v := .int (iI (cn))) (C := RX8) (T := TX8) (N := 20) hx hb hts (fun _ h => List.mem_cons_of_mem _ (List.mem_append_right _ (h))) hown hK.1 hP 0 rfl rfl 7 (by decide) (hts (.fieldLink RX8 67 "ForeignKeyStoreModel" "changes" "I") (List.mem_of_getElem? (i := 1) rfl)) (fun _ h9 => h9) rfl dX8_drop_21 ?_
      refine z_if_ne (tgt := 40) hx hb dX8_drop_24 (by decide) ⟨by omega, by omega⟩ (fun c_14 => ?_) (fun c_14 => ?_)
      · refine lv_iconst (v := iI (0)) hx hb dX8_drop_40 rfl ?_
        refine lv_iconst (v := iI (1)) hx hb dX8_drop_41 rfl ?_
        refine z_muV (As := [.int (iI (0)), .int (iI (0)), .int (iI (1))]) (rest := []) (wr := [(bd 3, .inl (cZ, 8, .inl (iA (Ic))))]) (ws2 := (fun (u : Unit) => [(bd 0, .inr (8, [.ref (bd 1), .ref (bd 2), .ref (bd 3), .ref (bd 4), .ref (bd 5), .ref (bd 6), .ref (bd 7), .int (iI (cn)), .ref (bd 8), .int (iI (mp)), .ref (bd 9), .int (iI (ty)), .int (iI (gkI 0 0 1)), .ref (bd 10), .ref (bd 11), .int (iI (sp)), .int (iI (ta)), .int (iI (ke)), .int (iI (on)), .int (iI (tw))])), (bd 3, .inl (cZ, 8, .inl (iA (Ic))))])) ⟨hx, hb, hml, hown, hts⟩ (c_X8_goes l D cI cZ cC H.size (bd) (cn) (mp) (ty) (th) (sp) (ta) (ke) (on) (tw) (0) (0) (1) (by first | assumption | omega) (by first | assumption | omega) (by first | assumption | omega)) (cwV 3 hts gX8_drop_X8_goes rfl rfl rfl (by decide +kernel) ⟨Nat.le_of_ble_eq_true rfl, Nat.le_of_ble_eq_true rfl⟩) hP hD hS hA hK [0] [1] [1, 0] rfl (by decide) rfl (by decide) (by decide) (by decide) (fun _ => rfl) 0 8 rfl rfl rfl rfl hl.1 rfl (Nat.le_of_ble_eq_true rfl) dX8_drop_42 ⟨by omega, by omega⟩ (fun r_16 u H locs hq_15 hP hD hS => ?_)
        have hP : va_P D vwCl [(bd 0, .inr (8, [.ref (bd 1), .ref (bd 2), .ref (bd 3), .ref (bd 4), .ref (bd 5), .ref (bd 6), .ref (bd 7), .int (iI (cn)), .ref (bd 8), .int (iI (mp)), .ref (bd 9), .int (iI (ty)), .int (iI (gkI 0 0 1)), .ref (bd 10), .ref (bd 11), .int (iI (sp)), .int (iI (ta)), .int (iI (ke)), .int (iI (on)), .int (iI (tw))])), (bd 3, .inl (cZ, 8, .inl (iA (Ic))))] H := hP
        have hD : va_D AA [(bd 0, .inr (8, [.ref (bd 1), .ref (bd 2), .ref (bd 3), .ref (bd 4), .ref (bd 5), .ref (bd 6), .ref (bd 7), .int (iI (cn)), .ref (bd 8), .int (iI (mp)), .ref (bd 9), .int (iI (ty)), .int (iI (gkI 0 0 1)), .ref (bd 10), .ref (bd 11), .int (iI (sp)), .int (iI (ta)), .int (iI (ke)), .int (iI (on)), .int (iI (tw))])), (bd 3, .inl (cZ, 8, .inl (iA (Ic))))] := hD
        try dsimp only at hq_15
        obtain ⟨hv9, hq_15⟩ := hq_15
        have hv9 := hv9.symm
        subst hv9
        have hth : gkI (0) (0) (1) = 1 := rfl
        rw [hth] at hP hD
        have hP : va_P D vwCl [(bd 0, .inr (8, [.ref (bd 1), .ref (bd 2), .ref (bd 3), .ref (bd 4), .ref (bd 5), .ref (bd 6), .ref (bd 7), .int (iI (cn)), .ref (bd 8), .int (iI (mp)), .ref (bd 9), .int (iI (ty)), .int (iI (1)), .ref (bd 10), .ref (bd 11), .int (iI (sp)), .int (iI (ta)), .int (iI (ke)), .int (iI (on)), .int (iI (tw))])), (bd 3, .inl (cZ, 8, .inl (iA (Ic))))] H := hP
        have hD : va_D AA [(bd 0, .inr (8, [.ref (bd 1), .ref (bd 2), .ref (bd 3), .ref (bd 4), .ref (bd 5), .ref (bd 6), .ref (bd 7), .int (iI (cn)), .ref (bd 8), .int (iI (mp)), .ref (bd 9), .int (iI (ty)), .int (iI (1)), .ref (bd 10), .ref (bd 11), .int (iI (sp)), .int (iI (ta)), .int (iI (ke)), .int (iI (on)), .int (iI (tw))])), (bd 3, .inl (cZ, 8, .inl (iA (Ic))))] := hD
        rw [show bI (gkI (0) (0) (1) = 0) = 0 from bI_f (by rw [hth]; decide)]
        refine z_if_ne (tgt := 50) hx hb dX8_drop_45 (by decide) ⟨by omega, by omega⟩ (fun c_17 => ?_) (fun c_17 => ?_)
        · exfalso
          omega
        · refine lv_iconst (v := iI (0)) hx hb dX8_drop_48 rfl ?_
          refine z_mret ((Ic, 1)) hx hb hr hlocks dX8_drop_49 hP hD hS ?_
          rw [e20]
          refine ⟨by symm; first | (rw [goK_1 (by omega)]; done) | (rw [goK_2 (by omega) (by omega)]; done) | (rw [goK_3 (by omega) (by omega) (by omega)]; done) | (rw [goK_0 (by omega) (by omega) (by omega)]; done) | (rw [goK_0 (by omega) (by omega) trivial]; done), ⟨by omega, by omega⟩, fun h => absurd h (by show ¬ (1 : Int) = 0; decide), fun _ => rfl⟩
      · refine lv_aload_n hx hb dX8_drop_27 rfl (lv_at hl 0 rfl) ?_
        refine lv_iload_n hx hb dX8_drop_28 rfl (lv_at hl 1 rfl) ?_
        refine lv_iload_n hx hb dX8_drop_29 rfl (lv_at hl 2 rfl) ?_
        refine z_roV (As := [.int (iI (t)), .int (iI (k))]) (rest := [.int (iI (0)), .ref (bd 0)]) ⟨hx, hb, hml, hown, hts⟩ (c_X8_has l D cI cZ cC (bd) (cn) (mp) (ty) (th) (sp) (ta) (ke) (on) (tw) (Ic) (Pm) (Am) (Dm) (P) (Ac) (Mo) (t) (k) (by first | assumption | omega) (by first | assumption | omega) (by first | assumption | omega)) (cwV 2 hts gX8_drop_X8_has rfl rfl rfl (by decide +kernel) ⟨Nat.le_of_ble_eq_true rfl, Nat.le_of_ble_eq_true rfl⟩) hP hK [0, 1] rfl 0 8 rfl rfl rfl rfl hl.1 rfl (Nat.le_of_ble_eq_true rfl) dX8_drop_30 ⟨by omega, by omega⟩ ?_
        refine z_b_eq (tgt := 40) hx hb dX8_drop_33 (by decide) (fun c_18 => ?_) (fun c_18 => ?_)
        · refine lv_iconst (v := iI (0)) hx hb dX8_drop_40 rfl ?_
          refine lv_iconst (v := iI (1)) hx hb dX8_drop_41 rfl ?_
          refine z_muV (As := [.int (iI (0)), .int (iI (0)), .int (iI (1))]) (rest := []) (wr := [(bd 3, .inl (cZ, 8, .inl (iA (Ic))))]) (ws2 := (fun (u : Unit) => [(bd 0, .inr (8, [.ref (bd 1), .ref (bd 2), .ref (bd 3), .ref (bd 4), .ref (bd 5), .ref (bd 6), .ref (bd 7), .int (iI (cn)), .ref (bd 8), .int (iI (mp)), .ref (bd 9), .int (iI (ty)), .int (iI (gkI 0 0 1)), .ref (bd 10), .ref (bd 11), .int (iI (sp)), .int (iI (ta)), .int (iI (ke)), .int (iI (on)), .int (iI (tw))])), (bd 3, .inl (cZ, 8, .inl (iA (Ic))))])) ⟨hx, hb, hml, hown, hts⟩ (c_X8_goes l D cI cZ cC H.size (bd) (cn) (mp) (ty) (th) (sp) (ta) (ke) (on) (tw) (0) (0) (1) (by first | assumption | omega) (by first | assumption | omega) (by first | assumption | omega)) (cwV 3 hts gX8_drop_X8_goes rfl rfl rfl (by decide +kernel) ⟨Nat.le_of_ble_eq_true rfl, Nat.le_of_ble_eq_true rfl⟩) hP hD hS hA hK [0] [1] [1, 0] rfl (by decide) rfl (by decide) (by decide) (by decide) (fun _ => rfl) 0 8 rfl rfl rfl rfl hl.1 rfl (Nat.le_of_ble_eq_true rfl) dX8_drop_42 ⟨by omega, by omega⟩ (fun r_20 u H locs hq_19 hP hD hS => ?_)
          have hP : va_P D vwCl [(bd 0, .inr (8, [.ref (bd 1), .ref (bd 2), .ref (bd 3), .ref (bd 4), .ref (bd 5), .ref (bd 6), .ref (bd 7), .int (iI (cn)), .ref (bd 8), .int (iI (mp)), .ref (bd 9), .int (iI (ty)), .int (iI (gkI 0 0 1)), .ref (bd 10), .ref (bd 11), .int (iI (sp)), .int (iI (ta)), .int (iI (ke)), .int (iI (on)), .int (iI (tw))])), (bd 3, .inl (cZ, 8, .inl (iA (Ic))))] H := hP
          have hD : va_D AA [(bd 0, .inr (8, [.ref (bd 1), .ref (bd 2), .ref (bd 3), .ref (bd 4), .ref (bd 5), .ref (bd 6), .ref (bd 7), .int (iI (cn)), .ref (bd 8), .int (iI (mp)), .ref (bd 9), .int (iI (ty)), .int (iI (gkI 0 0 1)), .ref (bd 10), .ref (bd 11), .int (iI (sp)), .int (iI (ta)), .int (iI (ke)), .int (iI (on)), .int (iI (tw))])), (bd 3, .inl (cZ, 8, .inl (iA (Ic))))] := hD
          try dsimp only at hq_19
          obtain ⟨hv9, hq_19⟩ := hq_19
          have hv9 := hv9.symm
          subst hv9
          have hth : gkI (0) (0) (1) = 1 := rfl
          rw [hth] at hP hD
          have hP : va_P D vwCl [(bd 0, .inr (8, [.ref (bd 1), .ref (bd 2), .ref (bd 3), .ref (bd 4), .ref (bd 5), .ref (bd 6), .ref (bd 7), .int (iI (cn)), .ref (bd 8), .int (iI (mp)), .ref (bd 9), .int (iI (ty)), .int (iI (1)), .ref (bd 10), .ref (bd 11), .int (iI (sp)), .int (iI (ta)), .int (iI (ke)), .int (iI (on)), .int (iI (tw))])), (bd 3, .inl (cZ, 8, .inl (iA (Ic))))] H := hP
          have hD : va_D AA [(bd 0, .inr (8, [.ref (bd 1), .ref (bd 2), .ref (bd 3), .ref (bd 4), .ref (bd 5), .ref (bd 6), .ref (bd 7), .int (iI (cn)), .ref (bd 8), .int (iI (mp)), .ref (bd 9), .int (iI (ty)), .int (iI (1)), .ref (bd 10), .ref (bd 11), .int (iI (sp)), .int (iI (ta)), .int (iI (ke)), .int (iI (on)), .int (iI (tw))])), (bd 3, .inl (cZ, 8, .inl (iA (Ic))))] := hD
          rw [show bI (gkI (0) (0) (1) = 0) = 0 from bI_f (by rw [hth]; decide)]
          refine z_if_ne (tgt := 50) hx hb dX8_drop_45 (by decide) ⟨by omega, by omega⟩ (fun c_21 => ?_) (fun c_21 => ?_)
          · exfalso
            omega
          · refine lv_iconst (v := iI (0)) hx hb dX8_drop_48 rfl ?_
            refine z_mret ((Ic, 1)) hx hb hr hlocks dX8_drop_49 hP hD hS ?_
            rw [e20]
            refine ⟨by symm; first | (rw [goK_1 (by omega)]; done) | (rw [goK_2 (by omega) (by omega)]; done) | (rw [goK_3 (by omega) (by omega) (by omega)]; done) | (rw [goK_0 (by omega) (by omega) (by omega)]; done) | (rw [goK_0 (by omega) (by omega) trivial]; done), ⟨by omega, by omega⟩, fun h => absurd h (by show ¬ (1 : Int) = 0; decide), fun _ => rfl⟩
        · refine lv_iconst (v := iI (1)) hx hb dX8_drop_36 rfl ?_
          refine lv_goto (tgt := 41) hx hb dX8_drop_37 (by decide) ?_
          refine lv_iconst (v := iI (1)) hx hb dX8_drop_41 rfl ?_
          refine z_muV (As := [.int (iI (0)), .int (iI (1)), .int (iI (1))]) (rest := []) (wr := [(bd 3, .inl (cZ, 8, .inl (iA (Ic))))]) (ws2 := (fun (u : Unit) => [(bd 0, .inr (8, [.ref (bd 1), .ref (bd 2), .ref (bd 3), .ref (bd 4), .ref (bd 5), .ref (bd 6), .ref (bd 7), .int (iI (cn)), .ref (bd 8), .int (iI (mp)), .ref (bd 9), .int (iI (ty)), .int (iI (gkI 0 1 1)), .ref (bd 10), .ref (bd 11), .int (iI (sp)), .int (iI (ta)), .int (iI (ke)), .int (iI (on)), .int (iI (tw))])), (bd 3, .inl (cZ, 8, .inl (iA (Ic))))])) ⟨hx, hb, hml, hown, hts⟩ (c_X8_goes l D cI cZ cC H.size (bd) (cn) (mp) (ty) (th) (sp) (ta) (ke) (on) (tw) (0) (1) (1) (by first | assumption | omega) (by first | assumption | omega) (by first | assumption | omega)) (cwV 3 hts gX8_drop_X8_goes rfl rfl rfl (by decide +kernel) ⟨Nat.le_of_ble_eq_true rfl, Nat.le_of_ble_eq_true rfl⟩) hP hD hS hA hK [0] [1] [1, 0] rfl (by decide) rfl (by decide) (by decide) (by decide) (fun _ => rfl) 0 8 rfl rfl rfl rfl hl.1 rfl (Nat.le_of_ble_eq_true rfl) dX8_drop_42 ⟨by omega, by omega⟩ (fun r_23 u H locs hq_22 hP hD hS => ?_)
          have hP : va_P D vwCl [(bd 0, .inr (8, [.ref (bd 1), .ref (bd 2), .ref (bd 3), .ref (bd 4), .ref (bd 5), .ref (bd 6), .ref (bd 7), .int (iI (cn)), .ref (bd 8), .int (iI (mp)), .ref (bd 9), .int (iI (ty)), .int (iI (gkI 0 1 1)), .ref (bd 10), .ref (bd 11), .int (iI (sp)), .int (iI (ta)), .int (iI (ke)), .int (iI (on)), .int (iI (tw))])), (bd 3, .inl (cZ, 8, .inl (iA (Ic))))] H := hP
          have hD : va_D AA [(bd 0, .inr (8, [.ref (bd 1), .ref (bd 2), .ref (bd 3), .ref (bd 4), .ref (bd 5), .ref (bd 6), .ref (bd 7), .int (iI (cn)), .ref (bd 8), .int (iI (mp)), .ref (bd 9), .int (iI (ty)), .int (iI (gkI 0 1 1)), .ref (bd 10), .ref (bd 11), .int (iI (sp)), .int (iI (ta)), .int (iI (ke)), .int (iI (on)), .int (iI (tw))])), (bd 3, .inl (cZ, 8, .inl (iA (Ic))))] := hD
          try dsimp only at hq_22
          obtain ⟨hv9, hq_22⟩ := hq_22
          have hv9 := hv9.symm
          subst hv9
          have hth : gkI (0) (1) (1) = 1 := rfl
          rw [hth] at hP hD
          have hP : va_P D vwCl [(bd 0, .inr (8, [.ref (bd 1), .ref (bd 2), .ref (bd 3), .ref (bd 4), .ref (bd 5), .ref (bd 6), .ref (bd 7), .int (iI (cn)), .ref (bd 8), .int (iI (mp)), .ref (bd 9), .int (iI (ty)), .int (iI (1)), .ref (bd 10), .ref (bd 11), .int (iI (sp)), .int (iI (ta)), .int (iI (ke)), .int (iI (on)), .int (iI (tw))])), (bd 3, .inl (cZ, 8, .inl (iA (Ic))))] H := hP
          have hD : va_D AA [(bd 0, .inr (8, [.ref (bd 1), .ref (bd 2), .ref (bd 3), .ref (bd 4), .ref (bd 5), .ref (bd 6), .ref (bd 7), .int (iI (cn)), .ref (bd 8), .int (iI (mp)), .ref (bd 9), .int (iI (ty)), .int (iI (1)), .ref (bd 10), .ref (bd 11), .int (iI (sp)), .int (iI (ta)), .int (iI (ke)), .int (iI (on)), .int (iI (tw))])), (bd 3, .inl (cZ, 8, .inl (iA (Ic))))] := hD
          rw [show bI (gkI (0) (1) (1) = 0) = 0 from bI_f (by rw [hth]; decide)]
          refine z_if_ne (tgt := 50) hx hb dX8_drop_45 (by decide) ⟨by omega, by omega⟩ (fun c_24 => ?_) (fun c_24 => ?_)
          · exfalso
            omega
          · refine lv_iconst (v := iI (0)) hx hb dX8_drop_48 rfl ?_
            refine z_mret ((Ic, 1)) hx hb hr hlocks dX8_drop_49 hP hD hS ?_
            rw [e20]
            refine ⟨by symm; first | (rw [goK_1 (by omega)]; done) | (rw [goK_2 (by omega) (by omega)]; done) | (rw [goK_3 (by omega) (by omega) (by omega)]; done) | (rw [goK_0 (by omega) (by omega) (by omega)]; done) | (rw [goK_0 (by omega) (by omega) trivial]; done), ⟨by omega, by omega⟩, fun h => absurd h (by show ¬ (1 : Int) = 0; decide), fun _ => rfl⟩
    · refine lv_iconst (v := iI (1)) hx hb dX8_drop_15 rfl ?_
      refine lv_goto (tgt := 20) hx hb dX8_drop_16 (by decide) ?_
      refine lv_aload_n hx hb dX8_drop_20 rfl (lv_at hl 0 rfl) ?_
      refine va_get (D := D) (ci := 8) (v := .int (iI (cn))) (C := RX8) (T := TX8) (N := 20) hx hb hts (fun _ h => List.mem_cons_of_mem _ (List.mem_append_right _ (h))) hown hK.1 hP 0 rfl rfl 7 (by decide) (hts (.fieldLink RX8 67 "ForeignKeyStoreModel" "changes" "I") (List.mem_of_getElem? (i := 1) rfl)) (fun _ h9 => h9) rfl dX8_drop_21 ?_
      refine z_if_ne (tgt := 40) hx hb dX8_drop_24 (by decide) ⟨by omega, by omega⟩ (fun c_25 => ?_) (fun c_25 => ?_)
      · refine lv_iconst (v := iI (0)) hx hb dX8_drop_40 rfl ?_
        refine lv_iconst (v := iI (1)) hx hb dX8_drop_41 rfl ?_
        refine z_muV (As := [.int (iI (1)), .int (iI (0)), .int (iI (1))]) (rest := []) (wr := [(bd 3, .inl (cZ, 8, .inl (iA (Ic))))]) (ws2 := (fun (u : Unit) => [(bd 0, .inr (8, [.ref (bd 1), .ref (bd 2), .ref (bd 3), .ref (bd 4), .ref (bd 5), .ref (bd 6), .ref (bd 7), .int (iI (cn)), .ref (bd 8), .int (iI (mp)), .ref (bd 9), .int (iI (ty)), .int (iI (gkI 1 0 1)), .ref (bd 10), .ref (bd 11), .int (iI (sp)), .int (iI (ta)), .int (iI (ke)), .int (iI (on)), .int (iI (tw))])), (bd 3, .inl (cZ, 8, .inl (iA (Ic))))])) ⟨hx, hb, hml, hown, hts⟩ (c_X8_goes l D cI cZ cC H.size (bd) (cn) (mp) (ty) (th) (sp) (ta) (ke) (on) (tw) (1) (0) (1) (by first | assumption | omega) (by first | assumption | omega) (by first | assumption | omega)) (cwV 3 hts gX8_drop_X8_goes rfl rfl rfl (by decide +kernel) ⟨Nat.le_of_ble_eq_true rfl, Nat.le_of_ble_eq_true rfl⟩) hP hD hS hA hK [0] [1] [1, 0] rfl (by decide) rfl (by decide) (by decide) (by decide) (fun _ => rfl) 0 8 rfl rfl rfl rfl hl.1 rfl (Nat.le_of_ble_eq_true rfl) dX8_drop_42 ⟨by omega, by omega⟩ (fun r_27 u H locs hq_26 hP hD hS => ?_)
        have hP : va_P D vwCl [(bd 0, .inr (8, [.ref (bd 1), .ref (bd 2), .ref (bd 3), .ref (bd 4), .ref (bd 5), .ref (bd 6), .ref (bd 7), .int (iI (cn)), .ref (bd 8), .int (iI (mp)), .ref (bd 9), .int (iI (ty)), .int (iI (gkI 1 0 1)), .ref (bd 10), .ref (bd 11), .int (iI (sp)), .int (iI (ta)), .int (iI (ke)), .int (iI (on)), .int (iI (tw))])), (bd 3, .inl (cZ, 8, .inl (iA (Ic))))] H := hP
        have hD : va_D AA [(bd 0, .inr (8, [.ref (bd 1), .ref (bd 2), .ref (bd 3), .ref (bd 4), .ref (bd 5), .ref (bd 6), .ref (bd 7), .int (iI (cn)), .ref (bd 8), .int (iI (mp)), .ref (bd 9), .int (iI (ty)), .int (iI (gkI 1 0 1)), .ref (bd 10), .ref (bd 11), .int (iI (sp)), .int (iI (ta)), .int (iI (ke)), .int (iI (on)), .int (iI (tw))])), (bd 3, .inl (cZ, 8, .inl (iA (Ic))))] := hD
        try dsimp only at hq_26
        obtain ⟨hv9, hq_26⟩ := hq_26
        have hv9 := hv9.symm
        subst hv9
        have hth : gkI (1) (0) (1) = 2 := rfl
        rw [hth] at hP hD
        have hP : va_P D vwCl [(bd 0, .inr (8, [.ref (bd 1), .ref (bd 2), .ref (bd 3), .ref (bd 4), .ref (bd 5), .ref (bd 6), .ref (bd 7), .int (iI (cn)), .ref (bd 8), .int (iI (mp)), .ref (bd 9), .int (iI (ty)), .int (iI (2)), .ref (bd 10), .ref (bd 11), .int (iI (sp)), .int (iI (ta)), .int (iI (ke)), .int (iI (on)), .int (iI (tw))])), (bd 3, .inl (cZ, 8, .inl (iA (Ic))))] H := hP
        have hD : va_D AA [(bd 0, .inr (8, [.ref (bd 1), .ref (bd 2), .ref (bd 3), .ref (bd 4), .ref (bd 5), .ref (bd 6), .ref (bd 7), .int (iI (cn)), .ref (bd 8), .int (iI (mp)), .ref (bd 9), .int (iI (ty)), .int (iI (2)), .ref (bd 10), .ref (bd 11), .int (iI (sp)), .int (iI (ta)), .int (iI (ke)), .int (iI (on)), .int (iI (tw))])), (bd 3, .inl (cZ, 8, .inl (iA (Ic))))] := hD
        rw [show bI (gkI (1) (0) (1) = 0) = 0 from bI_f (by rw [hth]; decide)]
        refine z_if_ne (tgt := 50) hx hb dX8_drop_45 (by decide) ⟨by omega, by omega⟩ (fun c_28 => ?_) (fun c_28 => ?_)
        · exfalso
          omega
        · refine lv_iconst (v := iI (0)) hx hb dX8_drop_48 rfl ?_
          refine z_mret ((Ic, 2)) hx hb hr hlocks dX8_drop_49 hP hD hS ?_
          rw [e20]
          refine ⟨by symm; first | (rw [goK_1 (by omega)]; done) | (rw [goK_2 (by omega) (by omega)]; done) | (rw [goK_3 (by omega) (by omega) (by omega)]; done) | (rw [goK_0 (by omega) (by omega) (by omega)]; done) | (rw [goK_0 (by omega) (by omega) trivial]; done), ⟨by omega, by omega⟩, fun h => absurd h (by show ¬ (2 : Int) = 0; decide), fun _ => rfl⟩
      · refine lv_aload_n hx hb dX8_drop_27 rfl (lv_at hl 0 rfl) ?_
        refine lv_iload_n hx hb dX8_drop_28 rfl (lv_at hl 1 rfl) ?_
        refine lv_iload_n hx hb dX8_drop_29 rfl (lv_at hl 2 rfl) ?_
        refine z_roV (As := [.int (iI (t)), .int (iI (k))]) (rest := [.int (iI (1)), .ref (bd 0)]) ⟨hx, hb, hml, hown, hts⟩ (c_X8_has l D cI cZ cC (bd) (cn) (mp) (ty) (th) (sp) (ta) (ke) (on) (tw) (Ic) (Pm) (Am) (Dm) (P) (Ac) (Mo) (t) (k) (by first | assumption | omega) (by first | assumption | omega) (by first | assumption | omega)) (cwV 2 hts gX8_drop_X8_has rfl rfl rfl (by decide +kernel) ⟨Nat.le_of_ble_eq_true rfl, Nat.le_of_ble_eq_true rfl⟩) hP hK [0, 1] rfl 0 8 rfl rfl rfl rfl hl.1 rfl (Nat.le_of_ble_eq_true rfl) dX8_drop_30 ⟨by omega, by omega⟩ ?_
        refine z_b_eq (tgt := 40) hx hb dX8_drop_33 (by decide) (fun c_29 => ?_) (fun c_29 => ?_)
        · refine lv_iconst (v := iI (0)) hx hb dX8_drop_40 rfl ?_
          refine lv_iconst (v := iI (1)) hx hb dX8_drop_41 rfl ?_
          refine z_muV (As := [.int (iI (1)), .int (iI (0)), .int (iI (1))]) (rest := []) (wr := [(bd 3, .inl (cZ, 8, .inl (iA (Ic))))]) (ws2 := (fun (u : Unit) => [(bd 0, .inr (8, [.ref (bd 1), .ref (bd 2), .ref (bd 3), .ref (bd 4), .ref (bd 5), .ref (bd 6), .ref (bd 7), .int (iI (cn)), .ref (bd 8), .int (iI (mp)), .ref (bd 9), .int (iI (ty)), .int (iI (gkI 1 0 1)), .ref (bd 10), .ref (bd 11), .int (iI (sp)), .int (iI (ta)), .int (iI (ke)), .int (iI (on)), .int (iI (tw))])), (bd 3, .inl (cZ, 8, .inl (iA (Ic))))])) ⟨hx, hb, hml, hown, hts⟩ (c_X8_goes l D cI cZ cC H.size (bd) (cn) (mp) (ty) (th) (sp) (ta) (ke) (on) (tw) (1) (0) (1) (by first | assumption | omega) (by first | assumption | omega) (by first | assumption | omega)) (cwV 3 hts gX8_drop_X8_goes rfl rfl rfl (by decide +kernel) ⟨Nat.le_of_ble_eq_true rfl, Nat.le_of_ble_eq_true rfl⟩) hP hD hS hA hK [0] [1] [1, 0] rfl (by decide) rfl (by decide) (by decide) (by decide) (fun _ => rfl) 0 8 rfl rfl rfl rfl hl.1 rfl (Nat.le_of_ble_eq_true rfl) dX8_drop_42 ⟨by omega, by omega⟩ (fun r_31 u H locs hq_30 hP hD hS => ?_)
          have hP : va_P D vwCl [(bd 0, .inr (8, [.ref (bd 1), .ref (bd 2), .ref (bd 3), .ref (bd 4), .ref (bd 5), .ref (bd 6), .ref (bd 7), .int (iI (cn)), .ref (bd 8), .int (iI (mp)), .ref (bd 9), .int (iI (ty)), .int (iI (gkI 1 0 1)), .ref (bd 10), .ref (bd 11), .int (iI (sp)), .int (iI (ta)), .int (iI (ke)), .int (iI (on)), .int (iI (tw))])), (bd 3, .inl (cZ, 8, .inl (iA (Ic))))] H := hP
          have hD : va_D AA [(bd 0, .inr (8, [.ref (bd 1), .ref (bd 2), .ref (bd 3), .ref (bd 4), .ref (bd 5), .ref (bd 6), .ref (bd 7), .int (iI (cn)), .ref (bd 8), .int (iI (mp)), .ref (bd 9), .int (iI (ty)), .int (iI (gkI 1 0 1)), .ref (bd 10), .ref (bd 11), .int (iI (sp)), .int (iI (ta)), .int (iI (ke)), .int (iI (on)), .int (iI (tw))])), (bd 3, .inl (cZ, 8, .inl (iA (Ic))))] := hD
          try dsimp only at hq_30
          obtain ⟨hv9, hq_30⟩ := hq_30
          have hv9 := hv9.symm
          subst hv9
          have hth : gkI (1) (0) (1) = 2 := rfl
          rw [hth] at hP hD
          have hP : va_P D vwCl [(bd 0, .inr (8, [.ref (bd 1), .ref (bd 2), .ref (bd 3), .ref (bd 4), .ref (bd 5), .ref (bd 6), .ref (bd 7), .int (iI (cn)), .ref (bd 8), .int (iI (mp)), .ref (bd 9), .int (iI (ty)), .int (iI (2)), .ref (bd 10), .ref (bd 11), .int (iI (sp)), .int (iI (ta)), .int (iI (ke)), .int (iI (on)), .int (iI (tw))])), (bd 3, .inl (cZ, 8, .inl (iA (Ic))))] H := hP
          have hD : va_D AA [(bd 0, .inr (8, [.ref (bd 1), .ref (bd 2), .ref (bd 3), .ref (bd 4), .ref (bd 5), .ref (bd 6), .ref (bd 7), .int (iI (cn)), .ref (bd 8), .int (iI (mp)), .ref (bd 9), .int (iI (ty)), .int (iI (2)), .ref (bd 10), .ref (bd 11), .int (iI (sp)), .int (iI (ta)), .int (iI (ke)), .int (iI (on)), .int (iI (tw))])), (bd 3, .inl (cZ, 8, .inl (iA (Ic))))] := hD
          rw [show bI (gkI (1) (0) (1) = 0) = 0 from bI_f (by rw [hth]; decide)]
          refine z_if_ne (tgt := 50) hx hb dX8_drop_45 (by decide) ⟨by omega, by omega⟩ (fun c_32 => ?_) (fun c_32 => ?_)
          · exfalso
            omega
          · refine lv_iconst (v := iI (0)) hx hb dX8_drop_48 rfl ?_
            refine z_mret ((Ic, 2)) hx hb hr hlocks dX8_drop_49 hP hD hS ?_
            rw [e20]
            refine ⟨by symm; first | (rw [goK_1 (by omega)]; done) | (rw [goK_2 (by omega) (by omega)]; done) | (rw [goK_3 (by omega) (by omega) (by omega)]; done) | (rw [goK_0 (by omega) (by omega) (by omega)]; done) | (rw [goK_0 (by omega) (by omega) trivial]; done), ⟨by omega, by omega⟩, fun h => absurd h (by show ¬ (2 : Int) = 0; decide), fun _ => rfl⟩
        · refine lv_iconst (v := iI (1)) hx hb dX8_drop_36 rfl ?_
          refine lv_goto (tgt := 41) hx hb dX8_drop_37 (by decide) ?_
          refine lv_iconst (v := iI (1)) hx hb dX8_drop_41 rfl ?_
          refine z_muV (As := [.int (iI (1)), .int (iI (1)), .int (iI (1))]) (rest := []) (wr := [(bd 3, .inl (cZ, 8, .inl (iA (Ic))))]) (ws2 := (fun (u : Unit) => [(bd 0, .inr (8, [.ref (bd 1), .ref (bd 2), .ref (bd 3), .ref (bd 4), .ref (bd 5), .ref (bd 6), .ref (bd 7), .int (iI (cn)), .ref (bd 8), .int (iI (mp)), .ref (bd 9), .int (iI (ty)), .int (iI (gkI 1 1 1)), .ref (bd 10), .ref (bd 11), .int (iI (sp)), .int (iI (ta)), .int (iI (ke)), .int (iI (on)), .int (iI (tw))])), (bd 3, .inl (cZ, 8, .inl (iA (Ic))))])) ⟨hx, hb, hml, hown, hts⟩ (c_X8_goes l D cI cZ cC H.size (bd) (cn) (mp) (ty) (th) (sp) (ta) (ke) (on) (tw) (1) (1) (1) (by first | assumption | omega) (by first | assumption | omega) (by first | assumption | omega)) (cwV 3 hts gX8_drop_X8_goes rfl rfl rfl (by decide +kernel) ⟨Nat.le_of_ble_eq_true rfl, Nat.le_of_ble_eq_true rfl⟩) hP hD hS hA hK [0] [1] [1, 0] rfl (by decide) rfl (by decide) (by decide) (by decide) (fun _ => rfl) 0 8 rfl rfl rfl rfl hl.1 rfl (Nat.le_of_ble_eq_true rfl) dX8_drop_42 ⟨by omega, by omega⟩ (fun r_34 u H locs hq_33 hP hD hS => ?_)
          have hP : va_P D vwCl [(bd 0, .inr (8, [.ref (bd 1), .ref (bd 2), .ref (bd 3), .ref (bd 4), .ref (bd 5), .ref (bd 6), .ref (bd 7), .int (iI (cn)), .ref (bd 8), .int (iI (mp)), .ref (bd 9), .int (iI (ty)), .int (iI (gkI 1 1 1)), .ref (bd 10), .ref (bd 11), .int (iI (sp)), .int (iI (ta)), .int (iI (ke)), .int (iI (on)), .int (iI (tw))])), (bd 3, .inl (cZ, 8, .inl (iA (Ic))))] H := hP
          have hD : va_D AA [(bd 0, .inr (8, [.ref (bd 1), .ref (bd 2), .ref (bd 3), .ref (bd 4), .ref (bd 5), .ref (bd 6), .ref (bd 7), .int (iI (cn)), .ref (bd 8), .int (iI (mp)), .ref (bd 9), .int (iI (ty)), .int (iI (gkI 1 1 1)), .ref (bd 10), .ref (bd 11), .int (iI (sp)), .int (iI (ta)), .int (iI (ke)), .int (iI (on)), .int (iI (tw))])), (bd 3, .inl (cZ, 8, .inl (iA (Ic))))] := hD
          try dsimp only at hq_33
          obtain ⟨hv9, hq_33⟩ := hq_33
          have hv9 := hv9.symm
          subst hv9
          have hth : gkI (1) (1) (1) = 0 := rfl
          rw [hth] at hP hD
          have hP : va_P D vwCl [(bd 0, .inr (8, [.ref (bd 1), .ref (bd 2), .ref (bd 3), .ref (bd 4), .ref (bd 5), .ref (bd 6), .ref (bd 7), .int (iI (cn)), .ref (bd 8), .int (iI (mp)), .ref (bd 9), .int (iI (ty)), .int (iI (0)), .ref (bd 10), .ref (bd 11), .int (iI (sp)), .int (iI (ta)), .int (iI (ke)), .int (iI (on)), .int (iI (tw))])), (bd 3, .inl (cZ, 8, .inl (iA (Ic))))] H := hP
          have hD : va_D AA [(bd 0, .inr (8, [.ref (bd 1), .ref (bd 2), .ref (bd 3), .ref (bd 4), .ref (bd 5), .ref (bd 6), .ref (bd 7), .int (iI (cn)), .ref (bd 8), .int (iI (mp)), .ref (bd 9), .int (iI (ty)), .int (iI (0)), .ref (bd 10), .ref (bd 11), .int (iI (sp)), .int (iI (ta)), .int (iI (ke)), .int (iI (on)), .int (iI (tw))])), (bd 3, .inl (cZ, 8, .inl (iA (Ic))))] := hD
          rw [show bI (gkI (1) (1) (1) = 0) = 1 from bI_t hth]
          refine z_if_ne (tgt := 50) hx hb dX8_drop_45 (by decide) ⟨by omega, by omega⟩ (fun c_35 => ?_) (fun c_35 => ?_)
          · refine lv_aload_n hx hb dX8_drop_50 rfl (lv_at hl 0 rfl) ?_
            refine va_get (D := D) (ci := 8) (v := .ref (bd 3)) (C := RX8) (T := TX8) (N := 20) hx hb hts (fun _ h => List.mem_cons_of_mem _ (List.mem_append_right _ (h))) hown hK.1 hP 0 rfl rfl 2 (by decide) (hts (.fieldLink RX8 17 "ForeignKeyStoreModel" "isConstraint" "[Z") (List.mem_of_getElem? (i := 2) rfl)) (fun _ h9 => h9) rfl dX8_drop_51 ?_
            refine lv_iconst (v := iI (2)) hx hb dX8_drop_54 rfl ?_
            refine lv_iload_n hx hb dX8_drop_55 rfl (lv_at hl 1 rfl) ?_
            refine z_imul hx hb dX8_drop_56 ?_
            refine lv_iload_n hx hb dX8_drop_57 rfl (lv_at hl 2 rfl) ?_
            refine z_iadd hx hb dX8_drop_58 ?_
            refine lv_iconst (v := iI (0)) hx hb dX8_drop_59 rfl ?_
            refine z_zast hx hb hK.1 hP hD hS 1 1 rfl rfl (by omega) (by decide) (by omega) dX8_drop_60 (fun H locs hP hD hS => ?_)
            have hP : va_P D vwCl [(bd 0, .inr (8, [.ref (bd 1), .ref (bd 2), .ref (bd 3), .ref (bd 4), .ref (bd 5), .ref (bd 6), .ref (bd 7), .int (iI (cn)), .ref (bd 8), .int (iI (mp)), .ref (bd 9), .int (iI (ty)), .int (iI (0)), .ref (bd 10), .ref (bd 11), .int (iI (sp)), .int (iI (ta)), .int (iI (ke)), .int (iI (on)), .int (iI (tw))])), (bd 3, .inl (cZ, 8, .inl (iA (uI (Ic) (((2 * t) + k)) (0)))))] H := hP
            have hD : va_D AA [(bd 0, .inr (8, [.ref (bd 1), .ref (bd 2), .ref (bd 3), .ref (bd 4), .ref (bd 5), .ref (bd 6), .ref (bd 7), .int (iI (cn)), .ref (bd 8), .int (iI (mp)), .ref (bd 9), .int (iI (ty)), .int (iI (0)), .ref (bd 10), .ref (bd 11), .int (iI (sp)), .int (iI (ta)), .int (iI (ke)), .int (iI (on)), .int (iI (tw))])), (bd 3, .inl (cZ, 8, .inl (iA (uI (Ic) (((2 * t) + k)) (0)))))] := hD
            refine lv_aload_n hx hb dX8_drop_61 rfl (lv_at hl 0 rfl) ?_
            have h_fin := rC_drop (k := 2 * t + k) g_C
            refine z_roV (As := []) (rest := []) ⟨hx, hb, hml, hown, hts⟩ (c_X8_manyConstraints l D cI cZ cC (bd) (cn) (mp) (ty) (0) (sp) (ta) (ke) (on) (tw) (uI (Ic) (((2 * t) + k)) (0)) (Pm) (Am) (Dm) (uI P (2 * t + k) (-2)) (uI Ac (2 * t + k) 1) (uI Mo (2 * t + k) 0) (h_fin)) (cwV 0 hts gX8_drop_X8_manyConstraints rfl rfl rfl (by decide +kernel) ⟨Nat.le_of_ble_eq_true rfl, Nat.le_of_ble_eq_true rfl⟩) hP hK [0, 1] rfl 0 8 rfl rfl rfl rfl hl.1 rfl (Nat.le_of_ble_eq_true rfl) dX8_drop_62 ⟨by omega, by omega⟩ ?_
            have hf_36 := sumN_b (fun i => bI_01 (¬ inP ((uI P (2 * t + k) (-2))) i = -2)) 8
            refine z_mret ((uI (Ic) (((2 * t) + k)) (0), 0)) hx hb hr hlocks dX8_drop_65 hP hD hS ?_
            rw [e20]
            refine ⟨by symm; first | (rw [goK_1 (by omega)]; done) | (rw [goK_2 (by omega) (by omega)]; done) | (rw [goK_3 (by omega) (by omega) (by omega)]; done) | (rw [goK_0 (by omega) (by omega) (by omega)]; done) | (rw [goK_0 (by omega) (by omega) trivial]; done), ⟨by omega, by omega⟩, fun _ => ⟨rfl, h_fin⟩, fun h => absurd rfl h⟩
          · exfalso
            omega

set_option maxHeartbeats 600000 in
set_option maxRecDepth 100000 in
theorem c_X8_setMode (l : Launch) (D : va_G) (cI cZ cC : ClassId) (sz : Nat) (bd : Nat → Nat) (cn mp ty th sp ta ke on tw : Int) (Ir Vm V : Int → Int) (Ic Pm Am Dm P Ac Mo : Int → Int) (t k d : Int) (g_R : rV Ir Vm V) (g_C : rC8 Ic Pm Am Dm P Ac Mo) (g_t : ib t) (g_k : ib k) (g_d : d = 0 ∨ d = 1) : zMi l yX8_setMode wsX8_setMode ({ frames := 3, cells := 0, slots := 0, locals := 69 }) D cI cZ cC [(bd 0, .inr (8, [.ref (bd 1), .ref (bd 2), .ref (bd 3), .ref (bd 4), .ref (bd 5), .ref (bd 6), .ref (bd 7), .int (iI (cn)), .ref (bd 8), .int (iI (mp)), .ref (bd 9), .int (iI (ty)), .int (iI (th)), .ref (bd 10), .ref (bd 11), .int (iI (sp)), .int (iI (ta)), .int (iI (ke)), .int (iI (on)), .int (iI (tw))])), (bd 1, .inl (cZ, 80, .inl (iA (Ir)))), (bd 2, .inl (cI, 160, .inl (iA (Vm)))), (bd 3, .inl (cZ, 8, .inl (iA (Ic)))), (bd 4, .inl (cI, 8, .inl (iA (Pm)))), (bd 6, .inl (cZ, 8, .inl (iA (Dm))))] sz [.ref (bd 0), .int (iI (t)), .int (iI (k)), .int (iI (d))] (0) (0) (fun (u : (Int → Int) × Int) => [(bd 0, .inr (8, [.ref (bd 1), .ref (bd 2), .ref (bd 3), .ref (bd 4), .ref (bd 5), .ref (bd 6), .ref (bd 7), .int (iI (cn)), .ref (bd 8), .int (iI (mp)), .ref (bd 9), .int (iI (ty)), .int (iI (u.2)), .ref (bd 10), .ref (bd 11), .int (iI (sp)), .int (iI (ta)), .int (iI (ke)), .int (iI (on)), .int (iI (tw))])), (bd 1, .inl (cZ, 80, .inl (iA (Ir)))), (bd 2, .inl (cI, 160, .inl (iA (Vm)))), (bd 3, .inl (cZ, 8, .inl (iA (Ic)))), (bd 4, .inl (cI, 8, .inl (iA (Pm)))), (bd 6, .inl (cZ, 8, .inl (iA (u.1))))]) (fun v (u : (Int → Int) × Int) => u.2 = goK (0 ≤ t ∧ t < 4 ∧ 0 ≤ k ∧ k < 2) (¬ inP P (t * 2 + k) = -2) (True) ∧ ib v ∧ ∃ Mo2 : Int → Int, (u.2 = 0 → (v, Mo2) = smF P Mo V (t * 2 + k) d) ∧ (¬ u.2 = 0 → Mo2 = Mo) ∧ rC8 Ic Pm Am u.1 P Ac Mo2) := by
  refine z_ofMi (cc := cX8_setMode) (maxL := 5) (ret := (some .int)) RX8 (by decide +kernel) rfl rfl (Nat.le_of_ble_eq_true rfl) ?_
  intro p0 en0 s0 m0 args0 below0 meth0 c0 ls AA hx hb hr hlocks hml hown hts hP hD hS hA hK hl
  have hl : lv_has ls 5 [(0, .ref (bd 0)), (1, .int (iI (t))), (2, .int (iI (k))), (3, .int (iI (d)))] := hl
  obtain ⟨H, hH⟩ : ∃ H, H = s0.heap := ⟨_, rfl⟩
  obtain ⟨locs, hlo⟩ : ∃ locs : List Loc, locs = [] := ⟨_, rfl⟩
  have hP : va_P D vwCl [(bd 0, .inr (8, [.ref (bd 1), .ref (bd 2), .ref (bd 3), .ref (bd 4), .ref (bd 5), .ref (bd 6), .ref (bd 7), .int (iI (cn)), .ref (bd 8), .int (iI (mp)), .ref (bd 9), .int (iI (ty)), .int (iI (th)), .ref (bd 10), .ref (bd 11), .int (iI (sp)), .int (iI (ta)), .int (iI (ke)), .int (iI (on)), .int (iI (tw))])), (bd 1, .inl (cZ, 80, .inl (iA (Ir)))), (bd 2, .inl (cI, 160, .inl (iA (Vm)))), (bd 3, .inl (cZ, 8, .inl (iA (Ic)))), (bd 4, .inl (cI, 8, .inl (iA (Pm)))), (bd 6, .inl (cZ, 8, .inl (iA (Dm))))] H := by rw [hH]; exact hP
  have hS : va_S AA s0.heap H locs := by rw [hH, hlo]; exact hS
  suffices hW : W p0 l en0 (headSpec wsX8_setMode ({ frames := 3, cells := 0, slots := 0, locals := 69 })).room s0 m0 args0 below0 meth0 c0 H locs 0 0 (QMi below0 D ((fun (u : (Int → Int) × Int) => [(bd 0, .inr (8, [.ref (bd 1), .ref (bd 2), .ref (bd 3), .ref (bd 4), .ref (bd 5), .ref (bd 6), .ref (bd 7), .int (iI (cn)), .ref (bd 8), .int (iI (mp)), .ref (bd 9), .int (iI (ty)), .int (iI (u.2)), .ref (bd 10), .ref (bd 11), .int (iI (sp)), .int (iI (ta)), .int (iI (ke)), .int (iI (on)), .int (iI (tw))])), (bd 1, .inl (cZ, 80, .inl (iA (Ir)))), (bd 2, .inl (cI, 160, .inl (iA (Vm)))), (bd 3, .inl (cZ, 8, .inl (iA (Ic)))), (bd 4, .inl (cI, 8, .inl (iA (Pm)))), (bd 6, .inl (cZ, 8, .inl (iA (u.1))))])) (fun v (u : (Int → Int) × Int) => u.2 = goK (0 ≤ t ∧ t < 4 ∧ 0 ≤ k ∧ k < 2) (¬ inP P (t * 2 + k) = -2) (True) ∧ ib v ∧ ∃ Mo2 : Int → Int, (u.2 = 0 → (v, Mo2) = smF P Mo V (t * 2 + k) d) ∧ (¬ u.2 = 0 → Mo2 = Mo) ∧ rC8 Ic Pm Am u.1 P Ac Mo2) AA args0 s0 (0) (0)) (F0 m0 0 ls []) by rw [hH, hlo] at hW; exact hW
  have e20 : t * 2 + k = 2 * t + k := by omega
  have h_kk := fun q : 0 ≤ t ∧ t < 4 ∧ 0 ≤ k ∧ k < 2 => rC_k g_C (k := 2 * t + k) (by omega)
  have g_Ic := rC_i g_C
  have g_Pm := rC_p g_C
  have g_Am := rC_a g_C
  have g_Dm := rC_d g_C
  refine lv_aload_n hx hb dX8_setMode_0 rfl (lv_at hl 0 rfl) ?_
  refine lv_iload_n hx hb dX8_setMode_1 rfl (lv_at hl 1 rfl) ?_
  refine z_roS (As := [.int (iI (t))]) (rest := [.ref (bd 0)]) ⟨hx, hb, hml, hown, hts⟩ (c_X8_isTable l D cI cZ cC (t) (by first | assumption | omega)) (va_cwS 1 hts gX8_setMode_X8_isTable rfl rfl rfl (by decide +kernel) ⟨Nat.le_of_ble_eq_true rfl, Nat.le_of_ble_eq_true rfl⟩) hP hK [] rfl rfl hl.1 rfl (Nat.le_of_ble_eq_true rfl) dX8_setMode_2 ⟨by omega, by omega⟩ ?_
  refine z_b_eq (tgt := 19) hx hb dX8_setMode_5 (by decide) (fun c_1 => ?_) (fun c_1 => ?_)
  · refine lv_iconst (v := iI (0)) hx hb dX8_setMode_19 rfl ?_
    refine lv_aload_n hx hb dX8_setMode_20 rfl (lv_at hl 0 rfl) ?_
    refine lv_iload_n hx hb dX8_setMode_21 rfl (lv_at hl 1 rfl) ?_
    refine lv_iload_n hx hb dX8_setMode_22 rfl (lv_at hl 2 rfl) ?_
    refine z_roV (As := [.int (iI (t)), .int (iI (k))]) (rest := [.int (iI (0)), .ref (bd 0)]) ⟨hx, hb, hml, hown, hts⟩ (c_X8_has l D cI cZ cC (bd) (cn) (mp) (ty) (th) (sp) (ta) (ke) (on) (tw) (Ic) (Pm) (Am) (Dm) (P) (Ac) (Mo) (t) (k) (by first | assumption | omega) (by first | assumption | omega) (by first | assumption | omega)) (cwV 2 hts gX8_setMode_X8_has rfl rfl rfl (by decide +kernel) ⟨Nat.le_of_ble_eq_true rfl, Nat.le_of_ble_eq_true rfl⟩) hP hK [0, 3] rfl 0 8 rfl rfl rfl rfl hl.1 rfl (Nat.le_of_ble_eq_true rfl) dX8_setMode_23 ⟨by omega, by omega⟩ ?_
    refine lv_iconst (v := iI (1)) hx hb dX8_setMode_26 rfl ?_
    by_cases c_2 : ((0 ≤ t ∧ t ≤ 3 ∧ (k = 0 ∨ k = 1)) ∧ ¬ inP P (2 * t + k) = -2)
    · rw [bI_t c_2]
      refine z_muV (As := [.int (iI (0)), .int (iI (1)), .int (iI (1))]) (rest := []) (wr := [(bd 1, .inl (cZ, 80, .inl (iA (Ir)))), (bd 2, .inl (cI, 160, .inl (iA (Vm)))), (bd 3, .inl (cZ, 8, .inl (iA (Ic)))), (bd 4, .inl (cI, 8, .inl (iA (Pm)))), (bd 6, .inl (cZ, 8, .inl (iA (Dm))))]) (ws2 := (fun (u : Unit) => [(bd 0, .inr (8, [.ref (bd 1), .ref (bd 2), .ref (bd 3), .ref (bd 4), .ref (bd 5), .ref (bd 6), .ref (bd 7), .int (iI (cn)), .ref (bd 8), .int (iI (mp)), .ref (bd 9), .int (iI (ty)), .int (iI (gkI 0 1 1)), .ref (bd 10), .ref (bd 11), .int (iI (sp)), .int (iI (ta)), .int (iI (ke)), .int (iI (on)), .int (iI (tw))])), (bd 1, .inl (cZ, 80, .inl (iA (Ir)))), (bd 2, .inl (cI, 160, .inl (iA (Vm)))), (bd 3, .inl (cZ, 8, .inl (iA (Ic)))), (bd 4, .inl (cI, 8, .inl (iA (Pm)))), (bd 6, .inl (cZ, 8, .inl (iA (Dm))))])) ⟨hx, hb, hml, hown, hts⟩ (c_X8_goes l D cI cZ cC H.size (bd) (cn) (mp) (ty) (th) (sp) (ta) (ke) (on) (tw) (0) (1) (1) (by first | assumption | omega) (by first | assumption | omega) (by first | assumption | omega)) (cwV 3 hts gX8_setMode_X8_goes rfl rfl rfl (by decide +kernel) ⟨Nat.le_of_ble_eq_true rfl, Nat.le_of_ble_eq_true rfl⟩) hP hD hS hA hK [0] [1, 2, 3, 4, 5] [5, 0, 1, 2, 3, 4] rfl (by decide) rfl (by decide) (by decide) (by decide) (fun _ => rfl) 0 8 rfl rfl rfl rfl hl.1 rfl (Nat.le_of_ble_eq_true rfl) dX8_setMode_27 ⟨by omega, by omega⟩ (fun r_4 u H locs hq_3 hP hD hS => ?_)
      have hP : va_P D vwCl [(bd 0, .inr (8, [.ref (bd 1), .ref (bd 2), .ref (bd 3), .ref (bd 4), .ref (bd 5), .ref (bd 6), .ref (bd 7), .int (iI (cn)), .ref (bd 8), .int (iI (mp)), .ref (bd 9), .int (iI (ty)), .int (iI (gkI 0 1 1)), .ref (bd 10), .ref (bd 11), .int (iI (sp)), .int (iI (ta)), .int (iI (ke)), .int (iI (on)), .int (iI (tw))])), (bd 1, .inl (cZ, 80, .inl (iA (Ir)))), (bd 2, .inl (cI, 160, .inl (iA (Vm)))), (bd 3, .inl (cZ, 8, .inl (iA (Ic)))), (bd 4, .inl (cI, 8, .inl (iA (Pm)))), (bd 6, .inl (cZ, 8, .inl (iA (Dm))))] H := hP
      have hD : va_D AA [(bd 0, .inr (8, [.ref (bd 1), .ref (bd 2), .ref (bd 3), .ref (bd 4), .ref (bd 5), .ref (bd 6), .ref (bd 7), .int (iI (cn)), .ref (bd 8), .int (iI (mp)), .ref (bd 9), .int (iI (ty)), .int (iI (gkI 0 1 1)), .ref (bd 10), .ref (bd 11), .int (iI (sp)), .int (iI (ta)), .int (iI (ke)), .int (iI (on)), .int (iI (tw))])), (bd 1, .inl (cZ, 80, .inl (iA (Ir)))), (bd 2, .inl (cI, 160, .inl (iA (Vm)))), (bd 3, .inl (cZ, 8, .inl (iA (Ic)))), (bd 4, .inl (cI, 8, .inl (iA (Pm)))), (bd 6, .inl (cZ, 8, .inl (iA (Dm))))] := hD
      try dsimp only at hq_3
      obtain ⟨hv9, hq_3⟩ := hq_3
      have hv9 := hv9.symm
      subst hv9
      have hth : gkI (0) (1) (1) = 1 := rfl
      rw [hth] at hP hD
      have hP : va_P D vwCl [(bd 0, .inr (8, [.ref (bd 1), .ref (bd 2), .ref (bd 3), .ref (bd 4), .ref (bd 5), .ref (bd 6), .ref (bd 7), .int (iI (cn)), .ref (bd 8), .int (iI (mp)), .ref (bd 9), .int (iI (ty)), .int (iI (1)), .ref (bd 10), .ref (bd 11), .int (iI (sp)), .int (iI (ta)), .int (iI (ke)), .int (iI (on)), .int (iI (tw))])), (bd 1, .inl (cZ, 80, .inl (iA (Ir)))), (bd 2, .inl (cI, 160, .inl (iA (Vm)))), (bd 3, .inl (cZ, 8, .inl (iA (Ic)))), (bd 4, .inl (cI, 8, .inl (iA (Pm)))), (bd 6, .inl (cZ, 8, .inl (iA (Dm))))] H := hP
      have hD : va_D AA [(bd 0, .inr (8, [.ref (bd 1), .ref (bd 2), .ref (bd 3), .ref (bd 4), .ref (bd 5), .ref (bd 6), .ref (bd 7), .int (iI (cn)), .ref (bd 8), .int (iI (mp)), .ref (bd 9), .int (iI (ty)), .int (iI (1)), .ref (bd 10), .ref (bd 11), .int (iI (sp)), .int (iI (ta)), .int (iI (ke)), .int (iI (on)), .int (iI (tw))])), (bd 1, .inl (cZ, 80, .inl (iA (Ir)))), (bd 2, .inl (cI, 160, .inl (iA (Vm)))), (bd 3, .inl (cZ, 8, .inl (iA (Ic)))), (bd 4, .inl (cI, 8, .inl (iA (Pm)))), (bd 6, .inl (cZ, 8, .inl (iA (Dm))))] := hD
      rw [show bI (gkI (0) (1) (1) = 0) = 0 from bI_f (by rw [hth]; decide)]
      refine z_if_ne (tgt := 35) hx hb dX8_setMode_30 (by decide) ⟨by omega, by omega⟩ (fun c_5 => ?_) (fun c_5 => ?_)
      · exfalso
        omega
      · refine lv_iconst (v := iI (0)) hx hb dX8_setMode_33 rfl ?_
        refine z_mret ((Dm, 1)) hx hb hr hlocks dX8_setMode_34 hP hD hS ?_
        rw [e20]
        refine ⟨by symm; first | (rw [goK_1 (by omega)]; done) | (rw [goK_2 (by omega) (by omega)]; done) | (rw [goK_3 (by omega) (by omega) (by omega)]; done) | (rw [goK_0 (by omega) (by omega) (by omega)]; done) | (rw [goK_0 (by omega) (by omega) trivial]; done), ⟨by omega, by omega⟩, Mo, fun h => absurd h (by show ¬ (1 : Int) = 0; decide), fun _ => rfl, g_C⟩
    · rw [bI_f c_2]
      refine z_muV (As := [.int (iI (0)), .int (iI (0)), .int (iI (1))]) (rest := []) (wr := [(bd 1, .inl (cZ, 80, .inl (iA (Ir)))), (bd 2, .inl (cI, 160, .inl (iA (Vm)))), (bd 3, .inl (cZ, 8, .inl (iA (Ic)))), (bd 4, .inl (cI, 8, .inl (iA (Pm)))), (bd 6, .inl (cZ, 8, .inl (iA (Dm))))]) (ws2 := (fun (u : Unit) => [(bd 0, .inr (8, [.ref (bd 1), .ref (bd 2), .ref (bd 3), .ref (bd 4), .ref (bd 5), .ref (bd 6), .ref (bd 7), .int (iI (cn)), .ref (bd 8), .int (iI (mp)), .ref (bd 9), .int (iI (ty)), .int (iI (gkI 0 0 1)), .ref (bd 10), .ref (bd 11), .int (iI (sp)), .int (iI (ta)), .int (iI (ke)), .int (iI (on)), .int (iI (tw))])), (bd 1, .inl (cZ, 80, .inl (iA (Ir)))), (bd 2, .inl (cI, 160, .inl (iA (Vm)))), (bd 3, .inl (cZ, 8, .inl (iA (Ic)))), (bd 4, .inl (cI, 8, .inl (iA (Pm)))), (bd 6, .inl (cZ, 8, .inl (iA (Dm))))])) ⟨hx, hb, hml, hown, hts⟩ (c_X8_goes l D cI cZ cC H.size (bd) (cn) (mp) (ty) (th) (sp) (ta) (ke) (on) (tw) (0) (0) (1) (by first | assumption | omega) (by first | assumption | omega) (by first | assumption | omega)) (cwV 3 hts gX8_setMode_X8_goes rfl rfl rfl (by decide +kernel) ⟨Nat.le_of_ble_eq_true rfl, Nat.le_of_ble_eq_true rfl⟩) hP hD hS hA hK [0] [1, 2, 3, 4, 5] [5, 0, 1, 2, 3, 4] rfl (by decide) rfl (by decide) (by decide) (by decide) (fun _ => rfl) 0 8 rfl rfl rfl rfl hl.1 rfl (Nat.le_of_ble_eq_true rfl) dX8_setMode_27 ⟨by omega, by omega⟩ (fun r_7 u H locs hq_6 hP hD hS => ?_)
      have hP : va_P D vwCl [(bd 0, .inr (8, [.ref (bd 1), .ref (bd 2), .ref (bd 3), .ref (bd 4), .ref (bd 5), .ref (bd 6), .ref (bd 7), .int (iI (cn)), .ref (bd 8), .int (iI (mp)), .ref (bd 9), .int (iI (ty)), .int (iI (gkI 0 0 1)), .ref (bd 10), .ref (bd 11), .int (iI (sp)), .int (iI (ta)), .int (iI (ke)), .int (iI (on)), .int (iI (tw))])), (bd 1, .inl (cZ, 80, .inl (iA (Ir)))), (bd 2, .inl (cI, 160, .inl (iA (Vm)))), (bd 3, .inl (cZ, 8, .inl (iA (Ic)))), (bd 4, .inl (cI, 8, .inl (iA (Pm)))), (bd 6, .inl (cZ, 8, .inl (iA (Dm))))] H := hP
      have hD : va_D AA [(bd 0, .inr (8, [.ref (bd 1), .ref (bd 2), .ref (bd 3), .ref (bd 4), .ref (bd 5), .ref (bd 6), .ref (bd 7), .int (iI (cn)), .ref (bd 8), .int (iI (mp)), .ref (bd 9), .int (iI (ty)), .int (iI (gkI 0 0 1)), .ref (bd 10), .ref (bd 11), .int (iI (sp)), .int (iI (ta)), .int (iI (ke)), .int (iI (on)), .int (iI (tw))])), (bd 1, .inl (cZ, 80, .inl (iA (Ir)))), (bd 2, .inl (cI, 160, .inl (iA (Vm)))), (bd 3, .inl (cZ, 8, .inl (iA (Ic)))), (bd 4, .inl (cI, 8, .inl (iA (Pm)))), (bd 6, .inl (cZ, 8, .inl (iA (Dm))))] := hD
      try dsimp only at hq_6
      obtain ⟨hv9, hq_6⟩ := hq_6
      have hv9 := hv9.symm
      subst hv9
      have hth : gkI (0) (0) (1) = 1 := rfl
      rw [hth] at hP hD
      have hP : va_P D vwCl [(bd 0, .inr (8, [.ref (bd 1), .ref (bd 2), .ref (bd 3), .ref (bd 4), .ref (bd 5), .ref (bd 6), .ref (bd 7), .int (iI (cn)), .ref (bd 8), .int (iI (mp)), .ref (bd 9), .int (iI (ty)), .int (iI (1)), .ref (bd 10), .ref (bd 11), .int (iI (sp)), .int (iI (ta)), .int (iI (ke)), .int (iI (on)), .int (iI (tw))])), (bd 1, .inl (cZ, 80, .inl (iA (Ir)))), (bd 2, .inl (cI, 160, .inl (iA (Vm)))), (bd 3, .inl (cZ, 8, .inl (iA (Ic)))), (bd 4, .inl (cI, 8, .inl (iA (Pm)))), (bd 6, .inl (cZ, 8, .inl (iA (Dm))))] H := hP
      have hD : va_D AA [(bd 0, .inr (8, [.ref (bd 1), .ref (bd 2), .ref (bd 3), .ref (bd 4), .ref (bd 5), .ref (bd 6), .ref (bd 7), .int (iI (cn)), .ref (bd 8), .int (iI (mp)), .ref (bd 9), .int (iI (ty)), .int (iI (1)), .ref (bd 10), .ref (bd 11), .int (iI (sp)), .int (iI (ta)), .int (iI (ke)), .int (iI (on)), .int (iI (tw))])), (bd 1, .inl (cZ, 80, .inl (iA (Ir)))), (bd 2, .inl (cI, 160, .inl (iA (Vm)))), (bd 3, .inl (cZ, 8, .inl (iA (Ic)))), (bd 4, .inl (cI, 8, .inl (iA (Pm)))), (bd 6, .inl (cZ, 8, .inl (iA (Dm))))] := hD
      rw [show bI (gkI (0) (0) (1) = 0) = 0 from bI_f (by rw [hth]; decide)]
      refine z_if_ne (tgt := 35) hx hb dX8_setMode_30 (by decide) ⟨by omega, by omega⟩ (fun c_8 => ?_) (fun c_8 => ?_)
      · exfalso
        omega
      · refine lv_iconst (v := iI (0)) hx hb dX8_setMode_33 rfl ?_
        refine z_mret ((Dm, 1)) hx hb hr hlocks dX8_setMode_34 hP hD hS ?_
        rw [e20]
        refine ⟨by symm; first | (rw [goK_1 (by omega)]; done) | (rw [goK_2 (by omega) (by omega)]; done) | (rw [goK_3 (by omega) (by omega) (by omega)]; done) | (rw [goK_0 (by omega) (by omega) (by omega)]; done) | (rw [goK_0 (by omega) (by omega) trivial]; done), ⟨by omega, by omega⟩, Mo, fun h => absurd h (by show ¬ (1 : Int) = 0; decide), fun _ => rfl, g_C⟩
  · refine lv_iload_n hx hb dX8_setMode_8 rfl (lv_at hl 2 rfl) ?_
    refine z_roS (As := [.int (iI (k))]) (rest := [.ref (bd 0)]) ⟨hx, hb, hml, hown, hts⟩ (c_X8_isColumn l D cI cZ cC (k) (by first | assumption | omega)) (va_cwS 1 hts gX8_setMode_X8_isColumn rfl rfl rfl (by decide +kernel) ⟨Nat.le_of_ble_eq_true rfl, Nat.le_of_ble_eq_true rfl⟩) hP hK [] rfl rfl hl.1 rfl (Nat.le_of_ble_eq_true rfl) dX8_setMode_9 ⟨by omega, by omega⟩ ?_
    refine z_b_eq (tgt := 19) hx hb dX8_setMode_12 (by decide) (fun c_9 => ?_) (fun c_9 => ?_)
    · refine lv_iconst (v := iI (0)) hx hb dX8_setMode_19 rfl ?_
      refine lv_aload_n hx hb dX8_setMode_20 rfl (lv_at hl 0 rfl) ?_
      refine lv_iload_n hx hb dX8_setMode_21 rfl (lv_at hl 1 rfl) ?_
      refine lv_iload_n hx hb dX8_setMode_22 rfl (lv_at hl 2 rfl) ?_
      refine z_roV (As := [.int (iI (t)), .int (iI (k))]) (rest := [.int (iI (0)), .ref (bd 0)]) ⟨hx, hb, hml, hown, hts⟩ (c_X8_has l D cI cZ cC (bd) (cn) (mp) (ty) (th) (sp) (ta) (ke) (on) (tw) (Ic) (Pm) (Am) (Dm) (P) (Ac) (Mo) (t) (k) (by first | assumption | omega) (by first | assumption | omega) (by first | assumption | omega)) (cwV 2 hts gX8_setMode_X8_has rfl rfl rfl (by decide +kernel) ⟨Nat.le_of_ble_eq_true rfl, Nat.le_of_ble_eq_true rfl⟩) hP hK [0, 3] rfl 0 8 rfl rfl rfl rfl hl.1 rfl (Nat.le_of_ble_eq_true rfl) dX8_setMode_23 ⟨by omega, by omega⟩ ?_
      refine lv_iconst (v := iI (1)) hx hb dX8_setMode_26 rfl ?_
      by_cases c_10 : ((0 ≤ t ∧ t ≤ 3 ∧ (k = 0 ∨ k = 1)) ∧ ¬ inP P (2 * t + k) = -2)
      · rw [bI_t c_10]
        refine z_muV (As := [.int (iI (0)), .int (iI (1)), .int (iI (1))]) (rest := []) (wr := [(bd 1, .inl (cZ, 80, .inl (iA (Ir)))), (bd 2, .inl (cI, 160, .inl (iA (Vm)))), (bd 3, .inl (cZ, 8, .inl (iA (Ic)))), (bd 4, .inl (cI, 8, .inl (iA (Pm)))), (bd 6, .inl (cZ, 8, .inl (iA (Dm))))]) (ws2 := (fun (u : Unit) => [(bd 0, .inr (8, [.ref (bd 1), .ref (bd 2), .ref (bd 3), .ref (bd 4), .ref (bd 5), .ref (bd 6), .ref (bd 7), .int (iI (cn)), .ref (bd 8), .int (iI (mp)), .ref (bd 9), .int (iI (ty)), .int (iI (gkI 0 1 1)), .ref (bd 10), .ref (bd 11), .int (iI (sp)), .int (iI (ta)), .int (iI (ke)), .int (iI (on)), .int (iI (tw))])), (bd 1, .inl (cZ, 80, .inl (iA (Ir)))), (bd 2, .inl (cI, 160, .inl (iA (Vm)))), (bd 3, .inl (cZ, 8, .inl (iA (Ic)))), (bd 4, .inl (cI, 8, .inl (iA (Pm)))), (bd 6, .inl (cZ, 8, .inl (iA (Dm))))])) ⟨hx, hb, hml, hown, hts⟩ (c_X8_goes l D cI cZ cC H.size (bd) (cn) (mp) (ty) (th) (sp) (ta) (ke) (on) (tw) (0) (1) (1) (by first | assumption | omega) (by first | assumption | omega) (by first | assumption | omega)) (cwV 3 hts gX8_setMode_X8_goes rfl rfl rfl (by decide +kernel) ⟨Nat.le_of_ble_eq_true rfl, Nat.le_of_ble_eq_true rfl⟩) hP hD hS hA hK [0] [1, 2, 3, 4, 5] [5, 0, 1, 2, 3, 4] rfl (by decide) rfl (by decide) (by decide) (by decide) (fun _ => rfl) 0 8 rfl rfl rfl rfl hl.1 rfl (Nat.le_of_ble_eq_true rfl) dX8_setMode_27 ⟨by omega, by omega⟩ (fun r_12 u H locs hq_11 hP hD hS => ?_)
        have hP : va_P D vwCl [(bd 0, .inr (8, [.ref (bd 1), .ref (bd 2), .ref (bd 3), .ref (bd 4), .ref (bd 5), .ref (bd 6), .ref (bd 7), .int (iI (cn)), .ref (bd 8), .int (iI (mp)), .ref (bd 9), .int (iI (ty)), .int (iI (gkI 0 1 1)), .ref (bd 10), .ref (bd 11), .int (iI (sp)), .int (iI (ta)), .int (iI (ke)), .int (iI (on)), .int (iI (tw))])), (bd 1, .inl (cZ, 80, .inl (iA (Ir)))), (bd 2, .inl (cI, 160, .inl (iA (Vm)))), (bd 3, .inl (cZ, 8, .inl (iA (Ic)))), (bd 4, .inl (cI, 8, .inl (iA (Pm)))), (bd 6, .inl (cZ, 8, .inl (iA (Dm))))] H := hP
        have hD : va_D AA [(bd 0, .inr (8, [.ref (bd 1), .ref (bd 2), .ref (bd 3), .ref (bd 4), .ref (bd 5), .ref (bd 6), .ref (bd 7), .int (iI (cn)), .ref (bd 8), .int (iI (mp)), .ref (bd 9), .int (iI (ty)), .int (iI (gkI 0 1 1)), .ref (bd 10), .ref (bd 11), .int (iI (sp)), .int (iI (ta)), .int (iI (ke)), .int (iI (on)), .int (iI (tw))])), (bd 1, .inl (cZ, 80, .inl (iA (Ir)))), (bd 2, .inl (cI, 160, .inl (iA (Vm)))), (bd 3, .inl (cZ, 8, .inl (iA (Ic)))), (bd 4, .inl (cI, 8, .inl (iA (Pm)))), (bd 6, .inl (cZ, 8, .inl (iA (Dm))))] := hD
        try dsimp only at hq_11
        obtain ⟨hv9, hq_11⟩ := hq_11
        have hv9 := hv9.symm
        subst hv9
        have hth : gkI (0) (1) (1) = 1 := rfl
        rw [hth] at hP hD
        have hP : va_P D vwCl [(bd 0, .inr (8, [.ref (bd 1), .ref (bd 2), .ref (bd 3), .ref (bd 4), .ref (bd 5), .ref (bd 6), .ref (bd 7), .int (iI (cn)), .ref (bd 8), .int (iI (mp)), .ref (bd 9), .int (iI (ty)), .int (iI (1)), .ref (bd 10), .ref (bd 11), .int (iI (sp)), .int (iI (ta)), .int (iI (ke)), .int (iI (on)), .int (iI (tw))])), (bd 1, .inl (cZ, 80, .inl (iA (Ir)))), (bd 2, .inl (cI, 160, .inl (iA (Vm)))), (bd 3, .inl (cZ, 8, .inl (iA (Ic)))), (bd 4, .inl (cI, 8, .inl (iA (Pm)))), (bd 6, .inl (cZ, 8, .inl (iA (Dm))))] H := hP
        have hD : va_D AA [(bd 0, .inr (8, [.ref (bd 1), .ref (bd 2), .ref (bd 3), .ref (bd 4), .ref (bd 5), .ref (bd 6), .ref (bd 7), .int (iI (cn)), .ref (bd 8), .int (iI (mp)), .ref (bd 9), .int (iI (ty)), .int (iI (1)), .ref (bd 10), .ref (bd 11), .int (iI (sp)), .int (iI (ta)), .int (iI (ke)), .int (iI (on)), .int (iI (tw))])), (bd 1, .inl (cZ, 80, .inl (iA (Ir)))), (bd 2, .inl (cI, 160, .inl (iA (Vm)))), (bd 3, .inl (cZ, 8, .inl (iA (Ic)))), (bd 4, .inl (cI, 8, .inl (iA (Pm)))), (bd 6, .inl (cZ, 8, .inl (iA (Dm))))] := hD
        rw [show bI (gkI (0) (1) (1) = 0) = 0 from bI_f (by rw [hth]; decide)]
        refine z_if_ne (tgt := 35) hx hb dX8_setMode_30 (by decide) ⟨by omega, by omega⟩ (fun c_13 => ?_) (fun c_13 => ?_)
        · exfalso
          omega
        · refine lv_iconst (v := iI (0)) hx hb dX8_setMode_33 rfl ?_
          refine z_mret ((Dm, 1)) hx hb hr hlocks dX8_setMode_34 hP hD hS ?_
          rw [e20]
          refine ⟨by symm; first | (rw [goK_1 (by omega)]; done) | (rw [goK_2 (by omega) (by omega)]; done) | (rw [goK_3 (by omega) (by omega) (by omega)]; done) | (rw [goK_0 (by omega) (by omega) (by omega)]; done) | (rw [goK_0 (by omega) (by omega) trivial]; done), ⟨by omega, by omega⟩, Mo, fun h => absurd h (by show ¬ (1 : Int) = 0; decide), fun _ => rfl, g_C⟩
      · rw [bI_f c_10]
        refine z_muV (As := [.int (iI (0)), .int (iI (0)), .int (iI (1))]) (rest := []) (wr := [(bd 1, .inl (cZ, 80, .inl (iA (Ir)))), (bd 2, .inl (cI, 160, .inl (iA (Vm)))), (bd 3, .inl (cZ, 8, .inl (iA (Ic)))), (bd 4, .inl (cI, 8, .inl (iA (Pm)))), (bd 6, .inl (cZ, 8, .inl (iA (Dm))))]) (ws2 := (fun (u : Unit) => [(bd 0, .inr (8, [.ref (bd 1), .ref (bd 2), .ref (bd 3), .ref (bd 4), .ref (bd 5), .ref (bd 6), .ref (bd 7), .int (iI (cn)), .ref (bd 8), .int (iI (mp)), .ref (bd 9), .int (iI (ty)), .int (iI (gkI 0 0 1)), .ref (bd 10), .ref (bd 11), .int (iI (sp)), .int (iI (ta)), .int (iI (ke)), .int (iI (on)), .int (iI (tw))])), (bd 1, .inl (cZ, 80, .inl (iA (Ir)))), (bd 2, .inl (cI, 160, .inl (iA (Vm)))), (bd 3, .inl (cZ, 8, .inl (iA (Ic)))), (bd 4, .inl (cI, 8, .inl (iA (Pm)))), (bd 6, .inl (cZ, 8, .inl (iA (Dm))))])) ⟨hx, hb, hml, hown, hts⟩ (c_X8_goes l D cI cZ cC H.size (bd) (cn) (mp) (ty) (th) (sp) (ta) (ke) (on) (tw) (0) (0) (1) (by first | assumption | omega) (by first | assumption | omega) (by first | assumption | omega)) (cwV 3 hts gX8_setMode_X8_goes rfl rfl rfl (by decide +kernel) ⟨Nat.le_of_ble_eq_true rfl, Nat.le_of_ble_eq_true rfl⟩) hP hD hS hA hK [0] [1, 2, 3, 4, 5] [5, 0, 1, 2, 3, 4] rfl (by decide) rfl (by decide) (by decide) (by decide) (fun _ => rfl) 0 8 rfl rfl rfl rfl hl.1 rfl (Nat.le_of_ble_eq_true rfl) dX8_setMode_27 ⟨by omega, by omega⟩ (fun r_15 u H locs hq_14 hP hD hS => ?_)
        have hP : va_P D vwCl [(bd 0, .inr (8, [.ref (bd 1), .ref (bd 2), .ref (bd 3), .ref (bd 4), .ref (bd 5), .ref (bd 6), .ref (bd 7), .int (iI (cn)), .ref (bd 8), .int (iI (mp)), .ref (bd 9), .int (iI (ty)), .int (iI (gkI 0 0 1)), .ref (bd 10), .ref (bd 11), .int (iI (sp)), .int (iI (ta)), .int (iI (ke)), .int (iI (on)), .int (iI (tw))])), (bd 1, .inl (cZ, 80, .inl (iA (Ir)))), (bd 2, .inl (cI, 160, .inl (iA (Vm)))), (bd 3, .inl (cZ, 8, .inl (iA (Ic)))), (bd 4, .inl (cI, 8, .inl (iA (Pm)))), (bd 6, .inl (cZ, 8, .inl (iA (Dm))))] H := hP
        have hD : va_D AA [(bd 0, .inr (8, [.ref (bd 1), .ref (bd 2), .ref (bd 3), .ref (bd 4), .ref (bd 5), .ref (bd 6), .ref (bd 7), .int (iI (cn)), .ref (bd 8), .int (iI (mp)), .ref (bd 9), .int (iI (ty)), .int (iI (gkI 0 0 1)), .ref (bd 10), .ref (bd 11), .int (iI (sp)), .int (iI (ta)), .int (iI (ke)), .int (iI (on)), .int (iI (tw))])), (bd 1, .inl (cZ, 80, .inl (iA (Ir)))), (bd 2, .inl (cI, 160, .inl (iA (Vm)))), (bd 3, .inl (cZ, 8, .inl (iA (Ic)))), (bd 4, .inl (cI, 8, .inl (iA (Pm)))), (bd 6, .inl (cZ, 8, .inl (iA (Dm))))] := hD
        try dsimp only at hq_14
        obtain ⟨hv9, hq_14⟩ := hq_14
        have hv9 := hv9.symm
        subst hv9
        have hth : gkI (0) (0) (1) = 1 := rfl
        rw [hth] at hP hD
        have hP : va_P D vwCl [(bd 0, .inr (8, [.ref (bd 1), .ref (bd 2), .ref (bd 3), .ref (bd 4), .ref (bd 5), .ref (bd 6), .ref (bd 7), .int (iI (cn)), .ref (bd 8), .int (iI (mp)), .ref (bd 9), .int (iI (ty)), .int (iI (1)), .ref (bd 10), .ref (bd 11), .int (iI (sp)), .int (iI (ta)), .int (iI (ke)), .int (iI (on)), .int (iI (tw))])), (bd 1, .inl (cZ, 80, .inl (iA (Ir)))), (bd 2, .inl (cI, 160, .inl (iA (Vm)))), (bd 3, .inl (cZ, 8, .inl (iA (Ic)))), (bd 4, .inl (cI, 8, .inl (iA (Pm)))), (bd 6, .inl (cZ, 8, .inl (iA (Dm))))] H := hP
        have hD : va_D AA [(bd 0, .inr (8, [.ref (bd 1), .ref (bd 2), .ref (bd 3), .ref (bd 4), .ref (bd 5), .ref (bd 6), .ref (bd 7), .int (iI (cn)), .ref (bd 8), .int (iI (mp)), .ref (bd 9), .int (iI (ty)), .int (iI (1)), .ref (bd 10), .ref (bd 11), .int (iI (sp)), .int (iI (ta)), .int (iI (ke)), .int (iI (on)), .int (iI (tw))])), (bd 1, .inl (cZ, 80, .inl (iA (Ir)))), (bd 2, .inl (cI, 160, .inl (iA (Vm)))), (bd 3, .inl (cZ, 8, .inl (iA (Ic)))), (bd 4, .inl (cI, 8, .inl (iA (Pm)))), (bd 6, .inl (cZ, 8, .inl (iA (Dm))))] := hD
        rw [show bI (gkI (0) (0) (1) = 0) = 0 from bI_f (by rw [hth]; decide)]
        refine z_if_ne (tgt := 35) hx hb dX8_setMode_30 (by decide) ⟨by omega, by omega⟩ (fun c_16 => ?_) (fun c_16 => ?_)
        · exfalso
          omega
        · refine lv_iconst (v := iI (0)) hx hb dX8_setMode_33 rfl ?_
          refine z_mret ((Dm, 1)) hx hb hr hlocks dX8_setMode_34 hP hD hS ?_
          rw [e20]
          refine ⟨by symm; first | (rw [goK_1 (by omega)]; done) | (rw [goK_2 (by omega) (by omega)]; done) | (rw [goK_3 (by omega) (by omega) (by omega)]; done) | (rw [goK_0 (by omega) (by omega) (by omega)]; done) | (rw [goK_0 (by omega) (by omega) trivial]; done), ⟨by omega, by omega⟩, Mo, fun h => absurd h (by show ¬ (1 : Int) = 0; decide), fun _ => rfl, g_C⟩
    · refine lv_iconst (v := iI (1)) hx hb dX8_setMode_15 rfl ?_
      refine lv_goto (tgt := 20) hx hb dX8_setMode_16 (by decide) ?_
      refine lv_aload_n hx hb dX8_setMode_20 rfl (lv_at hl 0 rfl) ?_
      refine lv_iload_n hx hb dX8_setMode_21 rfl (lv_at hl 1 rfl) ?_
      refine lv_iload_n hx hb dX8_setMode_22 rfl (lv_at hl 2 rfl) ?_
      refine z_roV (As := [.int (iI (t)), .int (iI (k))]) (rest := [.int (iI (1)), .ref (bd 0)]) ⟨hx, hb, hml, hown, hts⟩ (c_X8_has l D cI cZ cC (bd) (cn) (mp) (ty) (th) (sp) (ta) (ke) (on) (tw) (Ic) (Pm) (Am) (Dm) (P) (Ac) (Mo) (t) (k) (by first | assumption | omega) (by first | assumption | omega) (by first | assumption | omega)) (cwV 2 hts gX8_setMode_X8_has rfl rfl rfl (by decide +kernel) ⟨Nat.le_of_ble_eq_true rfl, Nat.le_of_ble_eq_true rfl⟩) hP hK [0, 3] rfl 0 8 rfl rfl rfl rfl hl.1 rfl (Nat.le_of_ble_eq_true rfl) dX8_setMode_23 ⟨by omega, by omega⟩ ?_
      refine lv_iconst (v := iI (1)) hx hb dX8_setMode_26 rfl ?_
      by_cases c_17 : ((0 ≤ t ∧ t ≤ 3 ∧ (k = 0 ∨ k = 1)) ∧ ¬ inP P (2 * t + k) = -2)
      · rw [bI_t c_17]
        refine z_muV (As := [.int (iI (1)), .int (iI (1)), .int (iI (1))]) (rest := []) (wr := [(bd 1, .inl (cZ, 80, .inl (iA (Ir)))), (bd 2, .inl (cI, 160, .inl (iA (Vm)))), (bd 3, .inl (cZ, 8, .inl (iA (Ic)))), (bd 4, .inl (cI, 8, .inl (iA (Pm)))), (bd 6, .inl (cZ, 8, .inl (iA (Dm))))]) (ws2 := (fun (u : Unit) => [(bd 0, .inr (8, [.ref (bd 1), .ref (bd 2), .ref (bd 3), .ref (bd 4), .ref (bd 5), .ref (bd 6), .ref (bd 7), .int (iI (cn)), .ref (bd 8), .int (iI (mp)), .ref (bd 9), .int (iI (ty)), .int (iI (gkI 1 1 1)), .ref (bd 10), .ref (bd 11), .int (iI (sp)), .int (iI (ta)), .int (iI (ke)), .int (iI (on)), .int (iI (tw))])), (bd 1, .inl (cZ, 80, .inl (iA (Ir)))), (bd 2, .inl (cI, 160, .inl (iA (Vm)))), (bd 3, .inl (cZ, 8, .inl (iA (Ic)))), (bd 4, .inl (cI, 8, .inl (iA (Pm)))), (bd 6, .inl (cZ, 8, .inl (iA (Dm))))])) ⟨hx, hb, hml, hown, hts⟩ (c_X8_goes l D cI cZ cC H.size (bd) (cn) (mp) (ty) (th) (sp) (ta) (ke) (on) (tw) (1) (1) (1) (by first | assumption | omega) (by first | assumption | omega) (by first | assumption | omega)) (cwV 3 hts gX8_setMode_X8_goes rfl rfl rfl (by decide +kernel) ⟨Nat.le_of_ble_eq_true rfl, Nat.le_of_ble_eq_true rfl⟩) hP hD hS hA hK [0] [1, 2, 3, 4, 5] [5, 0, 1, 2, 3, 4] rfl (by decide) rfl (by decide) (by decide) (by decide) (fun _ => rfl) 0 8 rfl rfl rfl rfl hl.1 rfl (Nat.le_of_ble_eq_true rfl) dX8_setMode_27 ⟨by omega, by omega⟩ (fun r_19 u H locs hq_18 hP hD hS => ?_)
        have hP : va_P D vwCl [(bd 0, .inr (8, [.ref (bd 1), .ref (bd 2), .ref (bd 3), .ref (bd 4), .ref (bd 5), .ref (bd 6), .ref (bd 7), .int (iI (cn)), .ref (bd 8), .int (iI (mp)), .ref (bd 9), .int (iI (ty)), .int (iI (gkI 1 1 1)), .ref (bd 10), .ref (bd 11), .int (iI (sp)), .int (iI (ta)), .int (iI (ke)), .int (iI (on)), .int (iI (tw))])), (bd 1, .inl (cZ, 80, .inl (iA (Ir)))), (bd 2, .inl (cI, 160, .inl (iA (Vm)))), (bd 3, .inl (cZ, 8, .inl (iA (Ic)))), (bd 4, .inl (cI, 8, .inl (iA (Pm)))), (bd 6, .inl (cZ, 8, .inl (iA (Dm))))] H := hP
        have hD : va_D AA [(bd 0, .inr (8, [.ref (bd 1), .ref (bd 2), .ref (bd 3), .ref (bd 4), .ref (bd 5), .ref (bd 6), .ref (bd 7), .int (iI (cn)), .ref (bd 8), .int (iI (mp)), .ref (bd 9), .int (iI (ty)), .int (iI (gkI 1 1 1)), .ref (bd 10), .ref (bd 11), .int (iI (sp)), .int (iI (ta)), .int (iI (ke)), .int (iI (on)), .int (iI (tw))])), (bd 1, .inl (cZ, 80, .inl (iA (Ir)))), (bd 2, .inl (cI, 160, .inl (iA (Vm)))), (bd 3, .inl (cZ, 8, .inl (iA (Ic)))), (bd 4, .inl (cI, 8, .inl (iA (Pm)))), (bd 6, .inl (cZ, 8, .inl (iA (Dm))))] := hD
        try dsimp only at hq_18
        obtain ⟨hv9, hq_18⟩ := hq_18
        have hv9 := hv9.symm
        subst hv9
        have hth : gkI (1) (1) (1) = 0 := rfl
        rw [hth] at hP hD
        have hP : va_P D vwCl [(bd 0, .inr (8, [.ref (bd 1), .ref (bd 2), .ref (bd 3), .ref (bd 4), .ref (bd 5), .ref (bd 6), .ref (bd 7), .int (iI (cn)), .ref (bd 8), .int (iI (mp)), .ref (bd 9), .int (iI (ty)), .int (iI (0)), .ref (bd 10), .ref (bd 11), .int (iI (sp)), .int (iI (ta)), .int (iI (ke)), .int (iI (on)), .int (iI (tw))])), (bd 1, .inl (cZ, 80, .inl (iA (Ir)))), (bd 2, .inl (cI, 160, .inl (iA (Vm)))), (bd 3, .inl (cZ, 8, .inl (iA (Ic)))), (bd 4, .inl (cI, 8, .inl (iA (Pm)))), (bd 6, .inl (cZ, 8, .inl (iA (Dm))))] H := hP
        have hD : va_D AA [(bd 0, .inr (8, [.ref (bd 1), .ref (bd 2), .ref (bd 3), .ref (bd 4), .ref (bd 5), .ref (bd 6), .ref (bd 7), .int (iI (cn)), .ref (bd 8), .int (iI (mp)), .ref (bd 9), .int (iI (ty)), .int (iI (0)), .ref (bd 10), .ref (bd 11), .int (iI (sp)), .int (iI (ta)), .int (iI (ke)), .int (iI (on)), .int (iI (tw))])), (bd 1, .inl (cZ, 80, .inl (iA (Ir)))), (bd 2, .inl (cI, 160, .inl (iA (Vm)))), (bd 3, .inl (cZ, 8, .inl (iA (Ic)))), (bd 4, .inl (cI, 8, .inl (iA (Pm)))), (bd 6, .inl (cZ, 8, .inl (iA (Dm))))] := hD
        rw [show bI (gkI (1) (1) (1) = 0) = 1 from bI_t hth]
        refine z_if_ne (tgt := 35) hx hb dX8_setMode_30 (by decide) ⟨by omega, by omega⟩ (fun c_20 => ?_) (fun c_20 => ?_)
        · refine lv_iconst (v := iI (2)) hx hb dX8_setMode_35 rfl ?_
          refine lv_iload_n hx hb dX8_setMode_36 rfl (lv_at hl 1 rfl) ?_
          refine z_imul hx hb dX8_setMode_37 ?_
          refine lv_iload_n hx hb dX8_setMode_38 rfl (lv_at hl 2 rfl) ?_
          refine z_iadd hx hb dX8_setMode_39 ?_
          refine lv_istore (lv' := [(4, .int (iI (((2 * t) + k)))), (0, .ref (bd 0)), (1, .int (iI (t))), (2, .int (iI (k))), (3, .int (iI (d)))]) hx hb dX8_setMode_40 hl (by decide) rfl (fun ls hl => ?_)
          refine lv_aload_n hx hb dX8_setMode_42 rfl (lv_at hl 1 rfl) ?_
          refine va_get (D := D) (ci := 8) (v := .ref (bd 6)) (C := RX8) (T := TX8) (N := 20) hx hb hts (fun _ h => List.mem_cons_of_mem _ (List.mem_append_right _ (h))) hown hK.1 hP 0 rfl rfl 5 (by decide) (hts (.fieldLink RX8 26 "ForeignKeyStoreModel" "isDeferred" "[Z") (List.mem_of_getElem? (i := 1) rfl)) (fun _ h9 => h9) rfl dX8_setMode_43 ?_
          refine lv_iload hx hb dX8_setMode_46 (lv_at hl 0 rfl) ?_
          refine z_zald hx hb hK.1 hP 5 1 rfl rfl (by omega) (by decide) dX8_setMode_48 ?_
          have hb_21 := g_Dm (((2 * t) + k)) (by omega) (by omega)
          refine lv_iload_n hx hb dX8_setMode_49 rfl (lv_at hl 4 rfl) ?_
          refine z_icmp_ne (tgt := 55) hx hb dX8_setMode_50 (by decide) ⟨⟨by omega, by omega⟩, ⟨by omega, by omega⟩⟩ (fun c_22 => ?_) (fun c_22 => ?_)
          · refine lv_iload_n hx hb dX8_setMode_55 rfl (lv_at hl 4 rfl) ?_
            refine z_if_ne (tgt := 74) hx hb dX8_setMode_56 (by decide) ⟨by omega, by omega⟩ (fun c_23 => ?_) (fun c_23 => ?_)
            · refine lv_aload_n hx hb dX8_setMode_74 rfl (lv_at hl 1 rfl) ?_
              refine va_get (D := D) (ci := 8) (v := .ref (bd 6)) (C := RX8) (T := TX8) (N := 20) hx hb hts (fun _ h => List.mem_cons_of_mem _ (List.mem_append_right _ (h))) hown hK.1 hP 0 rfl rfl 5 (by decide) (hts (.fieldLink RX8 26 "ForeignKeyStoreModel" "isDeferred" "[Z") (List.mem_of_getElem? (i := 1) rfl)) (fun _ h9 => h9) rfl dX8_setMode_75 ?_
              refine lv_iload hx hb dX8_setMode_78 (lv_at hl 0 rfl) ?_
              refine lv_iload_n hx hb dX8_setMode_80 rfl (lv_at hl 4 rfl) ?_
              refine z_zast hx hb hK.1 hP hD hS 5 1 rfl rfl (by omega) (by decide) (by omega) dX8_setMode_81 (fun H locs hP hD hS => ?_)
              have hP : va_P D vwCl [(bd 0, .inr (8, [.ref (bd 1), .ref (bd 2), .ref (bd 3), .ref (bd 4), .ref (bd 5), .ref (bd 6), .ref (bd 7), .int (iI (cn)), .ref (bd 8), .int (iI (mp)), .ref (bd 9), .int (iI (ty)), .int (iI (0)), .ref (bd 10), .ref (bd 11), .int (iI (sp)), .int (iI (ta)), .int (iI (ke)), .int (iI (on)), .int (iI (tw))])), (bd 1, .inl (cZ, 80, .inl (iA (Ir)))), (bd 2, .inl (cI, 160, .inl (iA (Vm)))), (bd 3, .inl (cZ, 8, .inl (iA (Ic)))), (bd 4, .inl (cI, 8, .inl (iA (Pm)))), (bd 6, .inl (cZ, 8, .inl (iA (uI (Dm) (((2 * t) + k)) (d)))))] H := hP
              have hD : va_D AA [(bd 0, .inr (8, [.ref (bd 1), .ref (bd 2), .ref (bd 3), .ref (bd 4), .ref (bd 5), .ref (bd 6), .ref (bd 7), .int (iI (cn)), .ref (bd 8), .int (iI (mp)), .ref (bd 9), .int (iI (ty)), .int (iI (0)), .ref (bd 10), .ref (bd 11), .int (iI (sp)), .int (iI (ta)), .int (iI (ke)), .int (iI (on)), .int (iI (tw))])), (bd 1, .inl (cZ, 80, .inl (iA (Ir)))), (bd 2, .inl (cI, 160, .inl (iA (Vm)))), (bd 3, .inl (cZ, 8, .inl (iA (Ic)))), (bd 4, .inl (cI, 8, .inl (iA (Pm)))), (bd 6, .inl (cZ, 8, .inl (iA (uI (Dm) (((2 * t) + k)) (d)))))] := hD
              refine lv_iconst (v := iI (1)) hx hb dX8_setMode_82 rfl ?_
              refine z_mret ((uI (Dm) (((2 * t) + k)) (d), 0)) hx hb hr hlocks dX8_setMode_83 hP hD hS ?_
              rw [e20]
              refine ⟨by symm; first | (rw [goK_1 (by omega)]; done) | (rw [goK_2 (by omega) (by omega)]; done) | (rw [goK_3 (by omega) (by omega) (by omega)]; done) | (rw [goK_0 (by omega) (by omega) (by omega)]; done) | (rw [goK_0 (by omega) (by omega) trivial]; done), ⟨by omega, by omega⟩, uI Mo (2 * t + k) d, fun _ => ?_, fun h => absurd rfl h, rC_mode g_C g_d⟩
              have h_k9 := h_kk (by omega)
              have h_b1 : bI (¬ Mo (2 * t + k) = 0) = Dm (2 * t + k) := by
                rcases g_Dm (2 * t + k) (by omega) (by omega) with h | h
                · rw [bI_f (by omega), h]
                · rw [bI_t (by omega), h]
              unfold smF
              rw [h_b1]
              rw [if_neg (show ¬ Dm (2 * t + k) = d by omega), if_neg (show ¬ (d = 0 ∧ 0 < vio V (2 * t + k) (inP P (2 * t + k))) by omega)]
            · refine lv_aload_n hx hb dX8_setMode_59 rfl (lv_at hl 1 rfl) ?_
              refine lv_iload hx hb dX8_setMode_60 (lv_at hl 0 rfl) ?_
              refine z_roV (As := [.int (iI (((2 * t) + k)))]) (rest := []) ⟨hx, hb, hml, hown, hts⟩ (c_X8_violations l D cI cZ cC (bd) (cn) (mp) (ty) (0) (sp) (ta) (ke) (on) (tw) (Ir) (Vm) (V) (Ic) (Pm) (Am) (Dm) (P) (Ac) (Mo) (((2 * t) + k)) (by first | assumption | omega) (by first | assumption | omega) (by first | assumption | omega)) (cwV 1 hts gX8_setMode_X8_violations rfl rfl rfl (by decide +kernel) ⟨Nat.le_of_ble_eq_true rfl, Nat.le_of_ble_eq_true rfl⟩) hP hK [0, 1, 2, 3, 4] rfl 0 8 rfl rfl rfl rfl hl.1 rfl (Nat.le_of_ble_eq_true rfl) dX8_setMode_62 ⟨by omega, by omega⟩ ?_
              have hf_24 := vio_b V ((((2 * t) + k))) (inP P ((((2 * t) + k))))
              refine z_if_le (tgt := 74) hx hb dX8_setMode_65 (by decide) ⟨by omega, by omega⟩ (fun c_25 => ?_) (fun c_25 => ?_)
              · refine lv_aload_n hx hb dX8_setMode_74 rfl (lv_at hl 1 rfl) ?_
                refine va_get (D := D) (ci := 8) (v := .ref (bd 6)) (C := RX8) (T := TX8) (N := 20) hx hb hts (fun _ h => List.mem_cons_of_mem _ (List.mem_append_right _ (h))) hown hK.1 hP 0 rfl rfl 5 (by decide) (hts (.fieldLink RX8 26 "ForeignKeyStoreModel" "isDeferred" "[Z") (List.mem_of_getElem? (i := 1) rfl)) (fun _ h9 => h9) rfl dX8_setMode_75 ?_
                refine lv_iload hx hb dX8_setMode_78 (lv_at hl 0 rfl) ?_
                refine lv_iload_n hx hb dX8_setMode_80 rfl (lv_at hl 4 rfl) ?_
                refine z_zast hx hb hK.1 hP hD hS 5 1 rfl rfl (by omega) (by decide) (by omega) dX8_setMode_81 (fun H locs hP hD hS => ?_)
                have hP : va_P D vwCl [(bd 0, .inr (8, [.ref (bd 1), .ref (bd 2), .ref (bd 3), .ref (bd 4), .ref (bd 5), .ref (bd 6), .ref (bd 7), .int (iI (cn)), .ref (bd 8), .int (iI (mp)), .ref (bd 9), .int (iI (ty)), .int (iI (0)), .ref (bd 10), .ref (bd 11), .int (iI (sp)), .int (iI (ta)), .int (iI (ke)), .int (iI (on)), .int (iI (tw))])), (bd 1, .inl (cZ, 80, .inl (iA (Ir)))), (bd 2, .inl (cI, 160, .inl (iA (Vm)))), (bd 3, .inl (cZ, 8, .inl (iA (Ic)))), (bd 4, .inl (cI, 8, .inl (iA (Pm)))), (bd 6, .inl (cZ, 8, .inl (iA (uI (Dm) (((2 * t) + k)) (d)))))] H := hP
                have hD : va_D AA [(bd 0, .inr (8, [.ref (bd 1), .ref (bd 2), .ref (bd 3), .ref (bd 4), .ref (bd 5), .ref (bd 6), .ref (bd 7), .int (iI (cn)), .ref (bd 8), .int (iI (mp)), .ref (bd 9), .int (iI (ty)), .int (iI (0)), .ref (bd 10), .ref (bd 11), .int (iI (sp)), .int (iI (ta)), .int (iI (ke)), .int (iI (on)), .int (iI (tw))])), (bd 1, .inl (cZ, 80, .inl (iA (Ir)))), (bd 2, .inl (cI, 160, .inl (iA (Vm)))), (bd 3, .inl (cZ, 8, .inl (iA (Ic)))), (bd 4, .inl (cI, 8, .inl (iA (Pm)))), (bd 6, .inl (cZ, 8, .inl (iA (uI (Dm) (((2 * t) + k)) (d)))))] := hD
                refine lv_iconst (v := iI (1)) hx hb dX8_setMode_82 rfl ?_
                refine z_mret ((uI (Dm) (((2 * t) + k)) (d), 0)) hx hb hr hlocks dX8_setMode_83 hP hD hS ?_
                rw [e20]
                refine ⟨by symm; first | (rw [goK_1 (by omega)]; done) | (rw [goK_2 (by omega) (by omega)]; done) | (rw [goK_3 (by omega) (by omega) (by omega)]; done) | (rw [goK_0 (by omega) (by omega) (by omega)]; done) | (rw [goK_0 (by omega) (by omega) trivial]; done), ⟨by omega, by omega⟩, uI Mo (2 * t + k) d, fun _ => ?_, fun h => absurd rfl h, rC_mode g_C g_d⟩
                have h_k9 := h_kk (by omega)
                have h_b1 : bI (¬ Mo (2 * t + k) = 0) = Dm (2 * t + k) := by
                  rcases g_Dm (2 * t + k) (by omega) (by omega) with h | h
                  · rw [bI_f (by omega), h]
                  · rw [bI_t (by omega), h]
                unfold smF
                rw [h_b1]
                rw [if_neg (show ¬ Dm (2 * t + k) = d by omega), if_neg (show ¬ (d = 0 ∧ 0 < vio V (2 * t + k) (inP P (2 * t + k))) by omega)]
              · refine lv_iload hx hb dX8_setMode_68 (lv_at hl 0 rfl) ?_
                refine z_roS (As := [.int (iI (((2 * t) + k)))]) (rest := []) ⟨hx, hb, hml, hown, hts⟩ (c_X8_code l D cI cZ cC (((2 * t) + k)) ) (va_cwS 1 hts gX8_setMode_X8_code rfl rfl rfl (by decide +kernel) ⟨Nat.le_of_ble_eq_true rfl, Nat.le_of_ble_eq_true rfl⟩) hP hK [] rfl rfl hl.1 rfl (Nat.le_of_ble_eq_true rfl) dX8_setMode_70 ⟨by omega, by omega⟩ ?_
                refine z_mret ((Dm, 0)) hx hb hr hlocks dX8_setMode_73 hP hD hS ?_
                rw [e20]
                refine ⟨by symm; first | (rw [goK_1 (by omega)]; done) | (rw [goK_2 (by omega) (by omega)]; done) | (rw [goK_3 (by omega) (by omega) (by omega)]; done) | (rw [goK_0 (by omega) (by omega) (by omega)]; done) | (rw [goK_0 (by omega) (by omega) trivial]; done), ⟨by omega, by omega⟩, Mo, fun _ => ?_, fun h => absurd rfl h, g_C⟩
                have h_k9 := h_kk (by omega)
                have h_b1 : bI (¬ Mo (2 * t + k) = 0) = Dm (2 * t + k) := by
                  rcases g_Dm (2 * t + k) (by omega) (by omega) with h | h
                  · rw [bI_f (by omega), h]
                  · rw [bI_t (by omega), h]
                unfold smF
                rw [h_b1]
                rw [if_neg (show ¬ Dm (2 * t + k) = d by omega), if_pos (show d = 0 ∧ 0 < vio V (2 * t + k) (inP P (2 * t + k)) by omega)]
          · refine lv_iconst (v := iI (0)) hx hb dX8_setMode_53 rfl ?_
            refine z_mret ((Dm, 0)) hx hb hr hlocks dX8_setMode_54 hP hD hS ?_
            rw [e20]
            refine ⟨by symm; first | (rw [goK_1 (by omega)]; done) | (rw [goK_2 (by omega) (by omega)]; done) | (rw [goK_3 (by omega) (by omega) (by omega)]; done) | (rw [goK_0 (by omega) (by omega) (by omega)]; done) | (rw [goK_0 (by omega) (by omega) trivial]; done), ⟨by omega, by omega⟩, Mo, fun _ => ?_, fun h => absurd rfl h, g_C⟩
            have h_k9 := h_kk (by omega)
            have h_b1 : bI (¬ Mo (2 * t + k) = 0) = Dm (2 * t + k) := by
              rcases g_Dm (2 * t + k) (by omega) (by omega) with h | h
              · rw [bI_f (by omega), h]
              · rw [bI_t (by omega), h]
            unfold smF
            rw [h_b1]
            rw [if_pos (show Dm (2 * t + k) = d by omega)]
        · exfalso
          omega
      · rw [bI_f c_17]
        refine z_muV (As := [.int (iI (1)), .int (iI (0)), .int (iI (1))]) (rest := []) (wr := [(bd 1, .inl (cZ, 80, .inl (iA (Ir)))), (bd 2, .inl (cI, 160, .inl (iA (Vm)))), (bd 3, .inl (cZ, 8, .inl (iA (Ic)))), (bd 4, .inl (cI, 8, .inl (iA (Pm)))), (bd 6, .inl (cZ, 8, .inl (iA (Dm))))]) (ws2 := (fun (u : Unit) => [(bd 0, .inr (8, [.ref (bd 1), .ref (bd 2), .ref (bd 3), .ref (bd 4), .ref (bd 5), .ref (bd 6), .ref (bd 7), .int (iI (cn)), .ref (bd 8), .int (iI (mp)), .ref (bd 9), .int (iI (ty)), .int (iI (gkI 1 0 1)), .ref (bd 10), .ref (bd 11), .int (iI (sp)), .int (iI (ta)), .int (iI (ke)), .int (iI (on)), .int (iI (tw))])), (bd 1, .inl (cZ, 80, .inl (iA (Ir)))), (bd 2, .inl (cI, 160, .inl (iA (Vm)))), (bd 3, .inl (cZ, 8, .inl (iA (Ic)))), (bd 4, .inl (cI, 8, .inl (iA (Pm)))), (bd 6, .inl (cZ, 8, .inl (iA (Dm))))])) ⟨hx, hb, hml, hown, hts⟩ (c_X8_goes l D cI cZ cC H.size (bd) (cn) (mp) (ty) (th) (sp) (ta) (ke) (on) (tw) (1) (0) (1) (by first | assumption | omega) (by first | assumption | omega) (by first | assumption | omega)) (cwV 3 hts gX8_setMode_X8_goes rfl rfl rfl (by decide +kernel) ⟨Nat.le_of_ble_eq_true rfl, Nat.le_of_ble_eq_true rfl⟩) hP hD hS hA hK [0] [1, 2, 3, 4, 5] [5, 0, 1, 2, 3, 4] rfl (by decide) rfl (by decide) (by decide) (by decide) (fun _ => rfl) 0 8 rfl rfl rfl rfl hl.1 rfl (Nat.le_of_ble_eq_true rfl) dX8_setMode_27 ⟨by omega, by omega⟩ (fun r_27 u H locs hq_26 hP hD hS => ?_)
        have hP : va_P D vwCl [(bd 0, .inr (8, [.ref (bd 1), .ref (bd 2), .ref (bd 3), .ref (bd 4), .ref (bd 5), .ref (bd 6), .ref (bd 7), .int (iI (cn)), .ref (bd 8), .int (iI (mp)), .ref (bd 9), .int (iI (ty)), .int (iI (gkI 1 0 1)), .ref (bd 10), .ref (bd 11), .int (iI (sp)), .int (iI (ta)), .int (iI (ke)), .int (iI (on)), .int (iI (tw))])), (bd 1, .inl (cZ, 80, .inl (iA (Ir)))), (bd 2, .inl (cI, 160, .inl (iA (Vm)))), (bd 3, .inl (cZ, 8, .inl (iA (Ic)))), (bd 4, .inl (cI, 8, .inl (iA (Pm)))), (bd 6, .inl (cZ, 8, .inl (iA (Dm))))] H := hP
        have hD : va_D AA [(bd 0, .inr (8, [.ref (bd 1), .ref (bd 2), .ref (bd 3), .ref (bd 4), .ref (bd 5), .ref (bd 6), .ref (bd 7), .int (iI (cn)), .ref (bd 8), .int (iI (mp)), .ref (bd 9), .int (iI (ty)), .int (iI (gkI 1 0 1)), .ref (bd 10), .ref (bd 11), .int (iI (sp)), .int (iI (ta)), .int (iI (ke)), .int (iI (on)), .int (iI (tw))])), (bd 1, .inl (cZ, 80, .inl (iA (Ir)))), (bd 2, .inl (cI, 160, .inl (iA (Vm)))), (bd 3, .inl (cZ, 8, .inl (iA (Ic)))), (bd 4, .inl (cI, 8, .inl (iA (Pm)))), (bd 6, .inl (cZ, 8, .inl (iA (Dm))))] := hD
        try dsimp only at hq_26
        obtain ⟨hv9, hq_26⟩ := hq_26
        have hv9 := hv9.symm
        subst hv9
        have hth : gkI (1) (0) (1) = 2 := rfl
        rw [hth] at hP hD
        have hP : va_P D vwCl [(bd 0, .inr (8, [.ref (bd 1), .ref (bd 2), .ref (bd 3), .ref (bd 4), .ref (bd 5), .ref (bd 6), .ref (bd 7), .int (iI (cn)), .ref (bd 8), .int (iI (mp)), .ref (bd 9), .int (iI (ty)), .int (iI (2)), .ref (bd 10), .ref (bd 11), .int (iI (sp)), .int (iI (ta)), .int (iI (ke)), .int (iI (on)), .int (iI (tw))])), (bd 1, .inl (cZ, 80, .inl (iA (Ir)))), (bd 2, .inl (cI, 160, .inl (iA (Vm)))), (bd 3, .inl (cZ, 8, .inl (iA (Ic)))), (bd 4, .inl (cI, 8, .inl (iA (Pm)))), (bd 6, .inl (cZ, 8, .inl (iA (Dm))))] H := hP
        have hD : va_D AA [(bd 0, .inr (8, [.ref (bd 1), .ref (bd 2), .ref (bd 3), .ref (bd 4), .ref (bd 5), .ref (bd 6), .ref (bd 7), .int (iI (cn)), .ref (bd 8), .int (iI (mp)), .ref (bd 9), .int (iI (ty)), .int (iI (2)), .ref (bd 10), .ref (bd 11), .int (iI (sp)), .int (iI (ta)), .int (iI (ke)), .int (iI (on)), .int (iI (tw))])), (bd 1, .inl (cZ, 80, .inl (iA (Ir)))), (bd 2, .inl (cI, 160, .inl (iA (Vm)))), (bd 3, .inl (cZ, 8, .inl (iA (Ic)))), (bd 4, .inl (cI, 8, .inl (iA (Pm)))), (bd 6, .inl (cZ, 8, .inl (iA (Dm))))] := hD
        rw [show bI (gkI (1) (0) (1) = 0) = 0 from bI_f (by rw [hth]; decide)]
        refine z_if_ne (tgt := 35) hx hb dX8_setMode_30 (by decide) ⟨by omega, by omega⟩ (fun c_28 => ?_) (fun c_28 => ?_)
        · exfalso
          omega
        · refine lv_iconst (v := iI (0)) hx hb dX8_setMode_33 rfl ?_
          refine z_mret ((Dm, 2)) hx hb hr hlocks dX8_setMode_34 hP hD hS ?_
          rw [e20]
          refine ⟨by symm; first | (rw [goK_1 (by omega)]; done) | (rw [goK_2 (by omega) (by omega)]; done) | (rw [goK_3 (by omega) (by omega) (by omega)]; done) | (rw [goK_0 (by omega) (by omega) (by omega)]; done) | (rw [goK_0 (by omega) (by omega) trivial]; done), ⟨by omega, by omega⟩, Mo, fun h => absurd h (by show ¬ (2 : Int) = 0; decide), fun _ => rfl, g_C⟩

