/-- a statement's end, as the model has it -/
noncomputable def edF (P Mo V : Int → Int) (lg : Lg) (bf t : Int) : Int × (Int → Int) × Lg := if enC P Mo V t = 0 then (t, V, lg) else (enC P Mo V t, unL (unS (lg.length : Int) bf) V lg)
theorem ed_stm {P Mo V V1 : Int → Int} {lg lg1 : Lg} {bf t : Int} (h : extL V lg V1 lg1) (hb : bf = (lg.length : Int)) : edF P Mo V1 lg1 bf t = stmF P Mo V lg V1 lg1 t := by
  obtain ⟨k, h1, h2⟩ := h
  unfold edF stmF
  by_cases q : enC P Mo V1 t = 0
  · rw [if_pos q, if_pos q]
  · rw [if_neg q, if_neg q, show unS (lg1.length : Int) bf = k by unfold unS; omega, h2]
/-- the rows of the model's queue -/
def isMQ (Qs : List Int) (Qm : Int → Int) (ql : Int) : Prop := ql = (Qs.length : Int) ∧ (∀ i : Nat, i < Qs.length → Qm (i : Int) = Qs.getD i 0) ∧ (∀ x ∈ Qs, 0 ≤ x ∧ x < 80) ∧ Qs.Nodup
def abQ (V : Int → Int) (Qs : List Int) (pl : Nat) : Prop := ∀ i : Nat, i < pl → i < Qs.length → V (Qs.getD i 0 * 2) = -2
theorem isMQ_len {Qs : List Int} {Qm : Int → Int} {ql : Int} (h : isMQ Qs Qm ql) : 0 ≤ ql ∧ ql ≤ 80 := by
  have h1 := nodup_len 80 Qs h.2.2.2 (fun x hx => h.2.2.1 x hx)
  have := h.1
  omega
theorem getD_mem {Qs : List Int} {i : Nat} (h : i < Qs.length) : Qs.getD i 0 ∈ Qs := by
  rw [List.getD_eq_getElem?_getD, List.getElem?_eq_getElem h]
  exact List.getElem_mem h
theorem isMQ_at {Qs : List Int} {Qm : Int → Int} {ql : Int} (h : isMQ Qs Qm ql) {i : Nat} (hi : (i : Int) < ql) : Qm (i : Int) = Qs.getD i 0 ∧ 0 ≤ Qm (i : Int) ∧ Qm (i : Int) < 80 := by
  have h1 : i < Qs.length := by have := h.1; omega
  have h2 := h.2.1 i h1
  have h3 := h.2.2.1 _ (getD_mem h1)
  rw [h2]
  exact ⟨rfl, h3.1, h3.2⟩
theorem isMQ_lt {Qs : List Int} {Qm : Int → Int} {ql x : Int} (h : isMQ Qs Qm ql) (hx : 0 ≤ x ∧ x < 80) (hn : x ∉ Qs) : ql < 80 := by
  have h1 := nodup_len 80 (x :: Qs) (List.nodup_cons.2 ⟨hn, h.2.2.2⟩) (fun y hy => by
    rcases List.mem_cons.1 hy with e | e
    · rw [e]; exact hx
    · exact h.2.2.1 y e)
  simp at h1
  have := h.1
  omega
theorem isMQ_no {Qs : List Int} {Qm V : Int → Int} {ql x fr : Int} {pl : Nat} (h : isMQ Qs Qm ql) (ha : abQ V Qs pl) (hf : fr = (pl : Int)) (hx : ¬ V (x * 2) = -2) (hn : ∀ j : Int, fr ≤ j → j < ql → ¬ Qm j = x) : x ∉ Qs := fun q => by
  obtain ⟨i, h1, h2⟩ := List.getElem_of_mem q
  have e : Qs.getD i 0 = x := by rw [List.getD_eq_getElem?_getD, List.getElem?_eq_getElem h1]; exact h2
  have hl := h.1
  by_cases w : i < pl
  · have := ha i w h1
    rw [e] at this
    exact hx this
  · refine hn (i : Int) (by omega) (by omega) ?_
    rw [h.2.1 i h1, e]
theorem isMQ_add {Qs : List Int} {Qm Q2 V : Int → Int} {ql x fr v : Int} {pl : Nat} (h : isMQ Qs Qm ql) (ha : abQ V Qs pl) (hf : fr = (pl : Int)) (hr : 0 ≤ x ∧ x < 80) (hx : ¬ V (x * 2) = -2) (hq : (v = 0 ∧ Q2 = Qm ∧ ∃ j : Int, fr ≤ j ∧ j < ql ∧ Qm j = x) ∨ (v = 1 ∧ Q2 = uI Qm ql x ∧ ∀ j : Int, fr ≤ j → j < ql → ¬ Qm j = x)) : isMQ (addL Qs x) Q2 (ql + v) := by
  have hl := h.1
  rcases hq with ⟨rfl, rfl, j, h1, h2, h3⟩ | ⟨rfl, rfl, h1⟩
  · have h4 : x ∈ Qs := by
      have h5 : j.toNat < Qs.length := by omega
      have h6 := h.2.1 j.toNat h5
      rw [Int.toNat_of_nonneg (by omega), h3] at h6
      rw [h6]
      exact getD_mem h5
    rw [show addL Qs x = Qs from if_pos h4, Int.add_zero]
    exact h
  · have h2 := isMQ_no h ha hf hx h1
    rw [show addL Qs x = Qs ++ [x] from if_neg h2]
    refine ⟨by simp; omega, fun i hi => ?_, fun y hy => ?_, ?_⟩
    · simp at hi
      unfold uI
      by_cases w : i < Qs.length
      · rw [if_neg (by omega), h.2.1 i w, List.getD_eq_getElem?_getD, List.getD_eq_getElem?_getD, List.getElem?_append_left w]
      · rw [if_pos (by omega), show i = Qs.length by omega]
        simp
    · rcases List.mem_append.1 hy with e | e
      · exact h.2.2.1 y e
      · rw [List.mem_singleton.1 e]; exact hr
    · rw [List.nodup_append]
      refine ⟨h.2.2.2, by simp, fun a ha b hb e => ?_⟩
      rw [List.mem_singleton.1 hb] at e
      rw [e] at ha
      exact h2 ha
theorem abQ_add {V : Int → Int} {Qs : List Int} {pl : Nat} {r : Int} (g : abQ V Qs pl) (hp : pl ≤ Qs.length) : abQ V (addL Qs r) pl := by
  intro i h1 h2
  have h3 : i < Qs.length := by omega
  unfold addL
  split
  · exact g i h1 h3
  · rw [List.getD_eq_getElem?_getD, List.getElem?_append_left h3, ← List.getD_eq_getElem?_getD]
    exact g i h1 h3
theorem addL_len (Qs : List Int) (r : Int) : Qs.length ≤ (addL Qs r).length := by
  unfold addL
  split
  · exact Nat.le_refl _
  · simp
theorem abQ_null {V : Int → Int} {Qs : List Int} {pl : Nat} {r c : Int} (g : abQ V Qs pl) (hr : 0 ≤ r ∧ r < 80) (h : ¬ V (r * 2) = -2) : abQ (wcV V r c (-1)) Qs pl := by
  intro i h1 h2
  have h3 := g i h1 h2
  rw [wcV_eq hr, wrV_o (by intro e; exact h (by rw [← e]; exact h3)) (by omega)]
  exact h3
theorem abQ_erase {V : Int → Int} {Qs : List Int} {pl : Nat} (g : abQ V Qs pl) : abQ (wrV V (Qs.getD pl 0) (-2) (-2)) Qs (pl + 1) := by
  intro i h1 h2
  by_cases e : Qs.getD i 0 * 2 = Qs.getD pl 0 * 2
  · rw [e, wrV_l]
  · rw [wrV_o e (by omega)]
    refine g i ?_ h2
    refine Classical.byContradiction fun q => e ?_
    rw [show i = pl by omega]
theorem tgm_x {P V : Int → Int} {k x : Int} {j : Nat} (h : x = k / 2 * 20 + (j : Int)) (hj : j < 20) : tgm P V k x = tgt P V k (k / 2 * 20 + (j : Int)) := by
  rw [h]
  exact if_pos (by omega)
theorem isMQ_all {Qs : List Int} {Qm : Int → Int} {ql : Int} (h : isMQ Qs Qm ql) : ∀ j : Int, 0 ≤ j → j < ql → 0 ≤ Qm j ∧ Qm j < 80 := fun j h1 h2 => by
  have h3 := isMQ_at h (i := j.toNat) (by omega)
  rw [Int.toNat_of_nonneg h1] at h3
  exact h3.2
theorem isMQ_1 {Qm : Int → Int} {r : Int} (hr : 0 ≤ r ∧ r < 80) : isMQ [r] (uI Qm 0 r) 1 := by
  refine ⟨rfl, fun i hi => ?_, fun x hx => ?_, by simp⟩
  · have e : i = 0 := by simp at hi; omega
    subst e
    exact if_pos rfl
  · rw [List.mem_singleton.1 hx]; exact hr
theorem tgt_p {P V : Int → Int} {k r t : Int} (h : tgt P V k r = t) (ht : 0 ≤ t) : ¬ inP P k = -2 := fun q => by
  unfold tgt at h
  rw [if_pos (Or.inl q)] at h
  omega

set_option maxHeartbeats 600000 in
set_option maxRecDepth 100000 in
theorem c_X8_ends (l : Launch) (D : va_G) (cI cZ cC : ClassId) (sz : Nat) (bd : Nat → Nat) (cn mp ty th sp ta ke on tw : Int) (Ir Vm Lm V : Int → Int) (Ic Pm Am Dm P Ac Mo : Int → Int) (lg : Lg) (bf t : Int) (g_R : rV Ir Vm V) (g_C : rC8 Ic Pm Am Dm P Ac Mo) (g_M : isM lg Lm cn) (g_cn : cn ≤ 16384) (g_bf : 0 ≤ bf ∧ bf < 2147483648) (g_t : (t ≤ -10 ∧ -20 < t) ∨ (0 ≤ t ∧ t < 2147483648)) : zMi l yX8_ends wsX8_ends ({ frames := 4, cells := 0, slots := 0, locals := 91 }) D cI cZ cC [(bd 0, .inr (8, [.ref (bd 1), .ref (bd 2), .ref (bd 3), .ref (bd 4), .ref (bd 5), .ref (bd 6), .ref (bd 7), .int (iI (cn)), .ref (bd 8), .int (iI (mp)), .ref (bd 9), .int (iI (ty)), .int (iI (th)), .ref (bd 10), .ref (bd 11), .int (iI (sp)), .int (iI (ta)), .int (iI (ke)), .int (iI (on)), .int (iI (tw))])), (bd 1, .inl (cZ, 80, .inl (iA (Ir)))), (bd 2, .inl (cI, 160, .inl (iA (Vm)))), (bd 3, .inl (cZ, 8, .inl (iA (Ic)))), (bd 4, .inl (cI, 8, .inl (iA (Pm)))), (bd 6, .inl (cZ, 8, .inl (iA (Dm)))), (bd 7, .inl (cI, 16384, .inl (iA (Lm))))] sz [.ref (bd 0), .int (iI (bf)), .int (iI (t))] (0) (0) (fun (u : (Int → Int) × (Int → Int) × Int) => [(bd 0, .inr (8, [.ref (bd 1), .ref (bd 2), .ref (bd 3), .ref (bd 4), .ref (bd 5), .ref (bd 6), .ref (bd 7), .int (iI (u.2.2)), .ref (bd 8), .int (iI (mp)), .ref (bd 9), .int (iI (ty)), .int (iI (th)), .ref (bd 10), .ref (bd 11), .int (iI (sp)), .int (iI (ta)), .int (iI (ke)), .int (iI (on)), .int (iI (tw))])), (bd 1, .inl (cZ, 80, .inl (iA (u.1)))), (bd 2, .inl (cI, 160, .inl (iA (u.2.1)))), (bd 3, .inl (cZ, 8, .inl (iA (Ic)))), (bd 4, .inl (cI, 8, .inl (iA (Pm)))), (bd 6, .inl (cZ, 8, .inl (iA (Dm)))), (bd 7, .inl (cI, 16384, .inl (iA (Lm))))]) (fun v (u : (Int → Int) × (Int → Int) × Int) => ib v ∧ ∃ (V2 : Int → Int) (lg2 : Lg), (v, V2, lg2) = edF P Mo V lg bf t ∧ rV u.1 u.2.1 V2 ∧ isM lg2 Lm u.2.2) := by
  refine z_ofMi (cc := cX8_ends) (maxL := 5) (ret := (some .int)) RX8 (by decide +kernel) rfl rfl (Nat.le_of_ble_eq_true rfl) ?_
  intro p0 en0 s0 m0 args0 below0 meth0 c0 ls AA hx hb hr hlocks hml hown hts hP hD hS hA hK hl
  have hl : lv_has ls 5 [(0, .ref (bd 0)), (1, .int (iI (bf))), (2, .int (iI (t)))] := hl
  obtain ⟨H, hH⟩ : ∃ H, H = s0.heap := ⟨_, rfl⟩
  obtain ⟨locs, hlo⟩ : ∃ locs : List Loc, locs = [] := ⟨_, rfl⟩
  have hP : va_P D vwCl [(bd 0, .inr (8, [.ref (bd 1), .ref (bd 2), .ref (bd 3), .ref (bd 4), .ref (bd 5), .ref (bd 6), .ref (bd 7), .int (iI (cn)), .ref (bd 8), .int (iI (mp)), .ref (bd 9), .int (iI (ty)), .int (iI (th)), .ref (bd 10), .ref (bd 11), .int (iI (sp)), .int (iI (ta)), .int (iI (ke)), .int (iI (on)), .int (iI (tw))])), (bd 1, .inl (cZ, 80, .inl (iA (Ir)))), (bd 2, .inl (cI, 160, .inl (iA (Vm)))), (bd 3, .inl (cZ, 8, .inl (iA (Ic)))), (bd 4, .inl (cI, 8, .inl (iA (Pm)))), (bd 6, .inl (cZ, 8, .inl (iA (Dm)))), (bd 7, .inl (cI, 16384, .inl (iA (Lm))))] H := by rw [hH]; exact hP
  have hS : va_S AA s0.heap H locs := by rw [hH, hlo]; exact hS
  suffices hW : W p0 l en0 (headSpec wsX8_ends ({ frames := 4, cells := 0, slots := 0, locals := 91 })).room s0 m0 args0 below0 meth0 c0 H locs 0 0 (QMi below0 D ((fun (u : (Int → Int) × (Int → Int) × Int) => [(bd 0, .inr (8, [.ref (bd 1), .ref (bd 2), .ref (bd 3), .ref (bd 4), .ref (bd 5), .ref (bd 6), .ref (bd 7), .int (iI (u.2.2)), .ref (bd 8), .int (iI (mp)), .ref (bd 9), .int (iI (ty)), .int (iI (th)), .ref (bd 10), .ref (bd 11), .int (iI (sp)), .int (iI (ta)), .int (iI (ke)), .int (iI (on)), .int (iI (tw))])), (bd 1, .inl (cZ, 80, .inl (iA (u.1)))), (bd 2, .inl (cI, 160, .inl (iA (u.2.1)))), (bd 3, .inl (cZ, 8, .inl (iA (Ic)))), (bd 4, .inl (cI, 8, .inl (iA (Pm)))), (bd 6, .inl (cZ, 8, .inl (iA (Dm)))), (bd 7, .inl (cI, 16384, .inl (iA (Lm))))])) (fun v (u : (Int → Int) × (Int → Int) × Int) => ib v ∧ ∃ (V2 : Int → Int) (lg2 : Lg), (v, V2, lg2) = edF P Mo V lg bf t ∧ rV u.1 u.2.1 V2 ∧ isM lg2 Lm u.2.2) AA args0 s0 (0) (0)) (F0 m0 0 ls []) by rw [hH, hlo] at hW; exact hW
  have g_nn := isM_n g_M
  have g_fr := fR_b (badC 0 Mo P V) 8 0
  refine lv_iload_n hx hb dX8_ends_0 rfl (lv_at hl 2 rfl) ?_
  refine z_if_ge (tgt := 8) hx hb dX8_ends_1 (by decide) ⟨by omega, by omega⟩ (fun c_1 => ?_) (fun c_1 => ?_)
  · refine lv_aload_n hx hb dX8_ends_8 rfl (lv_at hl 0 rfl) ?_
    refine lv_iconst (v := iI (0)) hx hb dX8_ends_9 rfl ?_
    refine z_roV (As := [.int (iI (0))]) (rest := []) ⟨hx, hb, hml, hown, hts⟩ (c_X8_violated l D cI cZ cC (bd) (cn) (mp) (ty) (th) (sp) (ta) (ke) (on) (tw) (Ir) (Vm) (V) (Ic) (Pm) (Am) (Dm) (P) (Ac) (Mo) (0) (by first | assumption | omega) (by first | assumption | omega) (by first | assumption | omega)) (cwV 1 hts gX8_ends_X8_violated rfl rfl rfl (by decide +kernel) ⟨Nat.le_of_ble_eq_true rfl, Nat.le_of_ble_eq_true rfl⟩) hP hK [0, 1, 2, 3, 4, 5] rfl 0 8 rfl rfl rfl rfl hl.1 rfl (Nat.le_of_ble_eq_true rfl) dX8_ends_10 ⟨by omega, by omega⟩ ?_
    have hf_2 := fR_b (badC 0 Mo P V) 8 0
    refine lv_istore_n (lv' := [(3, .int (iI ((fR (badC 0 Mo P V) 8 0)))), (0, .ref (bd 0)), (1, .int (iI (bf))), (2, .int (iI (t)))]) hx hb dX8_ends_13 rfl hl (by decide) rfl (fun ls hl => ?_)
    refine lv_iload_n hx hb dX8_ends_14 rfl (lv_at hl 0 rfl) ?_
    refine z_if_ge (tgt := 27) hx hb dX8_ends_15 (by decide) ⟨by omega, by omega⟩ (fun c_3 => ?_) (fun c_3 => ?_)
    · refine lv_iload_n hx hb dX8_ends_27 rfl (lv_at hl 3 rfl) ?_
      refine z_mret ((Ir, Vm, cn)) hx hb hr hlocks dX8_ends_28 hP hD hS ?_
      have h_c : enC P Mo V t = 0 := by
        unfold enC
        rw [if_neg (by omega)]
        omega
        try rw [Int.add_zero]
      refine ⟨⟨by omega, by omega⟩, ?_⟩
      unfold edF
      rw [if_pos h_c]
      exact ⟨V, lg, rfl, g_R, g_M⟩
    · refine lv_aload_n hx hb dX8_ends_18 rfl (lv_at hl 1 rfl) ?_
      refine lv_iload_n hx hb dX8_ends_19 rfl (lv_at hl 2 rfl) ?_
      refine z_muV (As := [.int (iI (bf))]) (rest := []) (wr := [(bd 3, .inl (cZ, 8, .inl (iA (Ic)))), (bd 4, .inl (cI, 8, .inl (iA (Pm)))), (bd 6, .inl (cZ, 8, .inl (iA (Dm))))]) (ws2 := (fun (u : (Int → Int) × (Int → Int)) => [(bd 0, .inr (8, [.ref (bd 1), .ref (bd 2), .ref (bd 3), .ref (bd 4), .ref (bd 5), .ref (bd 6), .ref (bd 7), .int (iI (cn - (unS cn bf : Int))), .ref (bd 8), .int (iI (mp)), .ref (bd 9), .int (iI (ty)), .int (iI (th)), .ref (bd 10), .ref (bd 11), .int (iI (sp)), .int (iI (ta)), .int (iI (ke)), .int (iI (on)), .int (iI (tw))])), (bd 1, .inl (cZ, 80, .inl (iA (u.1)))), (bd 2, .inl (cI, 160, .inl (iA (u.2)))), (bd 3, .inl (cZ, 8, .inl (iA (Ic)))), (bd 4, .inl (cI, 8, .inl (iA (Pm)))), (bd 6, .inl (cZ, 8, .inl (iA (Dm)))), (bd 7, .inl (cI, 16384, .inl (iA (Lm))))])) ⟨hx, hb, hml, hown, hts⟩ (c_X8_undoes l D cI cZ cC H.size (bd) (cn) (mp) (ty) (th) (sp) (ta) (ke) (on) (tw) (Ir) (Vm) (Lm) (V) (lg) (bf) (by first | assumption | omega) (by first | assumption | omega) (by first | assumption | omega) (by first | assumption | omega)) (cwV 1 hts gX8_ends_X8_undoes rfl rfl rfl (by decide +kernel) ⟨Nat.le_of_ble_eq_true rfl, Nat.le_of_ble_eq_true rfl⟩) hP hD hS hA hK [0, 1, 2, 6] [3, 4, 5] [3, 4, 5, 0, 1, 2, 6] rfl (by decide) rfl (by decide) (by decide) (by decide) (fun _ => rfl) 0 8 rfl rfl rfl rfl hl.1 rfl (Nat.le_of_ble_eq_true rfl) dX8_ends_20 ⟨by omega, by omega⟩ (fun r_5 u H locs hq_4 hP hD hS => ?_)
      obtain ⟨Ir_6, Vm_7⟩ := u
      have hP : va_P D vwCl [(bd 0, .inr (8, [.ref (bd 1), .ref (bd 2), .ref (bd 3), .ref (bd 4), .ref (bd 5), .ref (bd 6), .ref (bd 7), .int (iI (cn - (unS cn bf : Int))), .ref (bd 8), .int (iI (mp)), .ref (bd 9), .int (iI (ty)), .int (iI (th)), .ref (bd 10), .ref (bd 11), .int (iI (sp)), .int (iI (ta)), .int (iI (ke)), .int (iI (on)), .int (iI (tw))])), (bd 1, .inl (cZ, 80, .inl (iA (Ir_6)))), (bd 2, .inl (cI, 160, .inl (iA (Vm_7)))), (bd 3, .inl (cZ, 8, .inl (iA (Ic)))), (bd 4, .inl (cI, 8, .inl (iA (Pm)))), (bd 6, .inl (cZ, 8, .inl (iA (Dm)))), (bd 7, .inl (cI, 16384, .inl (iA (Lm))))] H := hP
      have hD : va_D AA [(bd 0, .inr (8, [.ref (bd 1), .ref (bd 2), .ref (bd 3), .ref (bd 4), .ref (bd 5), .ref (bd 6), .ref (bd 7), .int (iI (cn - (unS cn bf : Int))), .ref (bd 8), .int (iI (mp)), .ref (bd 9), .int (iI (ty)), .int (iI (th)), .ref (bd 10), .ref (bd 11), .int (iI (sp)), .int (iI (ta)), .int (iI (ke)), .int (iI (on)), .int (iI (tw))])), (bd 1, .inl (cZ, 80, .inl (iA (Ir_6)))), (bd 2, .inl (cI, 160, .inl (iA (Vm_7)))), (bd 3, .inl (cZ, 8, .inl (iA (Ic)))), (bd 4, .inl (cI, 8, .inl (iA (Pm)))), (bd 6, .inl (cZ, 8, .inl (iA (Dm)))), (bd 7, .inl (cI, 16384, .inl (iA (Lm))))] := hD
      try dsimp only at hq_4
      obtain ⟨hv9, hq_4⟩ := hq_4
      have hv9 := hv9.symm
      subst hv9
      refine lv_istore (lv' := [(4, .int (iI (((unS cn bf : Int))))), (3, .int (iI ((fR (badC 0 Mo P V) 8 0)))), (0, .ref (bd 0)), (1, .int (iI (bf))), (2, .int (iI (t)))]) hx hb dX8_ends_23 hl (by decide) rfl (fun ls hl => ?_)
      refine lv_iload_n hx hb dX8_ends_25 rfl (lv_at hl 1 rfl) ?_
      refine z_mret ((Ir_6, Vm_7, cn - (unS cn bf : Int))) hx hb hr hlocks dX8_ends_26 hP hD hS ?_
      have h_c : enC P Mo V t = fR (badC 0 Mo P V) 8 0 := by
        unfold enC
        rw [if_neg (by omega)]
      refine ⟨⟨by omega, by omega⟩, ?_⟩
      unfold edF
      rw [if_neg (by rw [h_c]; omega), h_c]
      obtain ⟨h_q1, h_q2⟩ := hq_4
      rw [g_nn] at h_q1 h_q2
      exact ⟨_, _, rfl, h_q1, by rw [g_nn]; exact h_q2⟩
  · refine lv_iload_n hx hb dX8_ends_4 rfl (lv_at hl 2 rfl) ?_
    refine lv_goto (tgt := 13) hx hb dX8_ends_5 (by decide) ?_
    refine lv_istore_n (lv' := [(3, .int (iI (t))), (0, .ref (bd 0)), (1, .int (iI (bf))), (2, .int (iI (t)))]) hx hb dX8_ends_13 rfl hl (by decide) rfl (fun ls hl => ?_)
    refine lv_iload_n hx hb dX8_ends_14 rfl (lv_at hl 0 rfl) ?_
    refine z_if_ge (tgt := 27) hx hb dX8_ends_15 (by decide) ⟨by omega, by omega⟩ (fun c_8 => ?_) (fun c_8 => ?_)
    · refine lv_iload_n hx hb dX8_ends_27 rfl (lv_at hl 3 rfl) ?_
      refine z_mret ((Ir, Vm, cn)) hx hb hr hlocks dX8_ends_28 hP hD hS ?_
      have h_c : enC P Mo V t = 0 := by
        unfold enC
        rw [if_neg (by omega)]
        omega
        try rw [Int.add_zero]
      refine ⟨⟨by omega, by omega⟩, ?_⟩
      unfold edF
      rw [if_pos h_c]
      exact ⟨V, lg, rfl, g_R, g_M⟩
    · refine lv_aload_n hx hb dX8_ends_18 rfl (lv_at hl 1 rfl) ?_
      refine lv_iload_n hx hb dX8_ends_19 rfl (lv_at hl 2 rfl) ?_
      refine z_muV (As := [.int (iI (bf))]) (rest := []) (wr := [(bd 3, .inl (cZ, 8, .inl (iA (Ic)))), (bd 4, .inl (cI, 8, .inl (iA (Pm)))), (bd 6, .inl (cZ, 8, .inl (iA (Dm))))]) (ws2 := (fun (u : (Int → Int) × (Int → Int)) => [(bd 0, .inr (8, [.ref (bd 1), .ref (bd 2), .ref (bd 3), .ref (bd 4), .ref (bd 5), .ref (bd 6), .ref (bd 7), .int (iI (cn - (unS cn bf : Int))), .ref (bd 8), .int (iI (mp)), .ref (bd 9), .int (iI (ty)), .int (iI (th)), .ref (bd 10), .ref (bd 11), .int (iI (sp)), .int (iI (ta)), .int (iI (ke)), .int (iI (on)), .int (iI (tw))])), (bd 1, .inl (cZ, 80, .inl (iA (u.1)))), (bd 2, .inl (cI, 160, .inl (iA (u.2)))), (bd 3, .inl (cZ, 8, .inl (iA (Ic)))), (bd 4, .inl (cI, 8, .inl (iA (Pm)))), (bd 6, .inl (cZ, 8, .inl (iA (Dm)))), (bd 7, .inl (cI, 16384, .inl (iA (Lm))))])) ⟨hx, hb, hml, hown, hts⟩ (c_X8_undoes l D cI cZ cC H.size (bd) (cn) (mp) (ty) (th) (sp) (ta) (ke) (on) (tw) (Ir) (Vm) (Lm) (V) (lg) (bf) (by first | assumption | omega) (by first | assumption | omega) (by first | assumption | omega) (by first | assumption | omega)) (cwV 1 hts gX8_ends_X8_undoes rfl rfl rfl (by decide +kernel) ⟨Nat.le_of_ble_eq_true rfl, Nat.le_of_ble_eq_true rfl⟩) hP hD hS hA hK [0, 1, 2, 6] [3, 4, 5] [3, 4, 5, 0, 1, 2, 6] rfl (by decide) rfl (by decide) (by decide) (by decide) (fun _ => rfl) 0 8 rfl rfl rfl rfl hl.1 rfl (Nat.le_of_ble_eq_true rfl) dX8_ends_20 ⟨by omega, by omega⟩ (fun r_10 u H locs hq_9 hP hD hS => ?_)
      obtain ⟨Ir_11, Vm_12⟩ := u
      have hP : va_P D vwCl [(bd 0, .inr (8, [.ref (bd 1), .ref (bd 2), .ref (bd 3), .ref (bd 4), .ref (bd 5), .ref (bd 6), .ref (bd 7), .int (iI (cn - (unS cn bf : Int))), .ref (bd 8), .int (iI (mp)), .ref (bd 9), .int (iI (ty)), .int (iI (th)), .ref (bd 10), .ref (bd 11), .int (iI (sp)), .int (iI (ta)), .int (iI (ke)), .int (iI (on)), .int (iI (tw))])), (bd 1, .inl (cZ, 80, .inl (iA (Ir_11)))), (bd 2, .inl (cI, 160, .inl (iA (Vm_12)))), (bd 3, .inl (cZ, 8, .inl (iA (Ic)))), (bd 4, .inl (cI, 8, .inl (iA (Pm)))), (bd 6, .inl (cZ, 8, .inl (iA (Dm)))), (bd 7, .inl (cI, 16384, .inl (iA (Lm))))] H := hP
      have hD : va_D AA [(bd 0, .inr (8, [.ref (bd 1), .ref (bd 2), .ref (bd 3), .ref (bd 4), .ref (bd 5), .ref (bd 6), .ref (bd 7), .int (iI (cn - (unS cn bf : Int))), .ref (bd 8), .int (iI (mp)), .ref (bd 9), .int (iI (ty)), .int (iI (th)), .ref (bd 10), .ref (bd 11), .int (iI (sp)), .int (iI (ta)), .int (iI (ke)), .int (iI (on)), .int (iI (tw))])), (bd 1, .inl (cZ, 80, .inl (iA (Ir_11)))), (bd 2, .inl (cI, 160, .inl (iA (Vm_12)))), (bd 3, .inl (cZ, 8, .inl (iA (Ic)))), (bd 4, .inl (cI, 8, .inl (iA (Pm)))), (bd 6, .inl (cZ, 8, .inl (iA (Dm)))), (bd 7, .inl (cI, 16384, .inl (iA (Lm))))] := hD
      try dsimp only at hq_9
      obtain ⟨hv9, hq_9⟩ := hq_9
      have hv9 := hv9.symm
      subst hv9
      refine lv_istore (lv' := [(4, .int (iI (((unS cn bf : Int))))), (3, .int (iI (t))), (0, .ref (bd 0)), (1, .int (iI (bf))), (2, .int (iI (t)))]) hx hb dX8_ends_23 hl (by decide) rfl (fun ls hl => ?_)
      refine lv_iload_n hx hb dX8_ends_25 rfl (lv_at hl 1 rfl) ?_
      refine z_mret ((Ir_11, Vm_12, cn - (unS cn bf : Int))) hx hb hr hlocks dX8_ends_26 hP hD hS ?_
      have h_c : enC P Mo V t = t := by
        unfold enC
        rw [if_pos (by omega)]
      refine ⟨⟨by omega, by omega⟩, ?_⟩
      unfold edF
      rw [if_neg (by rw [h_c]; omega), h_c]
      obtain ⟨h_q1, h_q2⟩ := hq_9
      rw [g_nn] at h_q1 h_q2
      exact ⟨_, _, rfl, h_q1, by rw [g_nn]; exact h_q2⟩

set_option maxHeartbeats 600000 in
set_option maxRecDepth 100000 in
theorem c_X8_inserts (l : Launch) (D : va_G) (cI cZ cC : ClassId) (sz : Nat) (bd : Nat → Nat) (cn mp ty th sp ta ke on tw : Int) (Ir Vm Lm V : Int → Int) (Ic Pm Am Dm P Ac Mo : Int → Int) (lg : Lg) (t k a b : Int) (g_R : rV Ir Vm V) (g_C : rC8 Ic Pm Am Dm P Ac Mo) (g_M : isM lg Lm cn) (g_cn : 0 ≤ cn ∧ cn < 16384) (g_r : 0 ≤ 20 * t + k ∧ 20 * t + k < 80) (g_a : -1 ≤ a ∧ a ≤ 19) (g_b : -1 ≤ b ∧ b ≤ 19) (g_h : ¬ hasR V (20 * t + k)) : zMi l yX8_inserts wsX8_inserts ({ frames := 5, cells := 0, slots := 0, locals := 115 }) D cI cZ cC [(bd 0, .inr (8, [.ref (bd 1), .ref (bd 2), .ref (bd 3), .ref (bd 4), .ref (bd 5), .ref (bd 6), .ref (bd 7), .int (iI (cn)), .ref (bd 8), .int (iI (mp)), .ref (bd 9), .int (iI (ty)), .int (iI (th)), .ref (bd 10), .ref (bd 11), .int (iI (sp)), .int (iI (ta)), .int (iI (ke)), .int (iI (on)), .int (iI (tw))])), (bd 1, .inl (cZ, 80, .inl (iA (Ir)))), (bd 2, .inl (cI, 160, .inl (iA (Vm)))), (bd 3, .inl (cZ, 8, .inl (iA (Ic)))), (bd 4, .inl (cI, 8, .inl (iA (Pm)))), (bd 6, .inl (cZ, 8, .inl (iA (Dm)))), (bd 7, .inl (cI, 16384, .inl (iA (Lm))))] sz [.ref (bd 0), .int (iI (t)), .int (iI (k)), .int (iI (a)), .int (iI (b))] (0) (0) (fun (u : (Int → Int) × (Int → Int) × (Int → Int) × Int) => [(bd 0, .inr (8, [.ref (bd 1), .ref (bd 2), .ref (bd 3), .ref (bd 4), .ref (bd 5), .ref (bd 6), .ref (bd 7), .int (iI (u.2.2.2)), .ref (bd 8), .int (iI (mp)), .ref (bd 9), .int (iI (ty)), .int (iI (th)), .ref (bd 10), .ref (bd 11), .int (iI (sp)), .int (iI (ta)), .int (iI (ke)), .int (iI (on)), .int (iI (tw))])), (bd 1, .inl (cZ, 80, .inl (iA (u.1)))), (bd 2, .inl (cI, 160, .inl (iA (u.2.1)))), (bd 3, .inl (cZ, 8, .inl (iA (Ic)))), (bd 4, .inl (cI, 8, .inl (iA (Pm)))), (bd 6, .inl (cZ, 8, .inl (iA (Dm)))), (bd 7, .inl (cI, 16384, .inl (iA (u.2.2.1))))]) (fun v (u : (Int → Int) × (Int → Int) × (Int → Int) × Int) => ib v ∧ ∃ (V2 : Int → Int) (lg2 : Lg), (v, V2, lg2) = stmF P Mo V lg (wrV V (20 * t + k) a b) (pe V (20 * t + k) :: lg) 1 ∧ rV u.1 u.2.1 V2 ∧ isM lg2 u.2.2.1 u.2.2.2) := by
  refine z_ofMi (cc := cX8_inserts) (maxL := 6) (ret := (some .int)) RX8 (by decide +kernel) rfl rfl (Nat.le_of_ble_eq_true rfl) ?_
  intro p0 en0 s0 m0 args0 below0 meth0 c0 ls AA hx hb hr hlocks hml hown hts hP hD hS hA hK hl
  have hl : lv_has ls 6 [(0, .ref (bd 0)), (1, .int (iI (t))), (2, .int (iI (k))), (3, .int (iI (a))), (4, .int (iI (b)))] := hl
  obtain ⟨H, hH⟩ : ∃ H, H = s0.heap := ⟨_, rfl⟩
  obtain ⟨locs, hlo⟩ : ∃ locs : List Loc, locs = [] := ⟨_, rfl⟩
  have hP : va_P D vwCl [(bd 0, .inr (8, [.ref (bd 1), .ref (bd 2), .ref (bd 3), .ref (bd 4), .ref (bd 5), .ref (bd 6), .ref (bd 7), .int (iI (cn)), .ref (bd 8), .int (iI (mp)), .ref (bd 9), .int (iI (ty)), .int (iI (th)), .ref (bd 10), .ref (bd 11), .int (iI (sp)), .int (iI (ta)), .int (iI (ke)), .int (iI (on)), .int (iI (tw))])), (bd 1, .inl (cZ, 80, .inl (iA (Ir)))), (bd 2, .inl (cI, 160, .inl (iA (Vm)))), (bd 3, .inl (cZ, 8, .inl (iA (Ic)))), (bd 4, .inl (cI, 8, .inl (iA (Pm)))), (bd 6, .inl (cZ, 8, .inl (iA (Dm)))), (bd 7, .inl (cI, 16384, .inl (iA (Lm))))] H := by rw [hH]; exact hP
  have hS : va_S AA s0.heap H locs := by rw [hH, hlo]; exact hS
  suffices hW : W p0 l en0 (headSpec wsX8_inserts ({ frames := 5, cells := 0, slots := 0, locals := 115 })).room s0 m0 args0 below0 meth0 c0 H locs 0 0 (QMi below0 D ((fun (u : (Int → Int) × (Int → Int) × (Int → Int) × Int) => [(bd 0, .inr (8, [.ref (bd 1), .ref (bd 2), .ref (bd 3), .ref (bd 4), .ref (bd 5), .ref (bd 6), .ref (bd 7), .int (iI (u.2.2.2)), .ref (bd 8), .int (iI (mp)), .ref (bd 9), .int (iI (ty)), .int (iI (th)), .ref (bd 10), .ref (bd 11), .int (iI (sp)), .int (iI (ta)), .int (iI (ke)), .int (iI (on)), .int (iI (tw))])), (bd 1, .inl (cZ, 80, .inl (iA (u.1)))), (bd 2, .inl (cI, 160, .inl (iA (u.2.1)))), (bd 3, .inl (cZ, 8, .inl (iA (Ic)))), (bd 4, .inl (cI, 8, .inl (iA (Pm)))), (bd 6, .inl (cZ, 8, .inl (iA (Dm)))), (bd 7, .inl (cI, 16384, .inl (iA (u.2.2.1))))])) (fun v (u : (Int → Int) × (Int → Int) × (Int → Int) × Int) => ib v ∧ ∃ (V2 : Int → Int) (lg2 : Lg), (v, V2, lg2) = stmF P Mo V lg (wrV V (20 * t + k) a b) (pe V (20 * t + k) :: lg) 1 ∧ rV u.1 u.2.1 V2 ∧ isM lg2 u.2.2.1 u.2.2.2) AA args0 s0 (0) (0)) (F0 m0 0 ls []) by rw [hH, hlo] at hW; exact hW
  have g_Ir := rV_01 g_R
  have g_Vm := rV_all g_R
  have g_Ic := rC_i g_C
  have g_Pm := rC_p g_C
  have g_Am := rC_a g_C
  have g_Dm := rC_d g_C
  have g_nn := isM_n g_M
  refine lv_aload_n hx hb dX8_inserts_0 rfl (lv_at hl 0 rfl) ?_
  refine va_get (D := D) (ci := 8) (v := .int (iI (cn))) (C := RX8) (T := TX8) (N := 20) hx hb hts (fun _ h => List.mem_cons_of_mem _ (List.mem_append_right _ (h))) hown hK.1 hP 0 rfl rfl 7 (by decide) (hts (.fieldLink RX8 67 "ForeignKeyStoreModel" "changes" "I") (List.mem_of_getElem? (i := 1) rfl)) (fun _ h9 => h9) rfl dX8_inserts_1 ?_
  refine lv_istore (lv' := [(5, .int (iI (cn))), (0, .ref (bd 0)), (1, .int (iI (t))), (2, .int (iI (k))), (3, .int (iI (a))), (4, .int (iI (b)))]) hx hb dX8_inserts_4 hl (by decide) rfl (fun ls hl => ?_)
  refine lv_aload_n hx hb dX8_inserts_6 rfl (lv_at hl 1 rfl) ?_
  refine lv_iload_n hx hb dX8_inserts_7 rfl (lv_at hl 2 rfl) ?_
  refine lv_iload_n hx hb dX8_inserts_8 rfl (lv_at hl 3 rfl) ?_
  refine z_roS (As := [.int (iI (t)), .int (iI (k))]) (rest := [.ref (bd 0)]) ⟨hx, hb, hml, hown, hts⟩ (c_X8_row l D cI cZ cC (t) (k) ) (va_cwS 2 hts gX8_inserts_X8_row rfl rfl rfl (by decide +kernel) ⟨Nat.le_of_ble_eq_true rfl, Nat.le_of_ble_eq_true rfl⟩) hP hK [] rfl rfl hl.1 rfl (Nat.le_of_ble_eq_true rfl) dX8_inserts_9 ⟨by omega, by omega⟩ ?_
  refine lv_iload_n hx hb dX8_inserts_12 rfl (lv_at hl 4 rfl) ?_
  refine lv_iload hx hb dX8_inserts_13 (lv_at hl 5 rfl) ?_
  refine z_mvV (As := [.int (iI ((20 * t + k))), .int (iI (a)), .int (iI (b))]) (rest := []) (wr := [(bd 3, .inl (cZ, 8, .inl (iA (Ic)))), (bd 4, .inl (cI, 8, .inl (iA (Pm)))), (bd 6, .inl (cZ, 8, .inl (iA (Dm))))]) (ws2 := (fun (u : Unit) => [(bd 0, .inr (8, [.ref (bd 1), .ref (bd 2), .ref (bd 3), .ref (bd 4), .ref (bd 5), .ref (bd 6), .ref (bd 7), .int (iI (cn + 1)), .ref (bd 8), .int (iI (mp)), .ref (bd 9), .int (iI (ty)), .int (iI (th)), .ref (bd 10), .ref (bd 11), .int (iI (sp)), .int (iI (ta)), .int (iI (ke)), .int (iI (on)), .int (iI (tw))])), (bd 1, .inl (cZ, 80, .inl (iA (uI Ir ((20 * t + k)) 1)))), (bd 2, .inl (cI, 160, .inl (iA (uI (uI Vm (2 * ((20 * t + k))) a) (2 * ((20 * t + k)) + 1) b)))), (bd 3, .inl (cZ, 8, .inl (iA (Ic)))), (bd 4, .inl (cI, 8, .inl (iA (Pm)))), (bd 6, .inl (cZ, 8, .inl (iA (Dm)))), (bd 7, .inl (cI, 16384, .inl (iA (uI Lm cn (pkM 0 ((20 * t + k)) 0 (Vm (2 * ((20 * t + k)))) (Vm (2 * ((20 * t + k)) + 1)))))))])) ⟨hx, hb, hml, hown, hts⟩ (c_X8_puts l D cI cZ cC H.size (bd) (cn) (mp) (ty) (th) (sp) (ta) (ke) (on) (tw) (Ir) (Vm) (Lm) ((20 * t + k)) (a) (b) (by first | assumption | omega) (by first | assumption | omega) (by first | assumption | omega) (by first | assumption | omega) (by first | assumption | omega)) (cwV 3 hts gX8_inserts_X8_puts rfl rfl rfl (by decide +kernel) ⟨Nat.le_of_ble_eq_true rfl, Nat.le_of_ble_eq_true rfl⟩) hP hD hS hA hK [0, 1, 2, 6] [3, 4, 5] [3, 4, 5, 0, 1, 2, 6] rfl (by decide) rfl (by decide) (by decide) (by decide) (fun _ => rfl) 0 8 rfl rfl rfl rfl hl.1 rfl (Nat.le_of_ble_eq_true rfl) dX8_inserts_15 ⟨by omega, by omega⟩ (fun u H locs hq_1 hP hD hS => ?_)
  have hP : va_P D vwCl [(bd 0, .inr (8, [.ref (bd 1), .ref (bd 2), .ref (bd 3), .ref (bd 4), .ref (bd 5), .ref (bd 6), .ref (bd 7), .int (iI (cn + 1)), .ref (bd 8), .int (iI (mp)), .ref (bd 9), .int (iI (ty)), .int (iI (th)), .ref (bd 10), .ref (bd 11), .int (iI (sp)), .int (iI (ta)), .int (iI (ke)), .int (iI (on)), .int (iI (tw))])), (bd 1, .inl (cZ, 80, .inl (iA (uI Ir ((20 * t + k)) 1)))), (bd 2, .inl (cI, 160, .inl (iA (uI (uI Vm (2 * ((20 * t + k))) a) (2 * ((20 * t + k)) + 1) b)))), (bd 3, .inl (cZ, 8, .inl (iA (Ic)))), (bd 4, .inl (cI, 8, .inl (iA (Pm)))), (bd 6, .inl (cZ, 8, .inl (iA (Dm)))), (bd 7, .inl (cI, 16384, .inl (iA (uI Lm cn (pkM 0 ((20 * t + k)) 0 (Vm (2 * ((20 * t + k)))) (Vm (2 * ((20 * t + k)) + 1)))))))] H := hP
  have hD : va_D AA [(bd 0, .inr (8, [.ref (bd 1), .ref (bd 2), .ref (bd 3), .ref (bd 4), .ref (bd 5), .ref (bd 6), .ref (bd 7), .int (iI (cn + 1)), .ref (bd 8), .int (iI (mp)), .ref (bd 9), .int (iI (ty)), .int (iI (th)), .ref (bd 10), .ref (bd 11), .int (iI (sp)), .int (iI (ta)), .int (iI (ke)), .int (iI (on)), .int (iI (tw))])), (bd 1, .inl (cZ, 80, .inl (iA (uI Ir ((20 * t + k)) 1)))), (bd 2, .inl (cI, 160, .inl (iA (uI (uI Vm (2 * ((20 * t + k))) a) (2 * ((20 * t + k)) + 1) b)))), (bd 3, .inl (cZ, 8, .inl (iA (Ic)))), (bd 4, .inl (cI, 8, .inl (iA (Pm)))), (bd 6, .inl (cZ, 8, .inl (iA (Dm)))), (bd 7, .inl (cI, 16384, .inl (iA (uI Lm cn (pkM 0 ((20 * t + k)) 0 (Vm (2 * ((20 * t + k)))) (Vm (2 * ((20 * t + k)) + 1)))))))] := hD
  try dsimp only at hq_1
  have h_0 := g_R (20 * t + k) g_r.1 g_r.2
  have h_hs := rV_has g_R g_r
  have h_i0 : Ir (20 * t + k) = 0 := by
    rcases rV_01 g_R _ g_r.1 g_r.2 with h | h
    · exact h
    · exact absurd (h_hs.2 h) g_h
  have h_R := rV_wr (r := 20 * t + k) (f := 1) (x := a) (y := b) g_R ⟨g_a.1, g_a.2, g_b.1, g_b.2⟩ (Or.inl ⟨rfl, rfl, rfl⟩)
  have h_M := isM_push (e := pe V (20 * t + k)) g_M (relE_pk (x := 0) (r := 20 * t + k) (c := 0) (a := Vm (2 * (20 * t + k))) (b := Vm (2 * (20 * t + k) + 1)) (by omega) g_r (Or.inl rfl) (by omega) rfl (Or.inl ⟨rfl, by show V _ = _; omega, by show V _ = _; omega⟩))
  refine lv_aload_n hx hb dX8_inserts_18 rfl (lv_at hl 1 rfl) ?_
  refine lv_iload hx hb dX8_inserts_19 (lv_at hl 0 rfl) ?_
  refine lv_iconst (v := iI (1)) hx hb dX8_inserts_21 rfl ?_
  refine z_muV (As := [.int (iI (cn)), .int (iI (1))]) (rest := []) (wr := []) (ws2 := (fun (u : (Int → Int) × (Int → Int) × Int) => [(bd 0, .inr (8, [.ref (bd 1), .ref (bd 2), .ref (bd 3), .ref (bd 4), .ref (bd 5), .ref (bd 6), .ref (bd 7), .int (iI (u.2.2)), .ref (bd 8), .int (iI (mp)), .ref (bd 9), .int (iI (ty)), .int (iI (th)), .ref (bd 10), .ref (bd 11), .int (iI (sp)), .int (iI (ta)), .int (iI (ke)), .int (iI (on)), .int (iI (tw))])), (bd 1, .inl (cZ, 80, .inl (iA (u.1)))), (bd 2, .inl (cI, 160, .inl (iA (u.2.1)))), (bd 3, .inl (cZ, 8, .inl (iA (Ic)))), (bd 4, .inl (cI, 8, .inl (iA (Pm)))), (bd 6, .inl (cZ, 8, .inl (iA (Dm)))), (bd 7, .inl (cI, 16384, .inl (iA ((uI Lm cn (pkM 0 ((20 * t + k)) 0 (Vm (2 * ((20 * t + k)))) (Vm (2 * ((20 * t + k)) + 1))))))))])) ⟨hx, hb, hml, hown, hts⟩ (c_X8_ends l D cI cZ cC H.size (bd) (cn + 1) (mp) (ty) (th) (sp) (ta) (ke) (on) (tw) (uI Ir ((20 * t + k)) 1) (uI (uI Vm (2 * ((20 * t + k))) a) (2 * ((20 * t + k)) + 1) b) (uI Lm cn (pkM 0 ((20 * t + k)) 0 (Vm (2 * ((20 * t + k)))) (Vm (2 * ((20 * t + k)) + 1)))) (wrV V (20 * t + k) a b) (Ic) (Pm) (Am) (Dm) (P) (Ac) (Mo) (pe V (20 * t + k) :: lg) (cn) (1) (h_R) (by first | assumption | omega) (h_M) (by omega) (⟨by omega, by omega⟩) (Or.inr ⟨by omega, by omega⟩)) (cwV 2 hts gX8_inserts_X8_ends rfl rfl rfl (by decide +kernel) ⟨Nat.le_of_ble_eq_true rfl, Nat.le_of_ble_eq_true rfl⟩) hP hD hS hA hK [0, 1, 2, 3, 4, 5, 6] [] [0, 1, 2, 3, 4, 5, 6] rfl (by decide) rfl (by decide) (by decide) (by decide) (fun _ => rfl) 0 8 rfl rfl rfl rfl hl.1 rfl (Nat.le_of_ble_eq_true rfl) dX8_inserts_22 ⟨by omega, by omega⟩ (fun r_3 u H locs hq_2 hP hD hS => ?_)
  obtain ⟨Ir_4, Vm_5, cn_6⟩ := u
  have hP : va_P D vwCl [(bd 0, .inr (8, [.ref (bd 1), .ref (bd 2), .ref (bd 3), .ref (bd 4), .ref (bd 5), .ref (bd 6), .ref (bd 7), .int (iI (cn_6)), .ref (bd 8), .int (iI (mp)), .ref (bd 9), .int (iI (ty)), .int (iI (th)), .ref (bd 10), .ref (bd 11), .int (iI (sp)), .int (iI (ta)), .int (iI (ke)), .int (iI (on)), .int (iI (tw))])), (bd 1, .inl (cZ, 80, .inl (iA (Ir_4)))), (bd 2, .inl (cI, 160, .inl (iA (Vm_5)))), (bd 3, .inl (cZ, 8, .inl (iA (Ic)))), (bd 4, .inl (cI, 8, .inl (iA (Pm)))), (bd 6, .inl (cZ, 8, .inl (iA (Dm)))), (bd 7, .inl (cI, 16384, .inl (iA ((uI Lm cn (pkM 0 ((20 * t + k)) 0 (Vm (2 * ((20 * t + k)))) (Vm (2 * ((20 * t + k)) + 1))))))))] H := hP
  have hD : va_D AA [(bd 0, .inr (8, [.ref (bd 1), .ref (bd 2), .ref (bd 3), .ref (bd 4), .ref (bd 5), .ref (bd 6), .ref (bd 7), .int (iI (cn_6)), .ref (bd 8), .int (iI (mp)), .ref (bd 9), .int (iI (ty)), .int (iI (th)), .ref (bd 10), .ref (bd 11), .int (iI (sp)), .int (iI (ta)), .int (iI (ke)), .int (iI (on)), .int (iI (tw))])), (bd 1, .inl (cZ, 80, .inl (iA (Ir_4)))), (bd 2, .inl (cI, 160, .inl (iA (Vm_5)))), (bd 3, .inl (cZ, 8, .inl (iA (Ic)))), (bd 4, .inl (cI, 8, .inl (iA (Pm)))), (bd 6, .inl (cZ, 8, .inl (iA (Dm)))), (bd 7, .inl (cI, 16384, .inl (iA ((uI Lm cn (pkM 0 ((20 * t + k)) 0 (Vm (2 * ((20 * t + k)))) (Vm (2 * ((20 * t + k)) + 1))))))))] := hD
  try dsimp only at hq_2
  refine z_mret ((Ir_4, Vm_5, (uI Lm cn (pkM 0 ((20 * t + k)) 0 (Vm (2 * ((20 * t + k)))) (Vm (2 * ((20 * t + k)) + 1)))), cn_6)) hx hb hr hlocks dX8_inserts_25 hP hD hS ?_
  obtain ⟨z0, V2, lg2, z1, z2, z3⟩ := hq_2
  exact ⟨z0, V2, lg2, by rw [← ed_stm (extL_push (extL_rf V lg)) g_nn]; exact z1, z2, z3⟩

set_option maxHeartbeats 600000 in
set_option maxRecDepth 100000 in
theorem c_X8_updates (l : Launch) (D : va_G) (cI cZ cC : ClassId) (sz : Nat) (bd : Nat → Nat) (cn mp ty th sp ta ke on tw : Int) (Ir Vm Lm V : Int → Int) (Ic Pm Am Dm P Ac Mo : Int → Int) (lg : Lg) (t k c v : Int) (g_R : rV Ir Vm V) (g_C : rC8 Ic Pm Am Dm P Ac Mo) (g_M : isM lg Lm cn) (g_cn : 0 ≤ cn ∧ cn < 16384) (g_r : 0 ≤ 20 * t + k ∧ 20 * t + k < 80) (g_c : c = 0 ∨ c = 1) (g_v : -1 ≤ v ∧ v ≤ 19) (g_h : hasR V (20 * t + k)) : zMi l yX8_updates wsX8_updates ({ frames := 5, cells := 0, slots := 0, locals := 115 }) D cI cZ cC [(bd 0, .inr (8, [.ref (bd 1), .ref (bd 2), .ref (bd 3), .ref (bd 4), .ref (bd 5), .ref (bd 6), .ref (bd 7), .int (iI (cn)), .ref (bd 8), .int (iI (mp)), .ref (bd 9), .int (iI (ty)), .int (iI (th)), .ref (bd 10), .ref (bd 11), .int (iI (sp)), .int (iI (ta)), .int (iI (ke)), .int (iI (on)), .int (iI (tw))])), (bd 1, .inl (cZ, 80, .inl (iA (Ir)))), (bd 2, .inl (cI, 160, .inl (iA (Vm)))), (bd 3, .inl (cZ, 8, .inl (iA (Ic)))), (bd 4, .inl (cI, 8, .inl (iA (Pm)))), (bd 6, .inl (cZ, 8, .inl (iA (Dm)))), (bd 7, .inl (cI, 16384, .inl (iA (Lm))))] sz [.ref (bd 0), .int (iI (t)), .int (iI (k)), .int (iI (c)), .int (iI (v))] (0) (0) (fun (u : (Int → Int) × (Int → Int) × (Int → Int) × Int) => [(bd 0, .inr (8, [.ref (bd 1), .ref (bd 2), .ref (bd 3), .ref (bd 4), .ref (bd 5), .ref (bd 6), .ref (bd 7), .int (iI (u.2.2.2)), .ref (bd 8), .int (iI (mp)), .ref (bd 9), .int (iI (ty)), .int (iI (th)), .ref (bd 10), .ref (bd 11), .int (iI (sp)), .int (iI (ta)), .int (iI (ke)), .int (iI (on)), .int (iI (tw))])), (bd 1, .inl (cZ, 80, .inl (iA (u.1)))), (bd 2, .inl (cI, 160, .inl (iA (u.2.1)))), (bd 3, .inl (cZ, 8, .inl (iA (Ic)))), (bd 4, .inl (cI, 8, .inl (iA (Pm)))), (bd 6, .inl (cZ, 8, .inl (iA (Dm)))), (bd 7, .inl (cI, 16384, .inl (iA (u.2.2.1))))]) (fun w (u : (Int → Int) × (Int → Int) × (Int → Int) × Int) => ib w ∧ ∃ (V2 : Int → Int) (lg2 : Lg), (w, V2, lg2) = stmF P Mo V lg (wcV V (20 * t + k) c v) (pe V (20 * t + k) :: lg) 1 ∧ rV u.1 u.2.1 V2 ∧ isM lg2 u.2.2.1 u.2.2.2) := by
  refine z_ofMi (cc := cX8_updates) (maxL := 6) (ret := (some .int)) RX8 (by decide +kernel) rfl rfl (Nat.le_of_ble_eq_true rfl) ?_
  intro p0 en0 s0 m0 args0 below0 meth0 c0 ls AA hx hb hr hlocks hml hown hts hP hD hS hA hK hl
  have hl : lv_has ls 6 [(0, .ref (bd 0)), (1, .int (iI (t))), (2, .int (iI (k))), (3, .int (iI (c))), (4, .int (iI (v)))] := hl
  obtain ⟨H, hH⟩ : ∃ H, H = s0.heap := ⟨_, rfl⟩
  obtain ⟨locs, hlo⟩ : ∃ locs : List Loc, locs = [] := ⟨_, rfl⟩
  have hP : va_P D vwCl [(bd 0, .inr (8, [.ref (bd 1), .ref (bd 2), .ref (bd 3), .ref (bd 4), .ref (bd 5), .ref (bd 6), .ref (bd 7), .int (iI (cn)), .ref (bd 8), .int (iI (mp)), .ref (bd 9), .int (iI (ty)), .int (iI (th)), .ref (bd 10), .ref (bd 11), .int (iI (sp)), .int (iI (ta)), .int (iI (ke)), .int (iI (on)), .int (iI (tw))])), (bd 1, .inl (cZ, 80, .inl (iA (Ir)))), (bd 2, .inl (cI, 160, .inl (iA (Vm)))), (bd 3, .inl (cZ, 8, .inl (iA (Ic)))), (bd 4, .inl (cI, 8, .inl (iA (Pm)))), (bd 6, .inl (cZ, 8, .inl (iA (Dm)))), (bd 7, .inl (cI, 16384, .inl (iA (Lm))))] H := by rw [hH]; exact hP
  have hS : va_S AA s0.heap H locs := by rw [hH, hlo]; exact hS
  suffices hW : W p0 l en0 (headSpec wsX8_updates ({ frames := 5, cells := 0, slots := 0, locals := 115 })).room s0 m0 args0 below0 meth0 c0 H locs 0 0 (QMi below0 D ((fun (u : (Int → Int) × (Int → Int) × (Int → Int) × Int) => [(bd 0, .inr (8, [.ref (bd 1), .ref (bd 2), .ref (bd 3), .ref (bd 4), .ref (bd 5), .ref (bd 6), .ref (bd 7), .int (iI (u.2.2.2)), .ref (bd 8), .int (iI (mp)), .ref (bd 9), .int (iI (ty)), .int (iI (th)), .ref (bd 10), .ref (bd 11), .int (iI (sp)), .int (iI (ta)), .int (iI (ke)), .int (iI (on)), .int (iI (tw))])), (bd 1, .inl (cZ, 80, .inl (iA (u.1)))), (bd 2, .inl (cI, 160, .inl (iA (u.2.1)))), (bd 3, .inl (cZ, 8, .inl (iA (Ic)))), (bd 4, .inl (cI, 8, .inl (iA (Pm)))), (bd 6, .inl (cZ, 8, .inl (iA (Dm)))), (bd 7, .inl (cI, 16384, .inl (iA (u.2.2.1))))])) (fun w (u : (Int → Int) × (Int → Int) × (Int → Int) × Int) => ib w ∧ ∃ (V2 : Int → Int) (lg2 : Lg), (w, V2, lg2) = stmF P Mo V lg (wcV V (20 * t + k) c v) (pe V (20 * t + k) :: lg) 1 ∧ rV u.1 u.2.1 V2 ∧ isM lg2 u.2.2.1 u.2.2.2) AA args0 s0 (0) (0)) (F0 m0 0 ls []) by rw [hH, hlo] at hW; exact hW
  have g_Ir := rV_01 g_R
  have g_Vm := rV_all g_R
  have g_Ic := rC_i g_C
  have g_Pm := rC_p g_C
  have g_Am := rC_a g_C
  have g_Dm := rC_d g_C
  have g_nn := isM_n g_M
  refine lv_aload_n hx hb dX8_updates_0 rfl (lv_at hl 0 rfl) ?_
  refine va_get (D := D) (ci := 8) (v := .int (iI (cn))) (C := RX8) (T := TX8) (N := 20) hx hb hts (fun _ h => List.mem_cons_of_mem _ (List.mem_append_right _ (h))) hown hK.1 hP 0 rfl rfl 7 (by decide) (hts (.fieldLink RX8 67 "ForeignKeyStoreModel" "changes" "I") (List.mem_of_getElem? (i := 1) rfl)) (fun _ h9 => h9) rfl dX8_updates_1 ?_
  refine lv_istore (lv' := [(5, .int (iI (cn))), (0, .ref (bd 0)), (1, .int (iI (t))), (2, .int (iI (k))), (3, .int (iI (c))), (4, .int (iI (v)))]) hx hb dX8_updates_4 hl (by decide) rfl (fun ls hl => ?_)
  refine lv_aload_n hx hb dX8_updates_6 rfl (lv_at hl 1 rfl) ?_
  refine lv_iload_n hx hb dX8_updates_7 rfl (lv_at hl 2 rfl) ?_
  refine lv_iload_n hx hb dX8_updates_8 rfl (lv_at hl 3 rfl) ?_
  refine z_roS (As := [.int (iI (t)), .int (iI (k))]) (rest := [.ref (bd 0)]) ⟨hx, hb, hml, hown, hts⟩ (c_X8_row l D cI cZ cC (t) (k) ) (va_cwS 2 hts gX8_updates_X8_row rfl rfl rfl (by decide +kernel) ⟨Nat.le_of_ble_eq_true rfl, Nat.le_of_ble_eq_true rfl⟩) hP hK [] rfl rfl hl.1 rfl (Nat.le_of_ble_eq_true rfl) dX8_updates_9 ⟨by omega, by omega⟩ ?_
  refine lv_iload_n hx hb dX8_updates_12 rfl (lv_at hl 4 rfl) ?_
  refine lv_iload hx hb dX8_updates_13 (lv_at hl 5 rfl) ?_
  refine z_mvV (As := [.int (iI ((20 * t + k))), .int (iI (c)), .int (iI (v))]) (rest := []) (wr := [(bd 1, .inl (cZ, 80, .inl (iA (Ir)))), (bd 3, .inl (cZ, 8, .inl (iA (Ic)))), (bd 4, .inl (cI, 8, .inl (iA (Pm)))), (bd 6, .inl (cZ, 8, .inl (iA (Dm))))]) (ws2 := (fun (u : Unit) => [(bd 0, .inr (8, [.ref (bd 1), .ref (bd 2), .ref (bd 3), .ref (bd 4), .ref (bd 5), .ref (bd 6), .ref (bd 7), .int (iI (cn + 1)), .ref (bd 8), .int (iI (mp)), .ref (bd 9), .int (iI (ty)), .int (iI (th)), .ref (bd 10), .ref (bd 11), .int (iI (sp)), .int (iI (ta)), .int (iI (ke)), .int (iI (on)), .int (iI (tw))])), (bd 1, .inl (cZ, 80, .inl (iA (Ir)))), (bd 2, .inl (cI, 160, .inl (iA (uI Vm (2 * ((20 * t + k)) + c) v)))), (bd 3, .inl (cZ, 8, .inl (iA (Ic)))), (bd 4, .inl (cI, 8, .inl (iA (Pm)))), (bd 6, .inl (cZ, 8, .inl (iA (Dm)))), (bd 7, .inl (cI, 16384, .inl (iA (uI Lm cn (pkM 2 ((20 * t + k)) c (Vm (2 * ((20 * t + k)))) (Vm (2 * ((20 * t + k)) + 1)))))))])) ⟨hx, hb, hml, hown, hts⟩ (c_X8_sets l D cI cZ cC H.size (bd) (cn) (mp) (ty) (th) (sp) (ta) (ke) (on) (tw) (Ir) (Vm) (Lm) ((20 * t + k)) (c) (v) (by first | assumption | omega) (by first | assumption | omega) (by first | assumption | omega) (by first | assumption | omega) (by first | assumption | omega)) (cwV 3 hts gX8_updates_X8_sets rfl rfl rfl (by decide +kernel) ⟨Nat.le_of_ble_eq_true rfl, Nat.le_of_ble_eq_true rfl⟩) hP hD hS hA hK [0, 2, 6] [1, 3, 4, 5] [4, 0, 5, 1, 2, 3, 6] rfl (by decide) rfl (by decide) (by decide) (by decide) (fun _ => rfl) 0 8 rfl rfl rfl rfl hl.1 rfl (Nat.le_of_ble_eq_true rfl) dX8_updates_15 ⟨by omega, by omega⟩ (fun u H locs hq_1 hP hD hS => ?_)
  have hP : va_P D vwCl [(bd 0, .inr (8, [.ref (bd 1), .ref (bd 2), .ref (bd 3), .ref (bd 4), .ref (bd 5), .ref (bd 6), .ref (bd 7), .int (iI (cn + 1)), .ref (bd 8), .int (iI (mp)), .ref (bd 9), .int (iI (ty)), .int (iI (th)), .ref (bd 10), .ref (bd 11), .int (iI (sp)), .int (iI (ta)), .int (iI (ke)), .int (iI (on)), .int (iI (tw))])), (bd 1, .inl (cZ, 80, .inl (iA (Ir)))), (bd 2, .inl (cI, 160, .inl (iA (uI Vm (2 * ((20 * t + k)) + c) v)))), (bd 3, .inl (cZ, 8, .inl (iA (Ic)))), (bd 4, .inl (cI, 8, .inl (iA (Pm)))), (bd 6, .inl (cZ, 8, .inl (iA (Dm)))), (bd 7, .inl (cI, 16384, .inl (iA (uI Lm cn (pkM 2 ((20 * t + k)) c (Vm (2 * ((20 * t + k)))) (Vm (2 * ((20 * t + k)) + 1)))))))] H := hP
  have hD : va_D AA [(bd 0, .inr (8, [.ref (bd 1), .ref (bd 2), .ref (bd 3), .ref (bd 4), .ref (bd 5), .ref (bd 6), .ref (bd 7), .int (iI (cn + 1)), .ref (bd 8), .int (iI (mp)), .ref (bd 9), .int (iI (ty)), .int (iI (th)), .ref (bd 10), .ref (bd 11), .int (iI (sp)), .int (iI (ta)), .int (iI (ke)), .int (iI (on)), .int (iI (tw))])), (bd 1, .inl (cZ, 80, .inl (iA (Ir)))), (bd 2, .inl (cI, 160, .inl (iA (uI Vm (2 * ((20 * t + k)) + c) v)))), (bd 3, .inl (cZ, 8, .inl (iA (Ic)))), (bd 4, .inl (cI, 8, .inl (iA (Pm)))), (bd 6, .inl (cZ, 8, .inl (iA (Dm)))), (bd 7, .inl (cI, 16384, .inl (iA (uI Lm cn (pkM 2 ((20 * t + k)) c (Vm (2 * ((20 * t + k)))) (Vm (2 * ((20 * t + k)) + 1)))))))] := hD
  try dsimp only at hq_1
  have h_0 := g_R (20 * t + k) g_r.1 g_r.2
  have h_i1 : Ir (20 * t + k) = 1 := (rV_has g_R g_r).1 g_h
  have h_R := rV_set g_R g_r h_i1 g_c g_v
  have h_M := isM_push (e := pe V (20 * t + k)) g_M (relE_pk (x := 2) (r := 20 * t + k) (c := c) (a := Vm (2 * (20 * t + k))) (b := Vm (2 * (20 * t + k) + 1)) (by omega) g_r g_c (by omega) rfl (Or.inr ⟨by decide, by show V _ = _; omega, by show V _ = _; omega⟩))
  refine lv_aload_n hx hb dX8_updates_18 rfl (lv_at hl 1 rfl) ?_
  refine lv_iload hx hb dX8_updates_19 (lv_at hl 0 rfl) ?_
  refine lv_iconst (v := iI (1)) hx hb dX8_updates_21 rfl ?_
  refine z_muV (As := [.int (iI (cn)), .int (iI (1))]) (rest := []) (wr := []) (ws2 := (fun (u : (Int → Int) × (Int → Int) × Int) => [(bd 0, .inr (8, [.ref (bd 1), .ref (bd 2), .ref (bd 3), .ref (bd 4), .ref (bd 5), .ref (bd 6), .ref (bd 7), .int (iI (u.2.2)), .ref (bd 8), .int (iI (mp)), .ref (bd 9), .int (iI (ty)), .int (iI (th)), .ref (bd 10), .ref (bd 11), .int (iI (sp)), .int (iI (ta)), .int (iI (ke)), .int (iI (on)), .int (iI (tw))])), (bd 1, .inl (cZ, 80, .inl (iA (u.1)))), (bd 2, .inl (cI, 160, .inl (iA (u.2.1)))), (bd 3, .inl (cZ, 8, .inl (iA (Ic)))), (bd 4, .inl (cI, 8, .inl (iA (Pm)))), (bd 6, .inl (cZ, 8, .inl (iA (Dm)))), (bd 7, .inl (cI, 16384, .inl (iA ((uI Lm cn (pkM 2 ((20 * t + k)) c (Vm (2 * ((20 * t + k)))) (Vm (2 * ((20 * t + k)) + 1))))))))])) ⟨hx, hb, hml, hown, hts⟩ (c_X8_ends l D cI cZ cC H.size (bd) (cn + 1) (mp) (ty) (th) (sp) (ta) (ke) (on) (tw) (Ir) (uI Vm (2 * ((20 * t + k)) + c) v) (uI Lm cn (pkM 2 ((20 * t + k)) c (Vm (2 * ((20 * t + k)))) (Vm (2 * ((20 * t + k)) + 1)))) (wcV V (20 * t + k) c v) (Ic) (Pm) (Am) (Dm) (P) (Ac) (Mo) (pe V (20 * t + k) :: lg) (cn) (1) (h_R) (by first | assumption | omega) (h_M) (by omega) (⟨by omega, by omega⟩) (Or.inr ⟨by omega, by omega⟩)) (cwV 2 hts gX8_updates_X8_ends rfl rfl rfl (by decide +kernel) ⟨Nat.le_of_ble_eq_true rfl, Nat.le_of_ble_eq_true rfl⟩) hP hD hS hA hK [0, 1, 2, 3, 4, 5, 6] [] [0, 1, 2, 3, 4, 5, 6] rfl (by decide) rfl (by decide) (by decide) (by decide) (fun _ => rfl) 0 8 rfl rfl rfl rfl hl.1 rfl (Nat.le_of_ble_eq_true rfl) dX8_updates_22 ⟨by omega, by omega⟩ (fun r_3 u H locs hq_2 hP hD hS => ?_)
  obtain ⟨Ir_4, Vm_5, cn_6⟩ := u
  have hP : va_P D vwCl [(bd 0, .inr (8, [.ref (bd 1), .ref (bd 2), .ref (bd 3), .ref (bd 4), .ref (bd 5), .ref (bd 6), .ref (bd 7), .int (iI (cn_6)), .ref (bd 8), .int (iI (mp)), .ref (bd 9), .int (iI (ty)), .int (iI (th)), .ref (bd 10), .ref (bd 11), .int (iI (sp)), .int (iI (ta)), .int (iI (ke)), .int (iI (on)), .int (iI (tw))])), (bd 1, .inl (cZ, 80, .inl (iA (Ir_4)))), (bd 2, .inl (cI, 160, .inl (iA (Vm_5)))), (bd 3, .inl (cZ, 8, .inl (iA (Ic)))), (bd 4, .inl (cI, 8, .inl (iA (Pm)))), (bd 6, .inl (cZ, 8, .inl (iA (Dm)))), (bd 7, .inl (cI, 16384, .inl (iA ((uI Lm cn (pkM 2 ((20 * t + k)) c (Vm (2 * ((20 * t + k)))) (Vm (2 * ((20 * t + k)) + 1))))))))] H := hP
  have hD : va_D AA [(bd 0, .inr (8, [.ref (bd 1), .ref (bd 2), .ref (bd 3), .ref (bd 4), .ref (bd 5), .ref (bd 6), .ref (bd 7), .int (iI (cn_6)), .ref (bd 8), .int (iI (mp)), .ref (bd 9), .int (iI (ty)), .int (iI (th)), .ref (bd 10), .ref (bd 11), .int (iI (sp)), .int (iI (ta)), .int (iI (ke)), .int (iI (on)), .int (iI (tw))])), (bd 1, .inl (cZ, 80, .inl (iA (Ir_4)))), (bd 2, .inl (cI, 160, .inl (iA (Vm_5)))), (bd 3, .inl (cZ, 8, .inl (iA (Ic)))), (bd 4, .inl (cI, 8, .inl (iA (Pm)))), (bd 6, .inl (cZ, 8, .inl (iA (Dm)))), (bd 7, .inl (cI, 16384, .inl (iA ((uI Lm cn (pkM 2 ((20 * t + k)) c (Vm (2 * ((20 * t + k)))) (Vm (2 * ((20 * t + k)) + 1))))))))] := hD
  try dsimp only at hq_2
  refine z_mret ((Ir_4, Vm_5, (uI Lm cn (pkM 2 ((20 * t + k)) c (Vm (2 * ((20 * t + k)))) (Vm (2 * ((20 * t + k)) + 1)))), cn_6)) hx hb hr hlocks dX8_updates_25 hP hD hS ?_
  obtain ⟨z0, V2, lg2, z1, z2, z3⟩ := hq_2
  exact ⟨z0, V2, lg2, by rw [← ed_stm (by rw [wcV_eq g_r]; exact extL_push (extL_rf V lg)) g_nn]; exact z1, z2, z3⟩

set_option maxHeartbeats 600000 in
set_option maxRecDepth 100000 in
theorem c_X8_queues (l : Launch) (D : va_G) (cI cZ cC : ClassId) (sz : Nat) (bd : Nat → Nat) (cn mp ty th sp ta ke on tw : Int) (Qm : Int → Int) (r fr to : Int) (g_r : 0 ≤ r ∧ r < 80) (g_fr : 0 ≤ fr ∧ fr ≤ to ∧ to ≤ 80) (g_q : ∀ j : Int, 0 ≤ j → j < to → 0 ≤ Qm j ∧ Qm j < 80) (g_to : (∀ j : Int, fr ≤ j → j < to → ¬ Qm j = r) → to < 80) : zMi l yX8_queues wsX8_queues ({ frames := 0, cells := 0, slots := 0, locals := 0 }) D cI cZ cC [(bd 0, .inr (8, [.ref (bd 1), .ref (bd 2), .ref (bd 3), .ref (bd 4), .ref (bd 5), .ref (bd 6), .ref (bd 7), .int (iI (cn)), .ref (bd 8), .int (iI (mp)), .ref (bd 9), .int (iI (ty)), .int (iI (th)), .ref (bd 10), .ref (bd 11), .int (iI (sp)), .int (iI (ta)), .int (iI (ke)), .int (iI (on)), .int (iI (tw))])), (bd 10, .inl (cI, 80, .inl (iA (Qm))))] sz [.ref (bd 0), .int (iI (r)), .int (iI (fr)), .int (iI (to))] (0) (0) (fun (u : Int → Int) => [(bd 0, .inr (8, [.ref (bd 1), .ref (bd 2), .ref (bd 3), .ref (bd 4), .ref (bd 5), .ref (bd 6), .ref (bd 7), .int (iI (cn)), .ref (bd 8), .int (iI (mp)), .ref (bd 9), .int (iI (ty)), .int (iI (th)), .ref (bd 10), .ref (bd 11), .int (iI (sp)), .int (iI (ta)), .int (iI (ke)), .int (iI (on)), .int (iI (tw))])), (bd 10, .inl (cI, 80, .inl (iA (u))))]) (fun v (u : Int → Int) => (v = 0 ∧ u = Qm ∧ ∃ j : Int, fr ≤ j ∧ j < to ∧ Qm j = r) ∨ (v = 1 ∧ u = uI Qm to r ∧ ∀ j : Int, fr ≤ j → j < to → ¬ Qm j = r)) := by
  refine z_ofMi (cc := cX8_queues) (maxL := 5) (ret := (some .int)) RX8 (by decide +kernel) rfl rfl (Nat.le_of_ble_eq_true rfl) ?_
  intro p0 en0 s0 m0 args0 below0 meth0 c0 ls AA hx hb hr hlocks hml hown hts hP hD hS hA hK hl
  have hl : lv_has ls 5 [(0, .ref (bd 0)), (1, .int (iI (r))), (2, .int (iI (fr))), (3, .int (iI (to)))] := hl
  obtain ⟨H, hH⟩ : ∃ H, H = s0.heap := ⟨_, rfl⟩
  obtain ⟨locs, hlo⟩ : ∃ locs : List Loc, locs = [] := ⟨_, rfl⟩
  have hP : va_P D vwCl [(bd 0, .inr (8, [.ref (bd 1), .ref (bd 2), .ref (bd 3), .ref (bd 4), .ref (bd 5), .ref (bd 6), .ref (bd 7), .int (iI (cn)), .ref (bd 8), .int (iI (mp)), .ref (bd 9), .int (iI (ty)), .int (iI (th)), .ref (bd 10), .ref (bd 11), .int (iI (sp)), .int (iI (ta)), .int (iI (ke)), .int (iI (on)), .int (iI (tw))])), (bd 10, .inl (cI, 80, .inl (iA (Qm))))] H := by rw [hH]; exact hP
  have hS : va_S AA s0.heap H locs := by rw [hH, hlo]; exact hS
  suffices hW : W p0 l en0 (headSpec wsX8_queues ({ frames := 0, cells := 0, slots := 0, locals := 0 })).room s0 m0 args0 below0 meth0 c0 H locs 0 0 (QMi below0 D ((fun (u : Int → Int) => [(bd 0, .inr (8, [.ref (bd 1), .ref (bd 2), .ref (bd 3), .ref (bd 4), .ref (bd 5), .ref (bd 6), .ref (bd 7), .int (iI (cn)), .ref (bd 8), .int (iI (mp)), .ref (bd 9), .int (iI (ty)), .int (iI (th)), .ref (bd 10), .ref (bd 11), .int (iI (sp)), .int (iI (ta)), .int (iI (ke)), .int (iI (on)), .int (iI (tw))])), (bd 10, .inl (cI, 80, .inl (iA (u))))])) (fun v (u : Int → Int) => (v = 0 ∧ u = Qm ∧ ∃ j : Int, fr ≤ j ∧ j < to ∧ Qm j = r) ∨ (v = 1 ∧ u = uI Qm to r ∧ ∀ j : Int, fr ≤ j → j < to → ¬ Qm j = r)) AA args0 s0 (0) (0)) (F0 m0 0 ls []) by rw [hH, hlo] at hW; exact hW
  refine lv_iload_n hx hb dX8_queues_0 rfl (lv_at hl 2 rfl) ?_
  refine lv_istore (lv' := [(4, .int (iI (fr))), (0, .ref (bd 0)), (1, .int (iI (r))), (2, .int (iI (fr))), (3, .int (iI (to)))]) hx hb dX8_queues_1 hl (by decide) rfl (fun ls hl => ?_)
  have loop3 : ∀ (fu : Nat) (x : Int), (g_x : fr ≤ x ∧ x ≤ to) → (g_fu : to < x + (fu : Int)) → (g_c : ∀ j : Int, fr ≤ j → j < x → ¬ Qm j = r) → ∀ (H : Heap) (locs : List Loc), va_P D vwCl [(bd 0, .inr (8, [.ref (bd 1), .ref (bd 2), .ref (bd 3), .ref (bd 4), .ref (bd 5), .ref (bd 6), .ref (bd 7), .int (iI (cn)), .ref (bd 8), .int (iI (mp)), .ref (bd 9), .int (iI (ty)), .int (iI (th)), .ref (bd 10), .ref (bd 11), .int (iI (sp)), .int (iI (ta)), .int (iI (ke)), .int (iI (on)), .int (iI (tw))])), (bd 10, .inl (cI, 80, .inl (iA (Qm))))] H → va_D AA [(bd 0, .inr (8, [.ref (bd 1), .ref (bd 2), .ref (bd 3), .ref (bd 4), .ref (bd 5), .ref (bd 6), .ref (bd 7), .int (iI (cn)), .ref (bd 8), .int (iI (mp)), .ref (bd 9), .int (iI (ty)), .int (iI (th)), .ref (bd 10), .ref (bd 11), .int (iI (sp)), .int (iI (ta)), .int (iI (ke)), .int (iI (on)), .int (iI (tw))])), (bd 10, .inl (cI, 80, .inl (iA (Qm))))] → va_S AA s0.heap H locs → ∀ ls : Array Slot, lv_has ls 5 [(4, .int (iI (x))), (0, .ref (bd 0)), (1, .int (iI (r))), (2, .int (iI (fr))), (3, .int (iI (to)))] → W p0 l en0 (headSpec wsX8_queues ({ frames := 0, cells := 0, slots := 0, locals := 0 })).room s0 m0 args0 below0 meth0 c0 H locs 0 0 (QMi below0 D ((fun (u : Int → Int) => [(bd 0, .inr (8, [.ref (bd 1), .ref (bd 2), .ref (bd 3), .ref (bd 4), .ref (bd 5), .ref (bd 6), .ref (bd 7), .int (iI (cn)), .ref (bd 8), .int (iI (mp)), .ref (bd 9), .int (iI (ty)), .int (iI (th)), .ref (bd 10), .ref (bd 11), .int (iI (sp)), .int (iI (ta)), .int (iI (ke)), .int (iI (on)), .int (iI (tw))])), (bd 10, .inl (cI, 80, .inl (iA (u))))])) (fun v (u : Int → Int) => (v = 0 ∧ u = Qm ∧ ∃ j : Int, fr ≤ j ∧ j < to ∧ Qm j = r) ∨ (v = 1 ∧ u = uI Qm to r ∧ ∀ j : Int, fr ≤ j → j < to → ¬ Qm j = r)) AA args0 s0 (0) (0)) (F0 m0 3 ls []) := by
    intro fu
    induction fu with
    | zero => intro x g_x g_fu g_c H locs hP hD hS ls hl; exfalso; omega
    | succ fu ih3 =>
      intro x g_x g_fu g_c H locs hP hD hS ls hl
      refine lv_iload hx hb dX8_queues_3 (lv_at hl 0 rfl) ?_
      refine lv_iload_n hx hb dX8_queues_5 rfl (lv_at hl 4 rfl) ?_
      refine z_icmp_ge (tgt := 28) hx hb dX8_queues_6 (by decide) ⟨⟨by omega, by omega⟩, ⟨by omega, by omega⟩⟩ (fun c_1 => ?_) (fun c_1 => ?_)
      · have h_to := g_to (fun j h1 h2 => g_c j h1 (by omega))
        refine lv_aload_n hx hb dX8_queues_28 rfl (lv_at hl 1 rfl) ?_
        refine va_get (D := D) (ci := 8) (v := .ref (bd 10)) (C := RX8) (T := TX8) (N := 20) hx hb hts (fun _ h => List.mem_cons_of_mem _ (List.mem_append_right _ (h))) hown hK.1 hP 0 rfl rfl 13 (by decide) (hts (.fieldLink RX8 39 "ForeignKeyStoreModel" "queue" "[I") (List.mem_of_getElem? (i := 1) rfl)) (fun _ h9 => h9) rfl dX8_queues_29 ?_
        refine lv_iload_n hx hb dX8_queues_32 rfl (lv_at hl 4 rfl) ?_
        refine lv_iload_n hx hb dX8_queues_33 rfl (lv_at hl 2 rfl) ?_
        refine z_iast hx hb hK.1 hP hD hS 1 0 rfl rfl (by omega) (by decide) dX8_queues_34 (fun H locs hP hD hS => ?_)
        have hP : va_P D vwCl [(bd 0, .inr (8, [.ref (bd 1), .ref (bd 2), .ref (bd 3), .ref (bd 4), .ref (bd 5), .ref (bd 6), .ref (bd 7), .int (iI (cn)), .ref (bd 8), .int (iI (mp)), .ref (bd 9), .int (iI (ty)), .int (iI (th)), .ref (bd 10), .ref (bd 11), .int (iI (sp)), .int (iI (ta)), .int (iI (ke)), .int (iI (on)), .int (iI (tw))])), (bd 10, .inl (cI, 80, .inl (iA (uI (Qm) (to) (r)))))] H := hP
        have hD : va_D AA [(bd 0, .inr (8, [.ref (bd 1), .ref (bd 2), .ref (bd 3), .ref (bd 4), .ref (bd 5), .ref (bd 6), .ref (bd 7), .int (iI (cn)), .ref (bd 8), .int (iI (mp)), .ref (bd 9), .int (iI (ty)), .int (iI (th)), .ref (bd 10), .ref (bd 11), .int (iI (sp)), .int (iI (ta)), .int (iI (ke)), .int (iI (on)), .int (iI (tw))])), (bd 10, .inl (cI, 80, .inl (iA (uI (Qm) (to) (r)))))] := hD
        refine lv_iconst (v := iI (1)) hx hb dX8_queues_35 rfl ?_
        refine z_mret (uI (Qm) (to) (r)) hx hb hr hlocks dX8_queues_36 hP hD hS ?_
        exact Or.inr ⟨rfl, rfl, fun j h1 h2 => g_c j h1 (by omega)⟩
      · refine lv_aload_n hx hb dX8_queues_9 rfl (lv_at hl 1 rfl) ?_
        refine va_get (D := D) (ci := 8) (v := .ref (bd 10)) (C := RX8) (T := TX8) (N := 20) hx hb hts (fun _ h => List.mem_cons_of_mem _ (List.mem_append_right _ (h))) hown hK.1 hP 0 rfl rfl 13 (by decide) (hts (.fieldLink RX8 39 "ForeignKeyStoreModel" "queue" "[I") (List.mem_of_getElem? (i := 1) rfl)) (fun _ h9 => h9) rfl dX8_queues_10 ?_
        refine lv_iload hx hb dX8_queues_13 (lv_at hl 0 rfl) ?_
        refine z_iald hx hb hK.1 hP 1 0 rfl rfl (by omega) (by decide) dX8_queues_15 ?_
        have hb_2 := g_q (x) (by omega) (by omega)
        refine lv_iload_n hx hb dX8_queues_16 rfl (lv_at hl 2 rfl) ?_
        refine z_icmp_ne (tgt := 22) hx hb dX8_queues_17 (by decide) ⟨⟨by omega, by omega⟩, ⟨by omega, by omega⟩⟩ (fun c_3 => ?_) (fun c_3 => ?_)
        · refine lv_iinc (v := iI (x + 1)) (lv' := [(4, .int (iI (x + 1))), (0, .ref (bd 0)), (1, .int (iI (r))), (2, .int (iI (fr))), (3, .int (iI (to)))]) hx hb dX8_queues_22 hl (k := 0) rfl (iI_add (x) (1)) (by decide) rfl (fun ls hl => ?_)
          refine lv_goto (tgt := 3) hx hb dX8_queues_25 (by decide) ?_
          exact ih3 (x + 1) ⟨by omega, by omega⟩ (by omega) (fun j h1 h2 => if h3 : j < x then g_c j h1 h3 else by rw [show j = x by omega]; omega) _ _ hP hD hS _ (lv_sub hl [0, 1, 2, 3, 4] rfl)
        · refine lv_iconst (v := iI (0)) hx hb dX8_queues_20 rfl ?_
          refine z_mret (Qm) hx hb hr hlocks dX8_queues_21 hP hD hS ?_
          exact Or.inl ⟨rfl, rfl, x, by omega, by omega, by omega⟩
  exact loop3 ((to - fr).toNat + 1) fr ⟨by omega, by omega⟩ (by omega) (fun j h1 h2 => by omega) _ _ hP hD hS _ (lv_sub hl [0, 1, 2, 3, 4] rfl)

set_option maxHeartbeats 600000 in
set_option maxRecDepth 100000 in
theorem c_X8_goesAlong (l : Launch) (D : va_G) (cI cZ cC : ClassId) (sz : Nat) (bd : Nat → Nat) (cn mp ty th sp ta ke on tw : Int) (Ir Vm Lm Qm V : Int → Int) (Ic Pm Am Dm P Ac Mo : Int → Int) (lg : Lg) (r : Int) (g_R : rV Ir Vm V) (g_C : rC8 Ic Pm Am Dm P Ac Mo) (g_M : isM lg Lm cn) (g_D : okD 16384 V cn) (g_r : 0 ≤ r ∧ r < 80) (g_x : hasR V r) : zMi l yX8_goesAlong wsX8_goesAlong ({ frames := 2, cells := 0, slots := 0, locals := 46 }) D cI cZ cC [(bd 0, .inr (8, [.ref (bd 1), .ref (bd 2), .ref (bd 3), .ref (bd 4), .ref (bd 5), .ref (bd 6), .ref (bd 7), .int (iI (cn)), .ref (bd 8), .int (iI (mp)), .ref (bd 9), .int (iI (ty)), .int (iI (th)), .ref (bd 10), .ref (bd 11), .int (iI (sp)), .int (iI (ta)), .int (iI (ke)), .int (iI (on)), .int (iI (tw))])), (bd 1, .inl (cZ, 80, .inl (iA (Ir)))), (bd 2, .inl (cI, 160, .inl (iA (Vm)))), (bd 3, .inl (cZ, 8, .inl (iA (Ic)))), (bd 4, .inl (cI, 8, .inl (iA (Pm)))), (bd 5, .inl (cI, 8, .inl (iA (Am)))), (bd 7, .inl (cI, 16384, .inl (iA (Lm)))), (bd 10, .inl (cI, 80, .inl (iA (Qm))))] sz [.ref (bd 0), .int (iI (r))] (0) (0) (fun (u : (Int → Int) × (Int → Int) × (Int → Int) × (Int → Int) × Int) => [(bd 0, .inr (8, [.ref (bd 1), .ref (bd 2), .ref (bd 3), .ref (bd 4), .ref (bd 5), .ref (bd 6), .ref (bd 7), .int (iI (u.2.2.2.2)), .ref (bd 8), .int (iI (mp)), .ref (bd 9), .int (iI (ty)), .int (iI (th)), .ref (bd 10), .ref (bd 11), .int (iI (sp)), .int (iI (ta)), .int (iI (ke)), .int (iI (on)), .int (iI (tw))])), (bd 1, .inl (cZ, 80, .inl (iA (u.1)))), (bd 2, .inl (cI, 160, .inl (iA (u.2.1)))), (bd 3, .inl (cZ, 8, .inl (iA (Ic)))), (bd 4, .inl (cI, 8, .inl (iA (Pm)))), (bd 5, .inl (cI, 8, .inl (iA (Am)))), (bd 7, .inl (cI, 16384, .inl (iA (u.2.2.1)))), (bd 10, .inl (cI, 80, .inl (iA (u.2.2.2.1))))]) (fun v (u : (Int → Int) × (Int → Int) × (Int → Int) × (Int → Int) × Int) => (v ≤ -10 ∧ -18 < v ∨ 0 ≤ v ∧ v ≤ 80) ∧ ∃ (lg1 : Lg) (Qs1 : List Int) (V1 : Int → Int), (v, (V1, lg1, Qs1)) = delL P Ac 81 0 (V, lg, [r]) ∧ rV u.1 u.2.1 V1 ∧ isM lg1 u.2.2.1 u.2.2.2.2 ∧ okD 16384 V1 u.2.2.2.2 ∧ extL V lg V1 lg1) := by
  refine z_ofMi (cc := cX8_goesAlong) (maxL := 7) (ret := (some .int)) RX8 (by decide +kernel) rfl rfl (Nat.le_of_ble_eq_true rfl) ?_
  intro p0 en0 s0 m0 args0 below0 meth0 c0 ls AA hx hb hr hlocks hml hown hts hP hD hS hA hK hl
  have hl : lv_has ls 7 [(0, .ref (bd 0)), (1, .int (iI (r)))] := hl
  obtain ⟨H, hH⟩ : ∃ H, H = s0.heap := ⟨_, rfl⟩
  obtain ⟨locs, hlo⟩ : ∃ locs : List Loc, locs = [] := ⟨_, rfl⟩
  have hP : va_P D vwCl [(bd 0, .inr (8, [.ref (bd 1), .ref (bd 2), .ref (bd 3), .ref (bd 4), .ref (bd 5), .ref (bd 6), .ref (bd 7), .int (iI (cn)), .ref (bd 8), .int (iI (mp)), .ref (bd 9), .int (iI (ty)), .int (iI (th)), .ref (bd 10), .ref (bd 11), .int (iI (sp)), .int (iI (ta)), .int (iI (ke)), .int (iI (on)), .int (iI (tw))])), (bd 1, .inl (cZ, 80, .inl (iA (Ir)))), (bd 2, .inl (cI, 160, .inl (iA (Vm)))), (bd 3, .inl (cZ, 8, .inl (iA (Ic)))), (bd 4, .inl (cI, 8, .inl (iA (Pm)))), (bd 5, .inl (cI, 8, .inl (iA (Am)))), (bd 7, .inl (cI, 16384, .inl (iA (Lm)))), (bd 10, .inl (cI, 80, .inl (iA (Qm))))] H := by rw [hH]; exact hP
  have hS : va_S AA s0.heap H locs := by rw [hH, hlo]; exact hS
  suffices hW : W p0 l en0 (headSpec wsX8_goesAlong ({ frames := 2, cells := 0, slots := 0, locals := 46 })).room s0 m0 args0 below0 meth0 c0 H locs 0 0 (QMi below0 D ((fun (u : (Int → Int) × (Int → Int) × (Int → Int) × (Int → Int) × Int) => [(bd 0, .inr (8, [.ref (bd 1), .ref (bd 2), .ref (bd 3), .ref (bd 4), .ref (bd 5), .ref (bd 6), .ref (bd 7), .int (iI (u.2.2.2.2)), .ref (bd 8), .int (iI (mp)), .ref (bd 9), .int (iI (ty)), .int (iI (th)), .ref (bd 10), .ref (bd 11), .int (iI (sp)), .int (iI (ta)), .int (iI (ke)), .int (iI (on)), .int (iI (tw))])), (bd 1, .inl (cZ, 80, .inl (iA (u.1)))), (bd 2, .inl (cI, 160, .inl (iA (u.2.1)))), (bd 3, .inl (cZ, 8, .inl (iA (Ic)))), (bd 4, .inl (cI, 8, .inl (iA (Pm)))), (bd 5, .inl (cI, 8, .inl (iA (Am)))), (bd 7, .inl (cI, 16384, .inl (iA (u.2.2.1)))), (bd 10, .inl (cI, 80, .inl (iA (u.2.2.2.1))))])) (fun v (u : (Int → Int) × (Int → Int) × (Int → Int) × (Int → Int) × Int) => (v ≤ -10 ∧ -18 < v ∨ 0 ≤ v ∧ v ≤ 80) ∧ ∃ (lg1 : Lg) (Qs1 : List Int) (V1 : Int → Int), (v, (V1, lg1, Qs1)) = delL P Ac 81 0 (V, lg, [r]) ∧ rV u.1 u.2.1 V1 ∧ isM lg1 u.2.2.1 u.2.2.2.2 ∧ okD 16384 V1 u.2.2.2.2 ∧ extL V lg V1 lg1) AA args0 s0 (0) (0)) (F0 m0 0 ls []) by rw [hH, hlo] at hW; exact hW
  have g_Ir := rV_01 g_R
  have g_Vm := rV_all g_R
  have g_Ic := rC_i g_C
  have g_Pm := rC_p g_C
  have g_Am := rC_a g_C
  have g_Dm := rC_d g_C
  have g_nn := isM_n g_M
  have g_x2 := g_x.2.2
  refine lv_iconst (v := iI (0)) hx hb dX8_goesAlong_0 rfl ?_
  refine lv_istore_n (lv' := [(2, .int (iI (0))), (0, .ref (bd 0)), (1, .int (iI (r)))]) hx hb dX8_goesAlong_1 rfl hl (by decide) rfl (fun ls hl => ?_)
  refine lv_iconst (v := iI (1)) hx hb dX8_goesAlong_2 rfl ?_
  refine lv_istore_n (lv' := [(3, .int (iI (1))), (2, .int (iI (0))), (0, .ref (bd 0)), (1, .int (iI (r)))]) hx hb dX8_goesAlong_3 rfl hl (by decide) rfl (fun ls hl => ?_)
  refine lv_aload_n hx hb dX8_goesAlong_4 rfl (lv_at hl 2 rfl) ?_
  refine va_get (D := D) (ci := 8) (v := .ref (bd 10)) (C := RX8) (T := TX8) (N := 20) hx hb hts (fun _ h => List.mem_cons_of_mem _ (List.mem_append_right _ (h))) hown hK.1 hP 0 rfl rfl 13 (by decide) (hts (.fieldLink RX8 39 "ForeignKeyStoreModel" "queue" "[I") (List.mem_of_getElem? (i := 1) rfl)) (fun _ h9 => h9) rfl dX8_goesAlong_5 ?_
  refine lv_iconst (v := iI (0)) hx hb dX8_goesAlong_8 rfl ?_
  refine lv_iload_n hx hb dX8_goesAlong_9 rfl (lv_at hl 3 rfl) ?_
  refine z_iast hx hb hK.1 hP hD hS 7 0 rfl rfl (by omega) (by decide) dX8_goesAlong_10 (fun H locs hP hD hS => ?_)
  have hP : va_P D vwCl [(bd 0, .inr (8, [.ref (bd 1), .ref (bd 2), .ref (bd 3), .ref (bd 4), .ref (bd 5), .ref (bd 6), .ref (bd 7), .int (iI (cn)), .ref (bd 8), .int (iI (mp)), .ref (bd 9), .int (iI (ty)), .int (iI (th)), .ref (bd 10), .ref (bd 11), .int (iI (sp)), .int (iI (ta)), .int (iI (ke)), .int (iI (on)), .int (iI (tw))])), (bd 1, .inl (cZ, 80, .inl (iA (Ir)))), (bd 2, .inl (cI, 160, .inl (iA (Vm)))), (bd 3, .inl (cZ, 8, .inl (iA (Ic)))), (bd 4, .inl (cI, 8, .inl (iA (Pm)))), (bd 5, .inl (cI, 8, .inl (iA (Am)))), (bd 7, .inl (cI, 16384, .inl (iA (Lm)))), (bd 10, .inl (cI, 80, .inl (iA (uI (Qm) (0) (r)))))] H := hP
  have hD : va_D AA [(bd 0, .inr (8, [.ref (bd 1), .ref (bd 2), .ref (bd 3), .ref (bd 4), .ref (bd 5), .ref (bd 6), .ref (bd 7), .int (iI (cn)), .ref (bd 8), .int (iI (mp)), .ref (bd 9), .int (iI (ty)), .int (iI (th)), .ref (bd 10), .ref (bd 11), .int (iI (sp)), .int (iI (ta)), .int (iI (ke)), .int (iI (on)), .int (iI (tw))])), (bd 1, .inl (cZ, 80, .inl (iA (Ir)))), (bd 2, .inl (cI, 160, .inl (iA (Vm)))), (bd 3, .inl (cZ, 8, .inl (iA (Ic)))), (bd 4, .inl (cI, 8, .inl (iA (Pm)))), (bd 5, .inl (cI, 8, .inl (iA (Am)))), (bd 7, .inl (cI, 16384, .inl (iA (Lm)))), (bd 10, .inl (cI, 80, .inl (iA (uI (Qm) (0) (r)))))] := hD
  have loop11 : ∀ (fu : Nat) (i : Nat) (Irx Vmx Lmx Qmx Vx : Int → Int) (mx qx : Int) (lgx : Lg) (Qsx : List Int), (g_i : i ≤ 80) → (g_fu : 80 < i + fu) → (g_Rx : rV Irx Vmx Vx) → (g_Mx : isM lgx Lmx mx) → (g_Dx : okD 16384 Vx mx) → (g_E : extL V lg Vx lgx) → (g_Q : isMQ Qsx Qmx qx) → (g_e : exQ Vx Qsx i) → (g_a : abQ Vx Qsx i) → (g_il : (i : Int) ≤ qx) → (g_t : delL P Ac 81 0 (V, lg, [r]) = delL P Ac (81 - i) i (Vx, lgx, Qsx)) → ∀ (H : Heap) (locs : List Loc), va_P D vwCl [(bd 0, .inr (8, [.ref (bd 1), .ref (bd 2), .ref (bd 3), .ref (bd 4), .ref (bd 5), .ref (bd 6), .ref (bd 7), .int (iI (mx)), .ref (bd 8), .int (iI (mp)), .ref (bd 9), .int (iI (ty)), .int (iI (th)), .ref (bd 10), .ref (bd 11), .int (iI (sp)), .int (iI (ta)), .int (iI (ke)), .int (iI (on)), .int (iI (tw))])), (bd 1, .inl (cZ, 80, .inl (iA (Irx)))), (bd 2, .inl (cI, 160, .inl (iA (Vmx)))), (bd 3, .inl (cZ, 8, .inl (iA (Ic)))), (bd 4, .inl (cI, 8, .inl (iA (Pm)))), (bd 5, .inl (cI, 8, .inl (iA (Am)))), (bd 7, .inl (cI, 16384, .inl (iA (Lmx)))), (bd 10, .inl (cI, 80, .inl (iA (Qmx))))] H → va_D AA [(bd 0, .inr (8, [.ref (bd 1), .ref (bd 2), .ref (bd 3), .ref (bd 4), .ref (bd 5), .ref (bd 6), .ref (bd 7), .int (iI (mx)), .ref (bd 8), .int (iI (mp)), .ref (bd 9), .int (iI (ty)), .int (iI (th)), .ref (bd 10), .ref (bd 11), .int (iI (sp)), .int (iI (ta)), .int (iI (ke)), .int (iI (on)), .int (iI (tw))])), (bd 1, .inl (cZ, 80, .inl (iA (Irx)))), (bd 2, .inl (cI, 160, .inl (iA (Vmx)))), (bd 3, .inl (cZ, 8, .inl (iA (Ic)))), (bd 4, .inl (cI, 8, .inl (iA (Pm)))), (bd 5, .inl (cI, 8, .inl (iA (Am)))), (bd 7, .inl (cI, 16384, .inl (iA (Lmx)))), (bd 10, .inl (cI, 80, .inl (iA (Qmx))))] → va_S AA s0.heap H locs → ∀ ls : Array Slot, lv_has ls 7 [(3, .int (iI (qx))), (2, .int (iI ((i : Int)))), (0, .ref (bd 0)), (1, .int (iI (r)))] → W p0 l en0 (headSpec wsX8_goesAlong ({ frames := 2, cells := 0, slots := 0, locals := 46 })).room s0 m0 args0 below0 meth0 c0 H locs 0 0 (QMi below0 D ((fun (u : (Int → Int) × (Int → Int) × (Int → Int) × (Int → Int) × Int) => [(bd 0, .inr (8, [.ref (bd 1), .ref (bd 2), .ref (bd 3), .ref (bd 4), .ref (bd 5), .ref (bd 6), .ref (bd 7), .int (iI (u.2.2.2.2)), .ref (bd 8), .int (iI (mp)), .ref (bd 9), .int (iI (ty)), .int (iI (th)), .ref (bd 10), .ref (bd 11), .int (iI (sp)), .int (iI (ta)), .int (iI (ke)), .int (iI (on)), .int (iI (tw))])), (bd 1, .inl (cZ, 80, .inl (iA (u.1)))), (bd 2, .inl (cI, 160, .inl (iA (u.2.1)))), (bd 3, .inl (cZ, 8, .inl (iA (Ic)))), (bd 4, .inl (cI, 8, .inl (iA (Pm)))), (bd 5, .inl (cI, 8, .inl (iA (Am)))), (bd 7, .inl (cI, 16384, .inl (iA (u.2.2.1)))), (bd 10, .inl (cI, 80, .inl (iA (u.2.2.2.1))))])) (fun v (u : (Int → Int) × (Int → Int) × (Int → Int) × (Int → Int) × Int) => (v ≤ -10 ∧ -18 < v ∨ 0 ≤ v ∧ v ≤ 80) ∧ ∃ (lg1 : Lg) (Qs1 : List Int) (V1 : Int → Int), (v, (V1, lg1, Qs1)) = delL P Ac 81 0 (V, lg, [r]) ∧ rV u.1 u.2.1 V1 ∧ isM lg1 u.2.2.1 u.2.2.2.2 ∧ okD 16384 V1 u.2.2.2.2 ∧ extL V lg V1 lg1) AA args0 s0 (0) (0)) (F0 m0 11 ls []) := by
    intro fu
    induction fu with
    | zero => intro i Irx Vmx Lmx Qmx Vx mx qx lgx Qsx g_i g_fu g_Rx g_Mx g_Dx g_E g_Q g_e g_a g_il g_t H locs hP hD hS ls hl; exfalso; omega
    | succ fu ih11 =>
      intro i Irx Vmx Lmx Qmx Vx mx qx lgx Qsx g_i g_fu g_Rx g_Mx g_Dx g_E g_Q g_e g_a g_il g_t H locs hP hD hS ls hl
      have g_len := isMQ_len g_Q
      have e0 := g_Q.1
      refine lv_iload_n hx hb dX8_goesAlong_11 rfl (lv_at hl 1 rfl) ?_
      refine lv_iload_n hx hb dX8_goesAlong_12 rfl (lv_at hl 0 rfl) ?_
      refine z_icmp_ge (tgt := 169) hx hb dX8_goesAlong_13 (by decide) ⟨⟨by omega, by omega⟩, ⟨by omega, by omega⟩⟩ (fun c_1 => ?_) (fun c_1 => ?_)
      · refine lv_iload_n hx hb dX8_goesAlong_169 rfl (lv_at hl 1 rfl) ?_
        refine z_mret ((Irx, Vmx, Lmx, Qmx, mx)) hx hb hr hlocks dX8_goesAlong_170 hP hD hS ?_
        refine ⟨by omega, lgx, Qsx, Vx, ?_, g_Rx, g_Mx, g_Dx, g_E⟩
        rw [g_t, delL_out (by omega), ← e0, show qx = (i : Int) by omega]
      · have h_r := isMQ_at g_Q (i := i) (by omega)
        have h_ne : ¬ Vx (Qmx (i : Int) * 2) = -2 := by rw [h_r.1]; exact g_e i (Nat.le_refl _) (by omega)
        have h_er := okD_erase g_Dx h_r.2.1 h_r.2.2 h_ne
        have h_nx := isM_n g_Mx
        refine lv_aload_n hx hb dX8_goesAlong_16 rfl (lv_at hl 2 rfl) ?_
        refine va_get (D := D) (ci := 8) (v := .ref (bd 10)) (C := RX8) (T := TX8) (N := 20) hx hb hts (fun _ h => List.mem_cons_of_mem _ (List.mem_append_right _ (h))) hown hK.1 hP 0 rfl rfl 13 (by decide) (hts (.fieldLink RX8 39 "ForeignKeyStoreModel" "queue" "[I") (List.mem_of_getElem? (i := 1) rfl)) (fun _ h9 => h9) rfl dX8_goesAlong_17 ?_
        refine lv_iload_n hx hb dX8_goesAlong_20 rfl (lv_at hl 1 rfl) ?_
        refine z_iald hx hb hK.1 hP 7 0 rfl rfl (by omega) (by decide) dX8_goesAlong_21 ?_
        refine lv_istore (lv' := [(4, .int (iI ((Qmx ((i : Int)))))), (3, .int (iI (qx))), (2, .int (iI ((i : Int)))), (0, .ref (bd 0)), (1, .int (iI (r)))]) hx hb dX8_goesAlong_22 hl (by decide) rfl (fun ls hl => ?_)
        refine lv_iinc (v := iI ((i : Int) + 1)) (lv' := [(2, .int (iI ((i : Int) + 1))), (4, .int (iI ((Qmx ((i : Int)))))), (3, .int (iI (qx))), (0, .ref (bd 0)), (1, .int (iI (r)))]) hx hb dX8_goesAlong_24 hl (k := 2) rfl (iI_add ((i : Int)) (1)) (by decide) rfl (fun ls hl => ?_)
        refine lv_aload_n hx hb dX8_goesAlong_27 rfl (lv_at hl 3 rfl) ?_
        refine lv_iload hx hb dX8_goesAlong_28 (lv_at hl 1 rfl) ?_
        refine z_mvV (As := [.int (iI ((Qmx ((i : Int)))))]) (rest := []) (wr := [(bd 3, .inl (cZ, 8, .inl (iA (Ic)))), (bd 4, .inl (cI, 8, .inl (iA (Pm)))), (bd 5, .inl (cI, 8, .inl (iA (Am)))), (bd 10, .inl (cI, 80, .inl (iA (Qmx))))]) (ws2 := (fun (u : Unit) => [(bd 0, .inr (8, [.ref (bd 1), .ref (bd 2), .ref (bd 3), .ref (bd 4), .ref (bd 5), .ref (bd 6), .ref (bd 7), .int (iI (mx + 1)), .ref (bd 8), .int (iI (mp)), .ref (bd 9), .int (iI (ty)), .int (iI (th)), .ref (bd 10), .ref (bd 11), .int (iI (sp)), .int (iI (ta)), .int (iI (ke)), .int (iI (on)), .int (iI (tw))])), (bd 1, .inl (cZ, 80, .inl (iA (uI Irx ((Qmx ((i : Int)))) 0)))), (bd 2, .inl (cI, 160, .inl (iA (Vmx)))), (bd 3, .inl (cZ, 8, .inl (iA (Ic)))), (bd 4, .inl (cI, 8, .inl (iA (Pm)))), (bd 5, .inl (cI, 8, .inl (iA (Am)))), (bd 7, .inl (cI, 16384, .inl (iA (uI Lmx mx (pkM 1 ((Qmx ((i : Int)))) 0 (Vmx (2 * ((Qmx ((i : Int)))))) (Vmx (2 * ((Qmx ((i : Int)))) + 1))))))), (bd 10, .inl (cI, 80, .inl (iA (Qmx))))])) ⟨hx, hb, hml, hown, hts⟩ (c_X8_removes l D cI cZ cC H.size (bd) (mx) (mp) (ty) (th) (sp) (ta) (ke) (on) (tw) (Irx) (Vmx) (Lmx) ((Qmx ((i : Int)))) (rV_all g_Rx) (⟨h_er.1.1, by have := h_er.1.2.1; omega⟩) (h_r.2)) (cwV 1 hts gX8_goesAlong_X8_removes rfl rfl rfl (by decide +kernel) ⟨Nat.le_of_ble_eq_true rfl, Nat.le_of_ble_eq_true rfl⟩) hP hD hS hA hK [0, 1, 2, 6] [3, 4, 5, 7] [4, 5, 6, 0, 1, 2, 7, 3] rfl (by decide) rfl (by decide) (by decide) (by decide) (fun _ => rfl) 0 8 rfl rfl rfl rfl hl.1 rfl (Nat.le_of_ble_eq_true rfl) dX8_goesAlong_30 ⟨by omega, by omega⟩ (fun u H locs hq_2 hP hD hS => ?_)
        have hP : va_P D vwCl [(bd 0, .inr (8, [.ref (bd 1), .ref (bd 2), .ref (bd 3), .ref (bd 4), .ref (bd 5), .ref (bd 6), .ref (bd 7), .int (iI (mx + 1)), .ref (bd 8), .int (iI (mp)), .ref (bd 9), .int (iI (ty)), .int (iI (th)), .ref (bd 10), .ref (bd 11), .int (iI (sp)), .int (iI (ta)), .int (iI (ke)), .int (iI (on)), .int (iI (tw))])), (bd 1, .inl (cZ, 80, .inl (iA (uI Irx ((Qmx ((i : Int)))) 0)))), (bd 2, .inl (cI, 160, .inl (iA (Vmx)))), (bd 3, .inl (cZ, 8, .inl (iA (Ic)))), (bd 4, .inl (cI, 8, .inl (iA (Pm)))), (bd 5, .inl (cI, 8, .inl (iA (Am)))), (bd 7, .inl (cI, 16384, .inl (iA (uI Lmx mx (pkM 1 ((Qmx ((i : Int)))) 0 (Vmx (2 * ((Qmx ((i : Int)))))) (Vmx (2 * ((Qmx ((i : Int)))) + 1))))))), (bd 10, .inl (cI, 80, .inl (iA (Qmx))))] H := hP
        have hD : va_D AA [(bd 0, .inr (8, [.ref (bd 1), .ref (bd 2), .ref (bd 3), .ref (bd 4), .ref (bd 5), .ref (bd 6), .ref (bd 7), .int (iI (mx + 1)), .ref (bd 8), .int (iI (mp)), .ref (bd 9), .int (iI (ty)), .int (iI (th)), .ref (bd 10), .ref (bd 11), .int (iI (sp)), .int (iI (ta)), .int (iI (ke)), .int (iI (on)), .int (iI (tw))])), (bd 1, .inl (cZ, 80, .inl (iA (uI Irx ((Qmx ((i : Int)))) 0)))), (bd 2, .inl (cI, 160, .inl (iA (Vmx)))), (bd 3, .inl (cZ, 8, .inl (iA (Ic)))), (bd 4, .inl (cI, 8, .inl (iA (Pm)))), (bd 5, .inl (cI, 8, .inl (iA (Am)))), (bd 7, .inl (cI, 16384, .inl (iA (uI Lmx mx (pkM 1 ((Qmx ((i : Int)))) 0 (Vmx (2 * ((Qmx ((i : Int)))))) (Vmx (2 * ((Qmx ((i : Int)))) + 1))))))), (bd 10, .inl (cI, 80, .inl (iA (Qmx))))] := hD
        try dsimp only at hq_2
        have h_0 := g_Rx (Qmx (i : Int)) h_r.2.1 h_r.2.2
        have h_R8 := rV_rm (r := Qmx (i : Int)) g_Rx
        have h_M8 := isM_push (e := pe Vx (Qmx (i : Int))) g_Mx (relE_pk (x := 1) (r := Qmx (i : Int)) (c := 0) (a := Vmx (2 * Qmx (i : Int))) (b := Vmx (2 * Qmx (i : Int) + 1)) (by omega) h_r.2 (Or.inl rfl) (by omega) rfl (Or.inr ⟨by decide, by show Vx _ = _; omega, by show Vx _ = _; omega⟩))
        refine lv_iconst (v := iI (0)) hx hb dX8_goesAlong_33 rfl ?_
        refine lv_istore (lv' := [(5, .int (iI (0))), (2, .int (iI ((i : Int) + 1))), (4, .int (iI ((Qmx ((i : Int)))))), (3, .int (iI (qx))), (0, .ref (bd 0)), (1, .int (iI (r)))]) hx hb dX8_goesAlong_34 hl (by decide) rfl (fun ls hl => ?_)
        have loop36 : ∀ (fu : Nat) (k : Nat) (Iry Vmy Lmy Qmy Vy : Int → Int) (my qy : Int) (lgy : Lg) (Qsy : List Int), (g_k : k ≤ 8) → (g_fu2 : 8 < k + fu) → (g_Ry : rV Iry Vmy Vy) → (g_My : isM lgy Lmy my) → (g_Dy : okD 16384 Vy my) → (g_E2 : extL V lg Vy lgy) → (g_Qy : isMQ Qsy Qmy qy) → (g_ey : exQ Vy Qsy (i + 1)) → (g_ay : abQ Vy Qsy (i + 1)) → (g_il2 : (i : Int) + 1 ≤ qy) → (g_w : numL P Ac (Qsx.getD i 0) 8 0 (wrV Vx (Qsx.getD i 0) (-2) (-2), pe Vx (Qsx.getD i 0) :: lgx, Qsx) = numL P Ac (Qsx.getD i 0) (8 - k) k (Vy, lgy, Qsy)) → ∀ (H : Heap) (locs : List Loc), va_P D vwCl [(bd 0, .inr (8, [.ref (bd 1), .ref (bd 2), .ref (bd 3), .ref (bd 4), .ref (bd 5), .ref (bd 6), .ref (bd 7), .int (iI (my)), .ref (bd 8), .int (iI (mp)), .ref (bd 9), .int (iI (ty)), .int (iI (th)), .ref (bd 10), .ref (bd 11), .int (iI (sp)), .int (iI (ta)), .int (iI (ke)), .int (iI (on)), .int (iI (tw))])), (bd 1, .inl (cZ, 80, .inl (iA (Iry)))), (bd 2, .inl (cI, 160, .inl (iA (Vmy)))), (bd 3, .inl (cZ, 8, .inl (iA (Ic)))), (bd 4, .inl (cI, 8, .inl (iA (Pm)))), (bd 5, .inl (cI, 8, .inl (iA (Am)))), (bd 7, .inl (cI, 16384, .inl (iA (Lmy)))), (bd 10, .inl (cI, 80, .inl (iA (Qmy))))] H → va_D AA [(bd 0, .inr (8, [.ref (bd 1), .ref (bd 2), .ref (bd 3), .ref (bd 4), .ref (bd 5), .ref (bd 6), .ref (bd 7), .int (iI (my)), .ref (bd 8), .int (iI (mp)), .ref (bd 9), .int (iI (ty)), .int (iI (th)), .ref (bd 10), .ref (bd 11), .int (iI (sp)), .int (iI (ta)), .int (iI (ke)), .int (iI (on)), .int (iI (tw))])), (bd 1, .inl (cZ, 80, .inl (iA (Iry)))), (bd 2, .inl (cI, 160, .inl (iA (Vmy)))), (bd 3, .inl (cZ, 8, .inl (iA (Ic)))), (bd 4, .inl (cI, 8, .inl (iA (Pm)))), (bd 5, .inl (cI, 8, .inl (iA (Am)))), (bd 7, .inl (cI, 16384, .inl (iA (Lmy)))), (bd 10, .inl (cI, 80, .inl (iA (Qmy))))] → va_S AA s0.heap H locs → ∀ ls : Array Slot, lv_has ls 7 [(5, .int (iI ((k : Int)))), (4, .int (iI (Qmx (i : Int)))), (3, .int (iI (qy))), (2, .int (iI ((i : Int) + 1))), (0, .ref (bd 0)), (1, .int (iI (r)))] → W p0 l en0 (headSpec wsX8_goesAlong ({ frames := 2, cells := 0, slots := 0, locals := 46 })).room s0 m0 args0 below0 meth0 c0 H locs 0 0 (QMi below0 D ((fun (u : (Int → Int) × (Int → Int) × (Int → Int) × (Int → Int) × Int) => [(bd 0, .inr (8, [.ref (bd 1), .ref (bd 2), .ref (bd 3), .ref (bd 4), .ref (bd 5), .ref (bd 6), .ref (bd 7), .int (iI (u.2.2.2.2)), .ref (bd 8), .int (iI (mp)), .ref (bd 9), .int (iI (ty)), .int (iI (th)), .ref (bd 10), .ref (bd 11), .int (iI (sp)), .int (iI (ta)), .int (iI (ke)), .int (iI (on)), .int (iI (tw))])), (bd 1, .inl (cZ, 80, .inl (iA (u.1)))), (bd 2, .inl (cI, 160, .inl (iA (u.2.1)))), (bd 3, .inl (cZ, 8, .inl (iA (Ic)))), (bd 4, .inl (cI, 8, .inl (iA (Pm)))), (bd 5, .inl (cI, 8, .inl (iA (Am)))), (bd 7, .inl (cI, 16384, .inl (iA (u.2.2.1)))), (bd 10, .inl (cI, 80, .inl (iA (u.2.2.2.1))))])) (fun v (u : (Int → Int) × (Int → Int) × (Int → Int) × (Int → Int) × Int) => (v ≤ -10 ∧ -18 < v ∨ 0 ≤ v ∧ v ≤ 80) ∧ ∃ (lg1 : Lg) (Qs1 : List Int) (V1 : Int → Int), (v, (V1, lg1, Qs1)) = delL P Ac 81 0 (V, lg, [r]) ∧ rV u.1 u.2.1 V1 ∧ isM lg1 u.2.2.1 u.2.2.2.2 ∧ okD 16384 V1 u.2.2.2.2 ∧ extL V lg V1 lg1) AA args0 s0 (0) (0)) (F0 m0 36 ls []) := by
          intro fu
          induction fu with
          | zero => intro k Iry Vmy Lmy Qmy Vy my qy lgy Qsy g_k g_fu2 g_Ry g_My g_Dy g_E2 g_Qy g_ey g_ay g_il2 g_w H locs hP hD hS ls hl; exfalso; omega
          | succ fu ih36 =>
            intro k Iry Vmy Lmy Qmy Vy my qy lgy Qsy g_k g_fu2 g_Ry g_My g_Dy g_E2 g_Qy g_ey g_ay g_il2 g_w H locs hP hD hS ls hl
            refine lv_iload hx hb dX8_goesAlong_36 (lv_at hl 0 rfl) ?_
            refine lv_bipush (v := iI (8)) hx hb dX8_goesAlong_38 (by decide) ?_
            refine z_icmp_ge (tgt := 166) hx hb dX8_goesAlong_40 (by decide) ⟨⟨by omega, by omega⟩, ⟨by omega, by omega⟩⟩ (fun c_3 => ?_) (fun c_3 => ?_)
            · refine lv_goto (tgt := 11) hx hb dX8_goesAlong_166 (by decide) ?_
              exact ih11 (i + 1) _ _ _ _ Vy _ _ lgy Qsy (by omega) (by omega) g_Ry g_My g_Dy g_E2 g_Qy g_ey g_ay (by omega) (by rw [g_t, show 81 - i = (81 - (i + 1)) + 1 by omega, delL, if_pos (by omega), g_w, show 8 - k = 0 by omega, numL_0, if_pos rfl]) _ _ hP hD hS _ (lv_sub hl [2, 3, 4, 5] rfl)
            · refine lv_iload hx hb dX8_goesAlong_43 (lv_at hl 0 rfl) ?_
              refine lv_iconst (v := iI (2)) hx hb dX8_goesAlong_45 rfl ?_
              refine z_idiv hx hb dX8_goesAlong_46 (by omega) (by omega) ?_
              refine lv_iconst (v := iI (0)) hx hb dX8_goesAlong_47 rfl ?_
              refine z_roS (As := [.int (iI (((k : Int) / 2))), .int (iI (0))]) (rest := []) ⟨hx, hb, hml, hown, hts⟩ (c_X8_row l D cI cZ cC (((k : Int) / 2)) (0) ) (va_cwS 2 hts gX8_goesAlong_X8_row rfl rfl rfl (by decide +kernel) ⟨Nat.le_of_ble_eq_true rfl, Nat.le_of_ble_eq_true rfl⟩) hP hK [] rfl rfl hl.1 rfl (Nat.le_of_ble_eq_true rfl) dX8_goesAlong_48 ⟨by omega, by omega⟩ ?_
              refine lv_istore (lv' := [(6, .int (iI ((20 * (((k : Int) / 2)) + 0)))), (5, .int (iI ((k : Int)))), (4, .int (iI (Qmx (i : Int)))), (3, .int (iI (qy))), (2, .int (iI ((i : Int) + 1))), (0, .ref (bd 0)), (1, .int (iI (r)))]) hx hb dX8_goesAlong_51 hl (by decide) rfl (fun ls hl => ?_)
              have loop53 : ∀ (fu : Nat) (j : Nat) (x : Int) (Irz Vmz Lmz Qmz Vz : Int → Int) (mz qz : Int) (lgz : Lg) (Qsz : List Int), (g_j : j ≤ 20) → (g_fu3 : 20 < j + fu) → (g_xx : x = (k : Int) / 2 * 20 + (j : Int)) → (g_Rz : rV Irz Vmz Vz) → (g_Mz : isM lgz Lmz mz) → (g_Dz : okD 16384 Vz mz) → (g_E3 : extL V lg Vz lgz) → (g_Qz : isMQ Qsz Qmz qz) → (g_ez : exQ Vz Qsz (i + 1)) → (g_az : abQ Vz Qsz (i + 1)) → (g_il3 : (i : Int) + 1 ≤ qz) → (g_u : trL P Ac (k : Int) (Qmx (i : Int)) 20 0 (Vy, lgy, Qsy) = trL P Ac (k : Int) (Qmx (i : Int)) (20 - j) (j : Int) (Vz, lgz, Qsz)) → ∀ (H : Heap) (locs : List Loc), va_P D vwCl [(bd 0, .inr (8, [.ref (bd 1), .ref (bd 2), .ref (bd 3), .ref (bd 4), .ref (bd 5), .ref (bd 6), .ref (bd 7), .int (iI (mz)), .ref (bd 8), .int (iI (mp)), .ref (bd 9), .int (iI (ty)), .int (iI (th)), .ref (bd 10), .ref (bd 11), .int (iI (sp)), .int (iI (ta)), .int (iI (ke)), .int (iI (on)), .int (iI (tw))])), (bd 1, .inl (cZ, 80, .inl (iA (Irz)))), (bd 2, .inl (cI, 160, .inl (iA (Vmz)))), (bd 3, .inl (cZ, 8, .inl (iA (Ic)))), (bd 4, .inl (cI, 8, .inl (iA (Pm)))), (bd 5, .inl (cI, 8, .inl (iA (Am)))), (bd 7, .inl (cI, 16384, .inl (iA (Lmz)))), (bd 10, .inl (cI, 80, .inl (iA (Qmz))))] H → va_D AA [(bd 0, .inr (8, [.ref (bd 1), .ref (bd 2), .ref (bd 3), .ref (bd 4), .ref (bd 5), .ref (bd 6), .ref (bd 7), .int (iI (mz)), .ref (bd 8), .int (iI (mp)), .ref (bd 9), .int (iI (ty)), .int (iI (th)), .ref (bd 10), .ref (bd 11), .int (iI (sp)), .int (iI (ta)), .int (iI (ke)), .int (iI (on)), .int (iI (tw))])), (bd 1, .inl (cZ, 80, .inl (iA (Irz)))), (bd 2, .inl (cI, 160, .inl (iA (Vmz)))), (bd 3, .inl (cZ, 8, .inl (iA (Ic)))), (bd 4, .inl (cI, 8, .inl (iA (Pm)))), (bd 5, .inl (cI, 8, .inl (iA (Am)))), (bd 7, .inl (cI, 16384, .inl (iA (Lmz)))), (bd 10, .inl (cI, 80, .inl (iA (Qmz))))] → va_S AA s0.heap H locs → ∀ ls : Array Slot, lv_has ls 7 [(6, .int (iI (x))), (5, .int (iI ((k : Int)))), (4, .int (iI (Qmx (i : Int)))), (3, .int (iI (qz))), (2, .int (iI ((i : Int) + 1))), (0, .ref (bd 0)), (1, .int (iI (r)))] → W p0 l en0 (headSpec wsX8_goesAlong ({ frames := 2, cells := 0, slots := 0, locals := 46 })).room s0 m0 args0 below0 meth0 c0 H locs 0 0 (QMi below0 D ((fun (u : (Int → Int) × (Int → Int) × (Int → Int) × (Int → Int) × Int) => [(bd 0, .inr (8, [.ref (bd 1), .ref (bd 2), .ref (bd 3), .ref (bd 4), .ref (bd 5), .ref (bd 6), .ref (bd 7), .int (iI (u.2.2.2.2)), .ref (bd 8), .int (iI (mp)), .ref (bd 9), .int (iI (ty)), .int (iI (th)), .ref (bd 10), .ref (bd 11), .int (iI (sp)), .int (iI (ta)), .int (iI (ke)), .int (iI (on)), .int (iI (tw))])), (bd 1, .inl (cZ, 80, .inl (iA (u.1)))), (bd 2, .inl (cI, 160, .inl (iA (u.2.1)))), (bd 3, .inl (cZ, 8, .inl (iA (Ic)))), (bd 4, .inl (cI, 8, .inl (iA (Pm)))), (bd 5, .inl (cI, 8, .inl (iA (Am)))), (bd 7, .inl (cI, 16384, .inl (iA (u.2.2.1)))), (bd 10, .inl (cI, 80, .inl (iA (u.2.2.2.1))))])) (fun v (u : (Int → Int) × (Int → Int) × (Int → Int) × (Int → Int) × Int) => (v ≤ -10 ∧ -18 < v ∨ 0 ≤ v ∧ v ≤ 80) ∧ ∃ (lg1 : Lg) (Qs1 : List Int) (V1 : Int → Int), (v, (V1, lg1, Qs1)) = delL P Ac 81 0 (V, lg, [r]) ∧ rV u.1 u.2.1 V1 ∧ isM lg1 u.2.2.1 u.2.2.2.2 ∧ okD 16384 V1 u.2.2.2.2 ∧ extL V lg V1 lg1) AA args0 s0 (0) (0)) (F0 m0 53 ls []) := by
                intro fu
                induction fu with
                | zero => intro j x Irz Vmz Lmz Qmz Vz mz qz lgz Qsz g_j g_fu3 g_xx g_Rz g_Mz g_Dz g_E3 g_Qz g_ez g_az g_il3 g_u H locs hP hD hS ls hl; exfalso; omega
                | succ fu ih53 =>
                  intro j x Irz Vmz Lmz Qmz Vz mz qz lgz Qsz g_j g_fu3 g_xx g_Rz g_Mz g_Dz g_E3 g_Qz g_ez g_az g_il3 g_u H locs hP hD hS ls hl
                  have g_lenz := isMQ_len g_Qz
                  have e0z := g_Qz.1
                  refine lv_iload hx hb dX8_goesAlong_53 (lv_at hl 0 rfl) ?_
                  refine lv_iload hx hb dX8_goesAlong_55 (lv_at hl 1 rfl) ?_
                  refine lv_iconst (v := iI (2)) hx hb dX8_goesAlong_57 rfl ?_
                  refine z_idiv hx hb dX8_goesAlong_58 (by omega) (by omega) ?_
                  refine lv_iconst (v := iI (1)) hx hb dX8_goesAlong_59 rfl ?_
                  refine z_iadd hx hb dX8_goesAlong_60 ?_
                  refine lv_iconst (v := iI (0)) hx hb dX8_goesAlong_61 rfl ?_
                  refine z_roS (As := [.int (iI ((((k : Int) / 2) + 1))), .int (iI (0))]) (rest := [.int (iI (x))]) ⟨hx, hb, hml, hown, hts⟩ (c_X8_row l D cI cZ cC ((((k : Int) / 2) + 1)) (0) ) (va_cwS 2 hts gX8_goesAlong_X8_row rfl rfl rfl (by decide +kernel) ⟨Nat.le_of_ble_eq_true rfl, Nat.le_of_ble_eq_true rfl⟩) hP hK [] rfl rfl hl.1 rfl (Nat.le_of_ble_eq_true rfl) dX8_goesAlong_62 ⟨by omega, by omega⟩ ?_
                  refine z_icmp_ge (tgt := 160) hx hb dX8_goesAlong_65 (by decide) ⟨⟨by omega, by omega⟩, ⟨by omega, by omega⟩⟩ (fun c_4 => ?_) (fun c_4 => ?_)
                  · refine lv_iinc (v := iI ((k : Int) + 1)) (lv' := [(5, .int (iI ((k : Int) + 1))), (6, .int (iI (x))), (4, .int (iI (Qmx (i : Int)))), (3, .int (iI (qz))), (2, .int (iI ((i : Int) + 1))), (0, .ref (bd 0)), (1, .int (iI (r)))]) hx hb dX8_goesAlong_160 hl (k := 1) rfl (iI_add ((k : Int)) (1)) (by decide) rfl (fun ls hl => ?_)
                    refine lv_goto (tgt := 36) hx hb dX8_goesAlong_163 (by decide) ?_
                    have h_z : trL P Ac (k : Int) (Qmx (i : Int)) 20 0 (Vy, lgy, Qsy) = (1, (Vz, lgz, Qsz)) := by
                      rw [g_u, show 20 - j = 0 by omega, trL_0]
                    exact ih36 (k + 1) _ _ _ _ Vz _ _ lgz Qsz (by omega) (by omega) g_Rz g_Mz g_Dz g_E3 g_Qz g_ez g_az g_il3 (by rw [g_w, show 8 - k = (8 - (k + 1)) + 1 by omega, numL, ← h_r.1, h_z, if_neg (by show ¬ (1 : Int) = 0; decide)]; rfl) _ _ hP hD hS _ (lv_sub hl [0, 2, 3, 4, 5, 6] rfl)
                  · have h_j : j < 20 := by omega
                    refine lv_aload_n hx hb dX8_goesAlong_68 rfl (lv_at hl 5 rfl) ?_
                    refine lv_iload hx hb dX8_goesAlong_69 (lv_at hl 0 rfl) ?_
                    refine lv_iload hx hb dX8_goesAlong_71 (lv_at hl 1 rfl) ?_
                    refine z_roV (As := [.int (iI (x)), .int (iI ((k : Int)))]) (rest := []) ⟨hx, hb, hml, hown, hts⟩ (c_X8_target l D cI cZ cC (bd) (mz) (mp) (ty) (th) (sp) (ta) (ke) (on) (tw) (Irz) (Vmz) (Vz) (Ic) (Pm) (Am) (Dm) (P) (Ac) (Mo) (x) ((k : Int)) (g_Rz) (g_C) (⟨by omega, by omega⟩) (⟨by omega, by omega⟩)) (cwV 2 hts gX8_goesAlong_X8_target rfl rfl rfl (by decide +kernel) ⟨Nat.le_of_ble_eq_true rfl, Nat.le_of_ble_eq_true rfl⟩) hP hK [0, 1, 2, 3, 4] rfl 0 8 rfl rfl rfl rfl hl.1 rfl (Nat.le_of_ble_eq_true rfl) dX8_goesAlong_73 ⟨by omega, by omega⟩ ?_
                    have hf_5 := tgm_b g_R g_C (((k : Int))) (x) (by omega) (by omega)
                    have h_tb := tgm_b g_Rz g_C (k : Int) x ⟨by omega, by omega⟩ ⟨by omega, by omega⟩
                    have h_tx := tgm_x (P := P) (V := Vz) g_xx h_j
                    refine lv_iload hx hb dX8_goesAlong_76 (lv_at hl 2 rfl) ?_
                    refine z_icmp_eq (tgt := 84) hx hb dX8_goesAlong_78 (by decide) ⟨⟨by omega, by omega⟩, ⟨by omega, by omega⟩⟩ (fun c_6 => ?_) (fun c_6 => ?_)
                    · have h_tt : tgt P Vz (k : Int) ((k : Int) / 2 * 20 + (j : Int)) = Qmx (i : Int) := by rw [← h_tx]; exact c_6
                      have h_v : 0 ≤ vOf Vz x ((k : Int) % 2) := by rw [g_xx]; exact tgt_v h_tt h_r.2.1
                      have h_xne := okD_ex g_Dz h_v
                      have h_nu := okD_null g_Dz h_v
                      have h_ip := tgt_p h_tt h_r.2.1
                      have h_kk := rC_k g_C (k := (k : Int)) ⟨by omega, by omega⟩
                      have h_rx := g_Rz x (by omega) (by omega)
                      have h_ix : Irz x = 1 := by omega
                      refine lv_aload_n hx hb dX8_goesAlong_84 rfl (lv_at hl 5 rfl) ?_
                      refine va_get (D := D) (ci := 8) (v := .ref (bd 5)) (C := RX8) (T := TX8) (N := 20) hx hb hts (fun _ h => List.mem_cons_of_mem _ (List.mem_append_right _ (h))) hown hK.1 hP 0 rfl rfl 4 (by decide) (hts (.fieldLink RX8 23 "ForeignKeyStoreModel" "actions" "[I") (List.mem_of_getElem? (i := 2) rfl)) (fun _ h9 => h9) rfl dX8_goesAlong_85 ?_
                      refine lv_iload hx hb dX8_goesAlong_88 (lv_at hl 1 rfl) ?_
                      refine z_iald hx hb hK.1 hP 5 0 rfl rfl (by omega) (by decide) dX8_goesAlong_90 ?_
                      have hb_7 := g_Am ((k : Int)) (by omega) (by omega)
                      by_cases k_8 : (Am ((k : Int))) = 0
                      · refine lv_tableIn (off := 29) (tgt := 120) hx hb dX8_goesAlong_91 (by rw [iI_toInt ⟨by omega, by omega⟩]; omega) (by rw [iI_toInt ⟨by omega, by omega⟩]; omega) (by rw [iI_toInt ⟨by omega, by omega⟩, k_8]; rfl) (by decide) ?_
                        refine lv_iload hx hb dX8_goesAlong_120 (lv_at hl 1 rfl) ?_
                        refine z_roS (As := [.int (iI ((k : Int)))]) (rest := []) ⟨hx, hb, hml, hown, hts⟩ (c_X8_code l D cI cZ cC ((k : Int)) ) (va_cwS 1 hts gX8_goesAlong_X8_code rfl rfl rfl (by decide +kernel) ⟨Nat.le_of_ble_eq_true rfl, Nat.le_of_ble_eq_true rfl⟩) hP hK [] rfl rfl hl.1 rfl (Nat.le_of_ble_eq_true rfl) dX8_goesAlong_122 ⟨by omega, by omega⟩ ?_
                        refine z_mret ((Irz, Vmz, Lmz, Qmz, mz)) hx hb hr hlocks dX8_goesAlong_125 hP hD hS ?_
                        have h_z : trL P Ac (k : Int) (Qmx (i : Int)) 20 0 (Vy, lgy, Qsy) = (0, (Vz, lgz, Qsz)) := by
                          rw [g_u, show 20 - j = (20 - (j + 1)) + 1 by omega, trL, if_pos h_tt, if_pos (by omega)]
                        have h_n : numL P Ac (Qsx.getD i 0) 8 0 (wrV Vx (Qsx.getD i 0) (-2) (-2), pe Vx (Qsx.getD i 0) :: lgx, Qsx) = (-10 - (k : Int), (Vz, lgz, Qsz)) := by
                          rw [g_w, show 8 - k = (8 - (k + 1)) + 1 by omega, numL, ← h_r.1, h_z]
                          rfl
                        refine ⟨by omega, lgz, Qsz, Vz, ?_, g_Rz, g_Mz, g_Dz, g_E3⟩
                        rw [g_t, show 81 - i = (81 - (i + 1)) + 1 by omega, delL, if_pos (by omega), h_n, if_neg (by show ¬ (-10 - (k : Int)) = 0; omega)]
                      by_cases k_9 : (Am ((k : Int))) = 2
                      · refine lv_tableIn (off := 35) (tgt := 126) hx hb dX8_goesAlong_91 (by rw [iI_toInt ⟨by omega, by omega⟩]; omega) (by rw [iI_toInt ⟨by omega, by omega⟩]; omega) (by rw [iI_toInt ⟨by omega, by omega⟩, k_9]; rfl) (by decide) ?_
                        refine lv_iload_n hx hb dX8_goesAlong_126 rfl (lv_at hl 3 rfl) ?_
                        refine lv_aload_n hx hb dX8_goesAlong_127 rfl (lv_at hl 5 rfl) ?_
                        refine lv_iload hx hb dX8_goesAlong_128 (lv_at hl 0 rfl) ?_
                        refine lv_iload_n hx hb dX8_goesAlong_130 rfl (lv_at hl 4 rfl) ?_
                        refine lv_iload_n hx hb dX8_goesAlong_131 rfl (lv_at hl 3 rfl) ?_
                        refine z_muV (As := [.int (iI (x)), .int (iI ((i : Int) + 1)), .int (iI (qz))]) (rest := [.int (iI (qz))]) (wr := [(bd 1, .inl (cZ, 80, .inl (iA (Irz)))), (bd 2, .inl (cI, 160, .inl (iA (Vmz)))), (bd 3, .inl (cZ, 8, .inl (iA (Ic)))), (bd 4, .inl (cI, 8, .inl (iA (Pm)))), (bd 5, .inl (cI, 8, .inl (iA (Am)))), (bd 7, .inl (cI, 16384, .inl (iA (Lmz))))]) (ws2 := (fun (u : Int → Int) => [(bd 0, .inr (8, [.ref (bd 1), .ref (bd 2), .ref (bd 3), .ref (bd 4), .ref (bd 5), .ref (bd 6), .ref (bd 7), .int (iI (mz)), .ref (bd 8), .int (iI (mp)), .ref (bd 9), .int (iI (ty)), .int (iI (th)), .ref (bd 10), .ref (bd 11), .int (iI (sp)), .int (iI (ta)), .int (iI (ke)), .int (iI (on)), .int (iI (tw))])), (bd 1, .inl (cZ, 80, .inl (iA (Irz)))), (bd 2, .inl (cI, 160, .inl (iA (Vmz)))), (bd 3, .inl (cZ, 8, .inl (iA (Ic)))), (bd 4, .inl (cI, 8, .inl (iA (Pm)))), (bd 5, .inl (cI, 8, .inl (iA (Am)))), (bd 7, .inl (cI, 16384, .inl (iA (Lmz)))), (bd 10, .inl (cI, 80, .inl (iA (u))))])) ⟨hx, hb, hml, hown, hts⟩ (c_X8_queues l D cI cZ cC H.size (bd) (mz) (mp) (ty) (th) (sp) (ta) (ke) (on) (tw) (Qmz) (x) ((i : Int) + 1) (qz) (⟨by omega, by omega⟩) (⟨by omega, by omega, by omega⟩) (isMQ_all g_Qz) (fun h => isMQ_lt g_Qz ⟨by omega, by omega⟩ (isMQ_no (fr := (i : Int) + 1) g_Qz g_az (by omega) h_xne h))) (cwV 3 hts gX8_goesAlong_X8_queues rfl rfl rfl (by decide +kernel) ⟨Nat.le_of_ble_eq_true rfl, Nat.le_of_ble_eq_true rfl⟩) hP hD hS hA hK [0, 7] [1, 2, 3, 4, 5, 6] [6, 0, 1, 2, 3, 4, 5, 7] rfl (by decide) rfl (by decide) (by decide) (by decide) (fun _ => rfl) 0 8 rfl rfl rfl rfl hl.1 rfl (Nat.le_of_ble_eq_true rfl) dX8_goesAlong_132 ⟨by omega, by omega⟩ (fun r_11 u H locs hq_10 hP hD hS => ?_)
                        obtain ⟨Qm_12, rfl⟩ : ∃ z, z = u := ⟨_, rfl⟩
                        have hP : va_P D vwCl [(bd 0, .inr (8, [.ref (bd 1), .ref (bd 2), .ref (bd 3), .ref (bd 4), .ref (bd 5), .ref (bd 6), .ref (bd 7), .int (iI (mz)), .ref (bd 8), .int (iI (mp)), .ref (bd 9), .int (iI (ty)), .int (iI (th)), .ref (bd 10), .ref (bd 11), .int (iI (sp)), .int (iI (ta)), .int (iI (ke)), .int (iI (on)), .int (iI (tw))])), (bd 1, .inl (cZ, 80, .inl (iA (Irz)))), (bd 2, .inl (cI, 160, .inl (iA (Vmz)))), (bd 3, .inl (cZ, 8, .inl (iA (Ic)))), (bd 4, .inl (cI, 8, .inl (iA (Pm)))), (bd 5, .inl (cI, 8, .inl (iA (Am)))), (bd 7, .inl (cI, 16384, .inl (iA (Lmz)))), (bd 10, .inl (cI, 80, .inl (iA (Qm_12))))] H := hP
                        have hD : va_D AA [(bd 0, .inr (8, [.ref (bd 1), .ref (bd 2), .ref (bd 3), .ref (bd 4), .ref (bd 5), .ref (bd 6), .ref (bd 7), .int (iI (mz)), .ref (bd 8), .int (iI (mp)), .ref (bd 9), .int (iI (ty)), .int (iI (th)), .ref (bd 10), .ref (bd 11), .int (iI (sp)), .int (iI (ta)), .int (iI (ke)), .int (iI (on)), .int (iI (tw))])), (bd 1, .inl (cZ, 80, .inl (iA (Irz)))), (bd 2, .inl (cI, 160, .inl (iA (Vmz)))), (bd 3, .inl (cZ, 8, .inl (iA (Ic)))), (bd 4, .inl (cI, 8, .inl (iA (Pm)))), (bd 5, .inl (cI, 8, .inl (iA (Am)))), (bd 7, .inl (cI, 16384, .inl (iA (Lmz)))), (bd 10, .inl (cI, 80, .inl (iA (Qm_12))))] := hD
                        try dsimp only at hq_10
                        have h_qa := isMQ_add (fr := (i : Int) + 1) g_Qz g_az (by omega) ⟨by omega, by omega⟩ h_xne hq_10
                        have h_01 := Or.imp (fun q => q.1) (fun q => q.1) hq_10
                        clear hq_10
                        refine z_iadd hx hb dX8_goesAlong_135 ?_
                        refine lv_istore_n (lv' := [(3, .int (iI ((qz + r_11)))), (6, .int (iI (x))), (5, .int (iI ((k : Int)))), (4, .int (iI (Qmx (i : Int)))), (2, .int (iI ((i : Int) + 1))), (0, .ref (bd 0)), (1, .int (iI (r)))]) hx hb dX8_goesAlong_136 rfl hl (by decide) rfl (fun ls hl => ?_)
                        refine lv_goto (tgt := 154) hx hb dX8_goesAlong_137 (by decide) ?_
                        refine lv_iinc (v := iI (x + 1)) (lv' := [(6, .int (iI (x + 1))), (3, .int (iI ((qz + r_11)))), (5, .int (iI ((k : Int)))), (4, .int (iI (Qmx (i : Int)))), (2, .int (iI ((i : Int) + 1))), (0, .ref (bd 0)), (1, .int (iI (r)))]) hx hb dX8_goesAlong_154 hl (k := 1) rfl (iI_add (x) (1)) (by decide) rfl (fun ls hl => ?_)
                        refine lv_goto (tgt := 53) hx hb dX8_goesAlong_157 (by decide) ?_
                        exact ih53 (j + 1) _ _ _ _ _ Vz _ _ lgz (addL Qsz x) (by omega) (by omega) (by omega) g_Rz g_Mz g_Dz g_E3 h_qa (exQ_add g_ez h_xne) (abQ_add g_az (by have := g_Qz.1; omega)) (by omega) (by rw [g_u, show 20 - j = (20 - (j + 1)) + 1 by omega, trL, if_pos h_tt, if_neg (by omega), if_pos (by omega), ← g_xx]; rfl) _ _ hP hD hS _ (lv_sub hl [0, 2, 3, 1, 4, 5, 6] rfl)
                      by_cases k_13 : (Am ((k : Int))) = 3
                      · refine lv_tableIn (off := 49) (tgt := 140) hx hb dX8_goesAlong_91 (by rw [iI_toInt ⟨by omega, by omega⟩]; omega) (by rw [iI_toInt ⟨by omega, by omega⟩]; omega) (by rw [iI_toInt ⟨by omega, by omega⟩, k_13]; rfl) (by decide) ?_
                        refine lv_aload_n hx hb dX8_goesAlong_140 rfl (lv_at hl 5 rfl) ?_
                        refine lv_iload hx hb dX8_goesAlong_141 (lv_at hl 0 rfl) ?_
                        refine lv_iload hx hb dX8_goesAlong_143 (lv_at hl 1 rfl) ?_
                        refine lv_iconst (v := iI (2)) hx hb dX8_goesAlong_145 rfl ?_
                        refine z_irem hx hb dX8_goesAlong_146 (by omega) (by omega) ?_
                        refine lv_iconst (v := iI (-1)) hx hb dX8_goesAlong_147 rfl ?_
                        refine z_mvV (As := [.int (iI (x)), .int (iI (((k : Int) % 2))), .int (iI ((-1)))]) (rest := []) (wr := [(bd 1, .inl (cZ, 80, .inl (iA (Irz)))), (bd 3, .inl (cZ, 8, .inl (iA (Ic)))), (bd 4, .inl (cI, 8, .inl (iA (Pm)))), (bd 5, .inl (cI, 8, .inl (iA (Am)))), (bd 10, .inl (cI, 80, .inl (iA (Qmz))))]) (ws2 := (fun (u : Unit) => [(bd 0, .inr (8, [.ref (bd 1), .ref (bd 2), .ref (bd 3), .ref (bd 4), .ref (bd 5), .ref (bd 6), .ref (bd 7), .int (iI (mz + 1)), .ref (bd 8), .int (iI (mp)), .ref (bd 9), .int (iI (ty)), .int (iI (th)), .ref (bd 10), .ref (bd 11), .int (iI (sp)), .int (iI (ta)), .int (iI (ke)), .int (iI (on)), .int (iI (tw))])), (bd 1, .inl (cZ, 80, .inl (iA (Irz)))), (bd 2, .inl (cI, 160, .inl (iA (uI Vmz (2 * x + (((k : Int) % 2))) ((-1)))))), (bd 3, .inl (cZ, 8, .inl (iA (Ic)))), (bd 4, .inl (cI, 8, .inl (iA (Pm)))), (bd 5, .inl (cI, 8, .inl (iA (Am)))), (bd 7, .inl (cI, 16384, .inl (iA (uI Lmz mz (pkM 2 x (((k : Int) % 2)) (Vmz (2 * x)) (Vmz (2 * x + 1))))))), (bd 10, .inl (cI, 80, .inl (iA (Qmz))))])) ⟨hx, hb, hml, hown, hts⟩ (c_X8_sets l D cI cZ cC H.size (bd) (mz) (mp) (ty) (th) (sp) (ta) (ke) (on) (tw) (Ir) (Vmz) (Lmz) (x) (((k : Int) % 2)) ((-1)) (rV_all g_Rz) (⟨h_nu.1.1, by have := h_nu.1.2.1; omega⟩) (⟨by omega, by omega⟩) (by first | assumption | omega) (by first | assumption | omega)) (cwV 3 hts gX8_goesAlong_X8_sets rfl rfl rfl (by decide +kernel) ⟨Nat.le_of_ble_eq_true rfl, Nat.le_of_ble_eq_true rfl⟩) hP hD hS hA hK [0, 2, 6] [1, 3, 4, 5, 7] [5, 0, 6, 1, 2, 3, 7, 4] rfl (by decide) rfl (by decide) (by decide) (by decide) (fun _ => rfl) 0 8 rfl rfl rfl rfl hl.1 rfl (Nat.le_of_ble_eq_true rfl) dX8_goesAlong_148 ⟨by omega, by omega⟩ (fun u H locs hq_14 hP hD hS => ?_)
                        have hP : va_P D vwCl [(bd 0, .inr (8, [.ref (bd 1), .ref (bd 2), .ref (bd 3), .ref (bd 4), .ref (bd 5), .ref (bd 6), .ref (bd 7), .int (iI (mz + 1)), .ref (bd 8), .int (iI (mp)), .ref (bd 9), .int (iI (ty)), .int (iI (th)), .ref (bd 10), .ref (bd 11), .int (iI (sp)), .int (iI (ta)), .int (iI (ke)), .int (iI (on)), .int (iI (tw))])), (bd 1, .inl (cZ, 80, .inl (iA (Irz)))), (bd 2, .inl (cI, 160, .inl (iA (uI Vmz (2 * x + (((k : Int) % 2))) ((-1)))))), (bd 3, .inl (cZ, 8, .inl (iA (Ic)))), (bd 4, .inl (cI, 8, .inl (iA (Pm)))), (bd 5, .inl (cI, 8, .inl (iA (Am)))), (bd 7, .inl (cI, 16384, .inl (iA (uI Lmz mz (pkM 2 x (((k : Int) % 2)) (Vmz (2 * x)) (Vmz (2 * x + 1))))))), (bd 10, .inl (cI, 80, .inl (iA (Qmz))))] H := hP
                        have hD : va_D AA [(bd 0, .inr (8, [.ref (bd 1), .ref (bd 2), .ref (bd 3), .ref (bd 4), .ref (bd 5), .ref (bd 6), .ref (bd 7), .int (iI (mz + 1)), .ref (bd 8), .int (iI (mp)), .ref (bd 9), .int (iI (ty)), .int (iI (th)), .ref (bd 10), .ref (bd 11), .int (iI (sp)), .int (iI (ta)), .int (iI (ke)), .int (iI (on)), .int (iI (tw))])), (bd 1, .inl (cZ, 80, .inl (iA (Irz)))), (bd 2, .inl (cI, 160, .inl (iA (uI Vmz (2 * x + (((k : Int) % 2))) ((-1)))))), (bd 3, .inl (cZ, 8, .inl (iA (Ic)))), (bd 4, .inl (cI, 8, .inl (iA (Pm)))), (bd 5, .inl (cI, 8, .inl (iA (Am)))), (bd 7, .inl (cI, 16384, .inl (iA (uI Lmz mz (pkM 2 x (((k : Int) % 2)) (Vmz (2 * x)) (Vmz (2 * x + 1))))))), (bd 10, .inl (cI, 80, .inl (iA (Qmz))))] := hD
                        try dsimp only at hq_14
                        have h_R9 := rV_set g_Rz (r := x) (c := (k : Int) % 2) (v := -1) ⟨by omega, by omega⟩ h_ix (by omega) (by omega)
                        have h_M9 := isM_push (e := pe Vz x) g_Mz (relE_pk (x := 2) (r := x) (c := (k : Int) % 2) (a := Vmz (2 * x)) (b := Vmz (2 * x + 1)) (by omega) ⟨by omega, by omega⟩ (by omega) (by omega) rfl (Or.inr ⟨by decide, by show Vz _ = _; omega, by show Vz _ = _; omega⟩))
                        refine lv_goto (tgt := 154) hx hb dX8_goesAlong_151 (by decide) ?_
                        refine lv_iinc (v := iI (x + 1)) (lv' := [(6, .int (iI (x + 1))), (5, .int (iI ((k : Int)))), (4, .int (iI (Qmx (i : Int)))), (3, .int (iI (qz))), (2, .int (iI ((i : Int) + 1))), (0, .ref (bd 0)), (1, .int (iI (r)))]) hx hb dX8_goesAlong_154 hl (k := 0) rfl (iI_add (x) (1)) (by decide) rfl (fun ls hl => ?_)
                        refine lv_goto (tgt := 53) hx hb dX8_goesAlong_157 (by decide) ?_
                        exact ih53 (j + 1) _ _ _ _ _ (wcV Vz x ((k : Int) % 2) (-1)) _ _ (pe Vz x :: lgz) Qsz (by omega) (by omega) (by omega) h_R9 h_M9 h_nu.2.1 (extL_push g_E3) g_Qz (exQ_null g_ez ⟨by omega, by omega⟩ h_xne) (abQ_null g_az ⟨by omega, by omega⟩ h_xne) g_il3 (by rw [g_u, show 20 - j = (20 - (j + 1)) + 1 by omega, trL, if_pos h_tt, if_neg (by omega), if_neg (by omega), if_pos (by omega), ← g_xx]; rfl) _ _ hP hD hS _ (lv_sub hl [0, 1, 2, 3, 4, 5, 6] rfl)
                      have hsw : ((Am ((k : Int))) < 0 ∨ 3 < (Am ((k : Int)))) ∨ ((Am ((k : Int))) = 1) := by omega
                      refine z_tsw (tgt := 154) hx hb dX8_goesAlong_91 ⟨by omega, by omega⟩ (offs_len := rfl) ?_ (by decide) ?_
                      · rcases hsw with h | h
                        · exact Or.inl h
                        · exact Or.inr (by rw [h]; exact ⟨by decide, by decide, rfl⟩)
                      refine lv_iinc (v := iI (x + 1)) (lv' := [(6, .int (iI (x + 1))), (5, .int (iI ((k : Int)))), (4, .int (iI (Qmx (i : Int)))), (3, .int (iI (qz))), (2, .int (iI ((i : Int) + 1))), (0, .ref (bd 0)), (1, .int (iI (r)))]) hx hb dX8_goesAlong_154 hl (k := 0) rfl (iI_add (x) (1)) (by decide) rfl (fun ls hl => ?_)
                      refine lv_goto (tgt := 53) hx hb dX8_goesAlong_157 (by decide) ?_
                      exact ih53 (j + 1) _ _ _ _ _ Vz _ _ lgz Qsz (by omega) (by omega) (by omega) g_Rz g_Mz g_Dz g_E3 g_Qz g_ez g_az g_il3 (by rw [g_u, show 20 - j = (20 - (j + 1)) + 1 by omega, trL, if_pos h_tt, if_neg (by omega), if_neg (by omega), if_neg (by omega)]; rfl) _ _ hP hD hS _ (lv_sub hl [0, 1, 2, 3, 4, 5, 6] rfl)
                    · have h_tn : ¬ tgt P Vz (k : Int) ((k : Int) / 2 * 20 + (j : Int)) = Qmx (i : Int) := by rw [← h_tx]; exact c_6
                      refine lv_goto (tgt := 154) hx hb dX8_goesAlong_81 (by decide) ?_
                      refine lv_iinc (v := iI (x + 1)) (lv' := [(6, .int (iI (x + 1))), (5, .int (iI ((k : Int)))), (4, .int (iI (Qmx (i : Int)))), (3, .int (iI (qz))), (2, .int (iI ((i : Int) + 1))), (0, .ref (bd 0)), (1, .int (iI (r)))]) hx hb dX8_goesAlong_154 hl (k := 0) rfl (iI_add (x) (1)) (by decide) rfl (fun ls hl => ?_)
                      refine lv_goto (tgt := 53) hx hb dX8_goesAlong_157 (by decide) ?_
                      exact ih53 (j + 1) _ _ _ _ _ Vz _ _ lgz Qsz (by omega) (by omega) (by omega) g_Rz g_Mz g_Dz g_E3 g_Qz g_ez g_az g_il3 (by rw [g_u, show 20 - j = (20 - (j + 1)) + 1 by omega, trL, if_neg h_tn]; rfl) _ _ hP hD hS _ (lv_sub hl [0, 1, 2, 3, 4, 5, 6] rfl)
              exact loop53 21 0 (20 * ((k : Int) / 2) + 0) _ _ _ _ Vy _ _ lgy Qsy (by omega) (by omega) (by omega) g_Ry g_My g_Dy g_E2 g_Qy g_ey g_ay g_il2 rfl _ _ hP hD hS _ (lv_sub hl [0, 1, 2, 3, 4, 5, 6] rfl)
        exact loop36 9 0 _ _ _ _ (wrV Vx (Qmx (i : Int)) (-2) (-2)) _ _ (pe Vx (Qmx (i : Int)) :: lgx) Qsx (by omega) (by omega) h_R8 h_M8 h_er.2.1 (extL_push g_E) g_Q (by rw [h_r.1]; exact exQ_erase g_e g_Q.2.2.2 (by omega)) (by rw [h_r.1]; exact abQ_erase g_a) (by omega) (by rw [h_r.1]; rfl) _ _ hP hD hS _ (lv_sub hl [0, 2, 3, 1, 4, 5] rfl)
  exact loop11 81 0 _ _ _ _ V _ _ lg [r] (by omega) (by omega) g_R g_M g_D (extL_rf _ _) (isMQ_1 g_r) (exQ_1 g_x2) (fun j h => by omega) (by omega) rfl _ _ hP hD hS _ (lv_sub hl [0, 1, 2, 3] rfl)

