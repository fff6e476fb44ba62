/-- what a state of a deletion keeps -/
def okS (N : Int) (st : DS) (pl : Nat) : Prop := okH N st.2.1 st.1 ∧ st.2.2.Nodup ∧ (∀ x ∈ st.2.2, 0 ≤ x ∧ x < 80) ∧ exQ st.1 st.2.2 pl
theorem okH_D {N : Int} {lg : Lg} {V : Int → Int} (hN : N ≤ 16384) (h : okH N lg V) : okD 16384 V (lg.length : Int) := by
  have h1 := okH_top h
  have h2 := pot_b V
  exact ⟨h1.1, h1.2.1, by omega⟩
theorem addL_S {Qs : List Int} {r : Int} (h : Qs.Nodup ∧ ∀ x ∈ Qs, 0 ≤ x ∧ x < 80) (hr : 0 ≤ r ∧ r < 80) : (addL Qs r).Nodup ∧ ∀ x ∈ addL Qs r, 0 ≤ x ∧ x < 80 := by
  unfold addL
  split
  · exact h
  · rename_i h4
    refine ⟨?_, fun x hx => ?_⟩
    · rw [List.nodup_append]
      exact ⟨h.1, by simp, fun x hx y hy => by
        have := List.mem_singleton.mp hy
        intro q
        exact h4 (by rw [← this, ← q]; exact hx)⟩
    · rcases List.mem_append.mp hx with q | q
      · exact h.2 x q
      · have := List.mem_singleton.mp q
        omega
theorem trL_S {P Ac : Int → Int} {num rem N : Int} {pl : Nat} (hN : N ≤ 16384) (hn : 0 ≤ num ∧ num < 8) (hr : 0 ≤ rem) : ∀ (f : Nat) (key : Int) (st : DS), 0 ≤ key → key + f ≤ 20 → okS N st pl → okS N (trL P Ac num rem f key st).2 pl
  | 0, _, _, _, _, h => h
  | f + 1, key, (V, lg, Qs), h1, h2, h => by
    obtain ⟨a1, a2, a3, a4⟩ := h
    rw [trL]
    split
    · rename_i e
      have hv := tgt_v e hr
      have gD := okH_D hN a1
      split
      · exact ⟨a1, a2, a3, a4⟩
      split
      · have h5 := addL_S ⟨a2, a3⟩ (r := num / 2 * 20 + key) (by omega)
        exact trL_S hN hn hr f _ _ (by omega) (by omega) ⟨a1, h5.1, h5.2, exQ_add a4 (okD_ex gD hv)⟩
      split
      · exact trL_S hN hn hr f _ _ (by omega) (by omega) ⟨okH_push a1 (okD_null gD hv).2.1 (okD_null gD hv).2.2, a2, a3, exQ_null a4 ⟨by omega, by omega⟩ (okD_ex gD hv)⟩
      · exact trL_S hN hn hr f _ _ (by omega) (by omega) ⟨a1, a2, a3, a4⟩
    · exact trL_S hN hn hr f _ _ (by omega) (by omega) ⟨a1, a2, a3, a4⟩
theorem numL_S {P Ac : Int → Int} {rem N : Int} {pl : Nat} (hN : N ≤ 16384) (hr : 0 ≤ rem) : ∀ (f : Nat) (k : Int) (st : DS), 0 ≤ k → k + f ≤ 8 → okS N st pl → okS N (numL P Ac rem f k st).2 pl ∧ ((numL P Ac rem f k st).1 = 0 ∨ (numL P Ac rem f k st).1 ≤ -10)
  | 0, _, _, _, _, h => ⟨h, Or.inl rfl⟩
  | f + 1, k, st, h1, h2, h => by
    have h3 := trL_S (P := P) (Ac := Ac) (num := k) hN ⟨h1, by omega⟩ hr 20 0 st (by omega) (by omega) h
    rw [numL]
    split
    · exact ⟨h3, Or.inr (by show -10 - k ≤ -10; omega)⟩
    · exact numL_S hN hr f (k + 1) _ (by omega) (by omega) h3
theorem delL_S {P Ac : Int → Int} {N : Int} (hN : N ≤ 16384) : ∀ (f : Nat) (pl : Nat) (st : DS), okS N st pl → okH N (delL P Ac f pl st).2.2.1 (delL P Ac f pl st).2.1 ∧ (0 ≤ (delL P Ac f pl st).1 ∨ (delL P Ac f pl st).1 ≤ -10)
  | 0, _, _, h => ⟨h.1, Or.inl (by rw [delL]; omega)⟩
  | f + 1, pl, (V, lg, Qs), h => by
    obtain ⟨a1, a2, a3, a4⟩ := h
    rw [delL]
    split
    · rename_i hp
      have e2 : Qs.getD pl 0 = Qs[pl] := by simp [List.getD, hp]
      have hr := a3 (Qs.getD pl 0) (by rw [e2]; exact List.getElem_mem hp)
      have gD := okH_D hN a1
      have hE := okD_erase gD hr.1 hr.2 (a4 pl (Nat.le_refl _) hp)
      have h3 := numL_S (P := P) (Ac := Ac) (pl := pl + 1) hN hr.1 8 0 (wrV V (Qs.getD pl 0) (-2) (-2), pe V (Qs.getD pl 0) :: lg, Qs) (by omega) (by omega) ⟨okH_push a1 hE.2.1 hE.2.2, a2, a3, exQ_erase a4 a2 hp⟩
      split
      · exact delL_S hN f (pl + 1) _ h3.1
      · rename_i hz
        exact ⟨h3.1.1, Or.inr (by have := h3.2; omega)⟩
    · exact ⟨a1, Or.inl (by show 0 ≤ (Qs.length : Int); omega)⟩
theorem stmF_H {P Mo V V1 : Int → Int} {lg lg1 : Lg} {ans N : Int} (h : okH N lg V) (h1 : okH N lg1 V1) (ha : 0 ≤ ans ∨ ans ≤ -10) : okH N (stmF P Mo V lg V1 lg1 ans).2.2 (stmF P Mo V lg V1 lg1 ans).2.1 ∧ (0 ≤ (stmF P Mo V lg V1 lg1 ans).1 ∨ (stmF P Mo V lg V1 lg1 ans).1 ≤ -10) := by
  have hf := fR_b (badC 0 Mo P V1) 8 0
  unfold stmF
  split
  · exact ⟨h1, ha⟩
  · rename_i q
    refine ⟨h, Or.inr ?_⟩
    show enC P Mo V1 ans ≤ -10
    unfold enC at q ⊢
    split
    · assumption
    · rename_i w
      rw [if_neg w] at q
      omega
/-- a command's step keeps the bound; its answer is a number, a constraint's, or -3 -/
theorem cmdF_H {P Ac Mo V : Int → Int} {lg : Lg} {SP : Int → Int} {sn tq a0 a1 a2 a3 M : Int} (h : okH M lg V) (hM : M + bud tq ≤ 16384) (hs : 0 ≤ sn) (hk : aOK tq a0 a1 a2 a3) : okH (M + bud tq) (cmdF P Ac Mo tq a0 a1 a2 a3 V lg SP sn).2.2.1 (cmdF P Ac Mo tq a0 a1 a2 a3 V lg SP sn).2.1 ∧ (0 ≤ (cmdF P Ac Mo tq a0 a1 a2 a3 V lg SP sn).1 ∨ (cmdF P Ac Mo tq a0 a1 a2 a3 V lg SP sn).1 ≤ -10 ∨ (cmdF P Ac Mo tq a0 a1 a2 a3 V lg SP sn) = (-3, (V, lg, SP, sn))) := by
  have hb : 0 ≤ bud tq := by unfold bud; split <;> omega
  have hm : okH (M + bud tq) lg V := okH_mono (by omega) h
  have hfc := fR_b (badC 1 Mo P V) 8 0
  have hbud : tq = 105 ∨ tq = 117 → bud tq = 4 := fun q => if_pos q
  unfold aOK at hk
  unfold cmdF
  split
  · by_cases hr : hasR V (a0 * 20 + a1)
    · rw [insF_t hr]
      exact ⟨hm, Or.inr (Or.inr rfl)⟩
    · rw [insF_f hr]
      have h1 : okH (M + bud tq) (pe V (a0 * 20 + a1) :: lg) (wrV V (a0 * 20 + a1) a2 a3) := by
        rw [hbud (by omega)]
        exact okH_ins h (by omega) (by omega)
      have h2 := stmF_H (P := P) (Mo := Mo) (ans := 1) hm h1 (by omega)
      exact ⟨h2.1, by rcases h2.2 with q | q; exact Or.inl q; exact Or.inr (Or.inl q)⟩
  split
  · by_cases hr : hasR V (a0 * 20 + a1)
    · rw [updF_t hr]
      have h1 : okH (M + bud tq) (pe V (a0 * 20 + a1) :: lg) (wcV V (a0 * 20 + a1) a2 a3) := by
        rw [hbud (by omega)]
        exact okH_upd h hr (by omega) (by omega)
      have h2 := stmF_H (P := P) (Mo := Mo) (ans := 1) hm h1 (by omega)
      exact ⟨h2.1, by rcases h2.2 with q | q; exact Or.inl q; exact Or.inr (Or.inl q)⟩
    · rw [updF_f hr]
      exact ⟨hm, Or.inr (Or.inr rfl)⟩
  split
  · by_cases hr : hasR V (a0 * 20 + a1)
    · rw [delF_t hr]
      have hx := hr
      obtain ⟨k1, k2, k3⟩ := hx
      have h1 := delL_S (P := P) (Ac := Ac) hM 81 0 (V, lg, [a0 * 20 + a1]) ⟨hm, by simp, fun x hx => by have := List.mem_singleton.mp hx; omega, exQ_1 k3⟩
      have h2 := stmF_H (P := P) (Mo := Mo) hm h1.1 h1.2
      exact ⟨h2.1, by rcases h2.2 with q | q; exact Or.inl q; exact Or.inr (Or.inl q)⟩
    · rw [delF_f hr]
      exact ⟨hm, Or.inr (Or.inr rfl)⟩
  split
  · unfold comF
    split
    · exact ⟨okH_nil hm, Or.inl (by show 0 ≤ (lg.length : Int); omega)⟩
    · exact ⟨hm, Or.inr (Or.inl (by show fR (badC 1 Mo P V) 8 0 ≤ -10; omega))⟩
  split
  · unfold allF
    refine ⟨?_, Or.inl (by show 0 ≤ (lg.length : Int); omega)⟩
    have h1 := okH_un (k := lg.length) hm
    exact okH_nil h1
  split
  · unfold mkF
    split
    · exact ⟨hm, Or.inl hs⟩
    · exact ⟨hm, Or.inr (Or.inr rfl)⟩
  · unfold bkF
    split
    · exact ⟨okH_un hm, Or.inl (by show 0 ≤ ((unS (lg.length : Int) (SP a0) : Nat) : Int); omega)⟩
    · exact ⟨hm, Or.inr (Or.inr rfl)⟩
theorem canM_3 {P Ac Mo V Ir Vm : Int → Int} {lg : Lg} {SP : Int → Int} {sn tq a0 a1 a2 a3 ta ke on : Int} (hR : rV Ir Vm V) (hk : aOK tq a0 a1 a2 a3) (h1 : tq = 105 ∨ tq = 117 ∨ tq = 100 → a0 = ta ∧ a1 = ke) (h2 : tq = 98 → a0 = on) (hc : ¬ canM Ir sn tq ta ke on) : cmdF P Ac Mo tq a0 a1 a2 a3 V lg SP sn = (-3, (V, lg, SP, sn)) := by
  unfold aOK at hk
  unfold canM at hc
  have hi : tq = 105 ∨ tq = 117 ∨ tq = 100 → (hasR V (a0 * 20 + a1) ↔ Ir (20 * ta + ke) = 1) ∧ (Ir (20 * ta + ke) = 0 ∨ Ir (20 * ta + ke) = 1) := fun q => by
    obtain ⟨e1, e2⟩ := h1 q
    have h9 := rV_has hR (r := 20 * ta + ke) (by omega)
    rw [show a0 * 20 + a1 = 20 * ta + ke by omega]
    exact ⟨h9, rV_01 hR _ (by omega) (by omega)⟩
  unfold cmdF
  split
  · obtain ⟨i1, i2⟩ := hi (by omega)
    rw [insF_t (i1.2 (by omega))]
    rfl
  split
  · obtain ⟨i1, i2⟩ := hi (by omega)
    rw [updF_f (fun q => by have := i1.1 q; omega)]
    rfl
  split
  · obtain ⟨i1, i2⟩ := hi (by omega)
    rw [delF_f (fun q => by have := i1.1 q; omega)]
    rfl
  clear hi
  split
  · omega
  split
  · omega
  split
  · unfold mkF
    rw [if_neg (by omega)]
  · unfold bkF
    rw [if_neg (by omega)]
theorem canM_n {P Ac Mo V Ir Vm : Int → Int} {lg : Lg} {SP : Int → Int} {sn tq a0 a1 a2 a3 ta ke on : Int} (hR : rV Ir Vm V) (hk : aOK tq a0 a1 a2 a3) (h1 : tq = 105 ∨ tq = 117 ∨ tq = 100 → a0 = ta ∧ a1 = ke) (h2 : tq = 98 → a0 = on) (hc : canM Ir sn tq ta ke on) (hs : 0 ≤ sn ∧ sn ≤ 4) {M : Int} (hH : okH M lg V) (hM : M ≤ 16384) : ¬ (cmdF P Ac Mo tq a0 a1 a2 a3 V lg SP sn).1 = -3 := fun h3 => by
  have hfc := fR_b (badC 1 Mo P V) 8 0
  unfold aOK at hk
  unfold canM at hc
  have hi : tq = 105 ∨ tq = 117 ∨ tq = 100 → (hasR V (a0 * 20 + a1) ↔ Ir (20 * ta + ke) = 1) := fun q => by
    obtain ⟨e1, e2⟩ := h1 q
    have h9 := rV_has hR (r := 20 * ta + ke) (by omega)
    rw [show a0 * 20 + a1 = 20 * ta + ke by omega]
    exact h9
  unfold cmdF at h3
  split at h3
  · have i1 := (insF_m3 (P := P) (Mo := Mo) (V := V) (lg := lg) (r := a0 * 20 + a1) (a := a2) (b := a3) rfl).1 h3
    have := (hi (by omega)).1 i1
    omega
  split at h3
  · have i1 := (updF_m3 (P := P) (Mo := Mo) (V := V) (lg := lg) (r := a0 * 20 + a1) (a := a2) (b := a3) rfl).1 h3
    exact i1 ((hi (by omega)).2 (by omega))
  split at h3
  · have hr : hasR V (a0 * 20 + a1) := (hi (by omega)).2 (by omega)
    rw [delF_t hr] at h3
    obtain ⟨k1, k2, k3⟩ := hr
    have y1 := delL_S (P := P) (Ac := Ac) hM 81 0 (V, lg, [a0 * 20 + a1]) ⟨hH, by simp, fun x hx => by have := List.mem_singleton.mp hx; omega, exQ_1 k3⟩
    have y2 := (stmF_H (P := P) (Mo := Mo) hH y1.1 y1.2).2
    have y3 : (stmF P Mo V lg (delL P Ac 81 0 (V, lg, [a0 * 20 + a1])).2.1 (delL P Ac 81 0 (V, lg, [a0 * 20 + a1])).2.2.1 (delL P Ac 81 0 (V, lg, [a0 * 20 + a1])).1).1 = -3 := h3
    omega
  clear hi
  split at h3
  · unfold comF at h3
    split at h3
    · have h3 : (lg.length : Int) = -3 := h3
      omega
    · have h3 : fR (badC 1 Mo P V) 8 0 = -3 := h3
      omega
  split at h3
  · have h3 : (lg.length : Int) = -3 := h3
    omega
  split at h3
  · unfold mkF at h3
    rw [if_pos (by omega)] at h3
    have h3 : sn = -3 := h3
    omega
  · unfold bkF at h3
    rw [if_pos (by omega)] at h3
    have h3 : ((unS (lg.length : Int) (SP a0) : Nat) : Int) = -3 := h3
    omega

theorem rtF_x {P Ac Mo SG : Int → Int} {tl ex ans p : Int} {S : AS} {Ln f : Nat} (h : ans ≤ -10) : rtF P Ac Mo SG tl f ex ans p S Ln = (ex, S, Ln) := by
  cases f with
  | zero => rfl
  | succ f => rw [rtF, if_pos h]
theorem rtF_e {P Ac Mo SG : Int → Int} {tl ex ans p : Int} {S : AS} {Ln f : Nat} (h : (cG SG tl p).1 = 0) : rtF P Ac Mo SG tl f ex ans p S Ln = (ex, S, Ln) := by
  cases f with
  | zero => rfl
  | succ f =>
    rw [rtF]
    split
    · rfl
    · first | rfl | rw [if_pos h]
theorem eG_1 {SG : Int → Int} {tl p : Int} (h0 : 0 ≤ (cG SG tl p).2.1) (hp : 0 ≤ p) (h : ∃ f, eG SG tl f p = -2) : ¬ (cG SG tl p).1 = 0 := fun q => by
  obtain ⟨f, hf⟩ := h
  cases f with
  | zero => rw [eG] at hf; omega
  | succ f => rw [eG, if_pos q] at hf; omega
/-- behind a command of a valid text: its end, or the next command -/
theorem rt_more {SG : Int → Int} {tl p : Int} (hp : 0 ≤ p) (h0 : p ≤ (cG SG tl p).2.1 ∧ (cG SG tl p).2.1 ≤ tl) (h : ∃ f, eG SG tl f p = -2) : ((rS SG tl 59 (cG SG tl p).2.1).1 = 0 → (rS SG tl 59 (cG SG tl p).2.1).2 = tl) ∧ (¬ (rS SG tl 59 (cG SG tl p).2.1).1 = 0 → ∃ f, eG SG tl f (rS SG tl 59 (cG SG tl p).2.1).2 = -2) := by
  have h1 := eG_1 (by omega) hp h
  obtain ⟨f, hf⟩ := h
  cases f with
  | zero => rw [eG] at hf; omega
  | succ f =>
    rw [eG, if_neg h1] at hf
    refine ⟨fun z => ?_, fun z => ?_⟩
    · have h2 := (rS_0 z).2
      by_cases q : tl ≤ (cG SG tl p).2.1
      · omega
      · rw [if_neg q, if_pos z] at hf
        omega
    · have h2 := (rS_1 z)
      by_cases q : tl ≤ (cG SG tl p).2.1
      · exfalso
        have e : (cG SG tl p).2.1 = tl := by omega
        rw [e] at z
        exact z (congrArg Prod.fst (if_neg (by rw [sgn_end]; decide) : rS SG tl 59 tl = (0, tl)))
      · rw [if_neg q, if_neg z] at hf
        exact ⟨f, hf⟩
def vE (SG : Int → Int) (tl p : Int) : Prop := ∃ f, eG SG tl f p = -2

set_option maxHeartbeats 4000000 in
set_option maxRecDepth 100000 in
theorem c_X8_runText (l : Launch) (D : va_G) (cI cZ cC : ClassId) (sz : Nat) (bd : Nat → Nat) (cn mp ty th sp ta ke on tw : Int) (Ir Vm Lm Qm Pt Tx V : Int → Int) (Ic Pm Am Dm P Ac Mo : Int → Int) (lg : Lg) (N : Int) (Ln : Nat) (g_R : rV Ir Vm V) (g_C : rC8 Ic Pm Am Dm P Ac Mo) (g_M : isM lg Lm cn) (g_Tx : ∀ j : Int, 0 ≤ j → j < 80 → 0 ≤ Tx j ∧ Tx j < 128) (g_ty : 0 ≤ ty ∧ ty ≤ 80) (g_H : okH N lg V) (g_N : N + 4 * ((ty + 1) / 9) ≤ 16380) (g_s : spOK Pt mp) : zMi l yX8_runText wsX8_runText ({ frames := 8, cells := 0, slots := 0, locals := 168 }) D cI cZ cC [(bd 0, .inr (8, [.ref (bd 1), .ref (bd 2), .ref (bd 3), .ref (bd 4), .ref (bd 5), .ref (bd 6), .ref (bd 7), .int (iI (cn)), .ref (bd 8), .int (iI (mp)), .ref (bd 9), .int (iI (ty)), .int (iI (th)), .ref (bd 10), .ref (bd 11), .int (iI (sp)), .int (iI (ta)), .int (iI (ke)), .int (iI (on)), .int (iI (tw))])), (bd 1, .inl (cZ, 80, .inl (iA (Ir)))), (bd 2, .inl (cI, 160, .inl (iA (Vm)))), (bd 3, .inl (cZ, 8, .inl (iA (Ic)))), (bd 4, .inl (cI, 8, .inl (iA (Pm)))), (bd 6, .inl (cZ, 8, .inl (iA (Dm)))), (bd 7, .inl (cI, 16384, .inl (iA (Lm)))), (bd 5, .inl (cI, 8, .inl (iA (Am)))), (bd 10, .inl (cI, 80, .inl (iA (Qm)))), (bd 8, .inl (cI, 4, .inl (iA (Pt)))), (bd 9, .inl (cC, 80, .inl (iA (Tx))))] sz [.ref (bd 0)] (0) (0) (fun (u : (Int → Int) × (Int → Int) × (Int → Int) × (Int → Int) × (Int → Int) × Int × Int × Int × Int × Int × Int × Int × Int) => [(bd 0, .inr (8, [.ref (bd 1), .ref (bd 2), .ref (bd 3), .ref (bd 4), .ref (bd 5), .ref (bd 6), .ref (bd 7), .int (iI (u.2.2.2.2.2.1)), .ref (bd 8), .int (iI (u.2.2.2.2.2.2.1)), .ref (bd 9), .int (iI (ty)), .int (iI (u.2.2.2.2.2.2.2.1)), .ref (bd 10), .ref (bd 11), .int (iI (u.2.2.2.2.2.2.2.2.1)), .int (iI (u.2.2.2.2.2.2.2.2.2.1)), .int (iI (u.2.2.2.2.2.2.2.2.2.2.1)), .int (iI (u.2.2.2.2.2.2.2.2.2.2.2.1)), .int (iI (u.2.2.2.2.2.2.2.2.2.2.2.2))])), (bd 1, .inl (cZ, 80, .inl (iA (u.1)))), (bd 2, .inl (cI, 160, .inl (iA (u.2.1)))), (bd 3, .inl (cZ, 8, .inl (iA (Ic)))), (bd 4, .inl (cI, 8, .inl (iA (Pm)))), (bd 6, .inl (cZ, 8, .inl (iA (Dm)))), (bd 7, .inl (cI, 16384, .inl (iA (u.2.2.1)))), (bd 5, .inl (cI, 8, .inl (iA (Am)))), (bd 10, .inl (cI, 80, .inl (iA (u.2.2.2.1)))), (bd 8, .inl (cI, 4, .inl (iA (u.2.2.2.2.1)))), (bd 9, .inl (cC, 80, .inl (iA (Tx))))]) (fun v (u : (Int → Int) × (Int → Int) × (Int → Int) × (Int → Int) × (Int → Int) × Int × Int × Int × Int × Int × Int × Int × Int) => u.2.2.2.2.2.2.2.1 = goK (eG Tx ty 80 0 = -2) (True) (True) ∧ ib v ∧ (u.2.2.2.2.2.2.2.1 = 0 → v = (rtF P Ac Mo Tx ty 80 0 0 0 (V, lg, Pt, mp) Ln).1 ∧ rV u.1 u.2.1 (rtF P Ac Mo Tx ty 80 0 0 0 (V, lg, Pt, mp) Ln).2.1.1 ∧ isM (rtF P Ac Mo Tx ty 80 0 0 0 (V, lg, Pt, mp) Ln).2.1.2.1 u.2.2.1 u.2.2.2.2.2.1 ∧ u.2.2.2.2.1 = (rtF P Ac Mo Tx ty 80 0 0 0 (V, lg, Pt, mp) Ln).2.1.2.2.1 ∧ u.2.2.2.2.2.2.1 = (rtF P Ac Mo Tx ty 80 0 0 0 (V, lg, Pt, mp) Ln).2.1.2.2.2) ∧ (¬ u.2.2.2.2.2.2.2.1 = 0 → rV u.1 u.2.1 V ∧ isM lg u.2.2.1 u.2.2.2.2.2.1 ∧ u.2.2.2.2.1 = Pt ∧ u.2.2.2.2.2.2.1 = mp)) := by
  refine z_ofMi (cc := cX8_runText) (maxL := 6) (ret := (some .int)) RX8 (by decide +kernel) rfl rfl (Nat.le_of_ble_eq_true rfl) ?_
  intro p0 en0 s0 m0 args0 below0 meth0 c0 ls AA hx hb hr hlocks hml hown hts hP hD hS hA hK hl
  have hl : lv_has ls 6 [(0, .ref (bd 0))] := hl
  obtain ⟨H, hH⟩ : ∃ H, H = s0.heap := ⟨_, rfl⟩
  obtain ⟨locs, hlo⟩ : ∃ locs : List Loc, locs = [] := ⟨_, rfl⟩
  have hP : va_P D vwCl [(bd 0, .inr (8, [.ref (bd 1), .ref (bd 2), .ref (bd 3), .ref (bd 4), .ref (bd 5), .ref (bd 6), .ref (bd 7), .int (iI (cn)), .ref (bd 8), .int (iI (mp)), .ref (bd 9), .int (iI (ty)), .int (iI (th)), .ref (bd 10), .ref (bd 11), .int (iI (sp)), .int (iI (ta)), .int (iI (ke)), .int (iI (on)), .int (iI (tw))])), (bd 1, .inl (cZ, 80, .inl (iA (Ir)))), (bd 2, .inl (cI, 160, .inl (iA (Vm)))), (bd 3, .inl (cZ, 8, .inl (iA (Ic)))), (bd 4, .inl (cI, 8, .inl (iA (Pm)))), (bd 6, .inl (cZ, 8, .inl (iA (Dm)))), (bd 7, .inl (cI, 16384, .inl (iA (Lm)))), (bd 5, .inl (cI, 8, .inl (iA (Am)))), (bd 10, .inl (cI, 80, .inl (iA (Qm)))), (bd 8, .inl (cI, 4, .inl (iA (Pt)))), (bd 9, .inl (cC, 80, .inl (iA (Tx))))] H := by rw [hH]; exact hP
  have hS : va_S AA s0.heap H locs := by rw [hH, hlo]; exact hS
  suffices hW : W p0 l en0 (headSpec wsX8_runText ({ frames := 8, cells := 0, slots := 0, locals := 168 })).room s0 m0 args0 below0 meth0 c0 H locs 0 0 (QMi below0 D ((fun (u : (Int → Int) × (Int → Int) × (Int → Int) × (Int → Int) × (Int → Int) × Int × Int × Int × Int × Int × Int × Int × Int) => [(bd 0, .inr (8, [.ref (bd 1), .ref (bd 2), .ref (bd 3), .ref (bd 4), .ref (bd 5), .ref (bd 6), .ref (bd 7), .int (iI (u.2.2.2.2.2.1)), .ref (bd 8), .int (iI (u.2.2.2.2.2.2.1)), .ref (bd 9), .int (iI (ty)), .int (iI (u.2.2.2.2.2.2.2.1)), .ref (bd 10), .ref (bd 11), .int (iI (u.2.2.2.2.2.2.2.2.1)), .int (iI (u.2.2.2.2.2.2.2.2.2.1)), .int (iI (u.2.2.2.2.2.2.2.2.2.2.1)), .int (iI (u.2.2.2.2.2.2.2.2.2.2.2.1)), .int (iI (u.2.2.2.2.2.2.2.2.2.2.2.2))])), (bd 1, .inl (cZ, 80, .inl (iA (u.1)))), (bd 2, .inl (cI, 160, .inl (iA (u.2.1)))), (bd 3, .inl (cZ, 8, .inl (iA (Ic)))), (bd 4, .inl (cI, 8, .inl (iA (Pm)))), (bd 6, .inl (cZ, 8, .inl (iA (Dm)))), (bd 7, .inl (cI, 16384, .inl (iA (u.2.2.1)))), (bd 5, .inl (cI, 8, .inl (iA (Am)))), (bd 10, .inl (cI, 80, .inl (iA (u.2.2.2.1)))), (bd 8, .inl (cI, 4, .inl (iA (u.2.2.2.2.1)))), (bd 9, .inl (cC, 80, .inl (iA (Tx))))])) (fun v (u : (Int → Int) × (Int → Int) × (Int → Int) × (Int → Int) × (Int → Int) × Int × Int × Int × Int × Int × Int × Int × Int) => u.2.2.2.2.2.2.2.1 = goK (eG Tx ty 80 0 = -2) (True) (True) ∧ ib v ∧ (u.2.2.2.2.2.2.2.1 = 0 → v = (rtF P Ac Mo Tx ty 80 0 0 0 (V, lg, Pt, mp) Ln).1 ∧ rV u.1 u.2.1 (rtF P Ac Mo Tx ty 80 0 0 0 (V, lg, Pt, mp) Ln).2.1.1 ∧ isM (rtF P Ac Mo Tx ty 80 0 0 0 (V, lg, Pt, mp) Ln).2.1.2.1 u.2.2.1 u.2.2.2.2.2.1 ∧ u.2.2.2.2.1 = (rtF P Ac Mo Tx ty 80 0 0 0 (V, lg, Pt, mp) Ln).2.1.2.2.1 ∧ u.2.2.2.2.2.2.1 = (rtF P Ac Mo Tx ty 80 0 0 0 (V, lg, Pt, mp) Ln).2.1.2.2.2) ∧ (¬ u.2.2.2.2.2.2.2.1 = 0 → rV u.1 u.2.1 V ∧ isM lg u.2.2.1 u.2.2.2.2.2.1 ∧ u.2.2.2.2.1 = Pt ∧ u.2.2.2.2.2.2.1 = mp)) AA args0 s0 (0) (0)) (F0 m0 0 ls []) by rw [hH, hlo] at hW; exact hW
  have g_Ir := rV_01 g_R
  have g_Vm := rV_all g_R
  have g_Ic := rC_i g_C
  have g_Pm := rC_p g_C
  have g_Am := rC_a g_C
  have g_Dm := rC_d g_C
  refine lv_aload_n hx hb dX8_runText_0 rfl (lv_at hl 0 rfl) ?_
  refine lv_aload_n hx hb dX8_runText_1 rfl (lv_at hl 0 rfl) ?_
  refine z_muV (As := []) (rest := [.ref (bd 0)]) (wr := [(bd 1, .inl (cZ, 80, .inl (iA (Ir)))), (bd 2, .inl (cI, 160, .inl (iA (Vm)))), (bd 3, .inl (cZ, 8, .inl (iA (Ic)))), (bd 4, .inl (cI, 8, .inl (iA (Pm)))), (bd 6, .inl (cZ, 8, .inl (iA (Dm)))), (bd 7, .inl (cI, 16384, .inl (iA (Lm)))), (bd 5, .inl (cI, 8, .inl (iA (Am)))), (bd 10, .inl (cI, 80, .inl (iA (Qm)))), (bd 8, .inl (cI, 4, .inl (iA (Pt))))]) (ws2 := (fun (u : Int × Int × Int × Int × Int) => [(bd 0, .inr (8, [.ref (bd 1), .ref (bd 2), .ref (bd 3), .ref (bd 4), .ref (bd 5), .ref (bd 6), .ref (bd 7), .int (iI (cn)), .ref (bd 8), .int (iI (mp)), .ref (bd 9), .int (iI (ty)), .int (iI (th)), .ref (bd 10), .ref (bd 11), .int (iI (u.1)), .int (iI (u.2.1)), .int (iI (u.2.2.1)), .int (iI (u.2.2.2.1)), .int (iI (u.2.2.2.2))])), (bd 1, .inl (cZ, 80, .inl (iA (Ir)))), (bd 2, .inl (cI, 160, .inl (iA (Vm)))), (bd 3, .inl (cZ, 8, .inl (iA (Ic)))), (bd 4, .inl (cI, 8, .inl (iA (Pm)))), (bd 6, .inl (cZ, 8, .inl (iA (Dm)))), (bd 7, .inl (cI, 16384, .inl (iA (Lm)))), (bd 5, .inl (cI, 8, .inl (iA (Am)))), (bd 10, .inl (cI, 80, .inl (iA (Qm)))), (bd 8, .inl (cI, 4, .inl (iA (Pt)))), (bd 9, .inl (cC, 80, .inl (iA (Tx))))])) ⟨hx, hb, hml, hown, hts⟩ (c_X8_error l D cI cZ cC H.size (bd) (cn) (mp) (ty) (th) (sp) (ta) (ke) (on) (tw) (Tx) (by first | assumption | omega) (by first | assumption | omega)) (cwV 0 hts gX8_runText_X8_error rfl rfl rfl (by decide +kernel) ⟨Nat.le_of_ble_eq_true rfl, Nat.le_of_ble_eq_true rfl⟩) hP hD hS hA hK [0, 10] [1, 2, 3, 4, 5, 6, 7, 8, 9] [9, 0, 1, 2, 3, 4, 5, 6, 7, 8, 10] rfl (by decide) rfl (by decide) (by decide) (by decide) (fun _ => rfl) 0 8 rfl rfl rfl rfl hl.1 rfl (Nat.le_of_ble_eq_true rfl) dX8_runText_2 ⟨by omega, by omega⟩ (fun r_2 u H locs hq_1 hP hD hS => ?_)
  obtain ⟨sp_3, ta_4, ke_5, on_6, tw_7⟩ := u
  have hP : va_P D vwCl [(bd 0, .inr (8, [.ref (bd 1), .ref (bd 2), .ref (bd 3), .ref (bd 4), .ref (bd 5), .ref (bd 6), .ref (bd 7), .int (iI (cn)), .ref (bd 8), .int (iI (mp)), .ref (bd 9), .int (iI (ty)), .int (iI (th)), .ref (bd 10), .ref (bd 11), .int (iI (sp_3)), .int (iI (ta_4)), .int (iI (ke_5)), .int (iI (on_6)), .int (iI (tw_7))])), (bd 1, .inl (cZ, 80, .inl (iA (Ir)))), (bd 2, .inl (cI, 160, .inl (iA (Vm)))), (bd 3, .inl (cZ, 8, .inl (iA (Ic)))), (bd 4, .inl (cI, 8, .inl (iA (Pm)))), (bd 6, .inl (cZ, 8, .inl (iA (Dm)))), (bd 7, .inl (cI, 16384, .inl (iA (Lm)))), (bd 5, .inl (cI, 8, .inl (iA (Am)))), (bd 10, .inl (cI, 80, .inl (iA (Qm)))), (bd 8, .inl (cI, 4, .inl (iA (Pt)))), (bd 9, .inl (cC, 80, .inl (iA (Tx))))] H := hP
  have hD : va_D AA [(bd 0, .inr (8, [.ref (bd 1), .ref (bd 2), .ref (bd 3), .ref (bd 4), .ref (bd 5), .ref (bd 6), .ref (bd 7), .int (iI (cn)), .ref (bd 8), .int (iI (mp)), .ref (bd 9), .int (iI (ty)), .int (iI (th)), .ref (bd 10), .ref (bd 11), .int (iI (sp_3)), .int (iI (ta_4)), .int (iI (ke_5)), .int (iI (on_6)), .int (iI (tw_7))])), (bd 1, .inl (cZ, 80, .inl (iA (Ir)))), (bd 2, .inl (cI, 160, .inl (iA (Vm)))), (bd 3, .inl (cZ, 8, .inl (iA (Ic)))), (bd 4, .inl (cI, 8, .inl (iA (Pm)))), (bd 6, .inl (cZ, 8, .inl (iA (Dm)))), (bd 7, .inl (cI, 16384, .inl (iA (Lm)))), (bd 5, .inl (cI, 8, .inl (iA (Am)))), (bd 10, .inl (cI, 80, .inl (iA (Qm)))), (bd 8, .inl (cI, 4, .inl (iA (Pt)))), (bd 9, .inl (cC, 80, .inl (iA (Tx))))] := hD
  try dsimp only at hq_1
  obtain ⟨h_e1, h_e2, h_e3, h_e4, h_e5⟩ := hq_1
  refine lv_bipush (v := iI (-2)) hx hb dX8_runText_5 (by decide) ?_
  refine z_icmp_ne (tgt := 14) hx hb dX8_runText_7 (by decide) ⟨⟨by omega, by omega⟩, ⟨by omega, by omega⟩⟩ (fun c_8 => ?_) (fun c_8 => ?_)
  · have h_ev : ¬ eG Tx ty 80 0 = -2 := by omega
    refine lv_iconst (v := iI (0)) hx hb dX8_runText_14 rfl ?_
    refine lv_iconst (v := iI (1)) hx hb dX8_runText_15 rfl ?_
    refine lv_iconst (v := iI (1)) hx hb dX8_runText_16 rfl ?_
    refine z_muV (As := [.int (iI (0)), .int (iI (1)), .int (iI (1))]) (rest := []) (wr := [(bd 1, .inl (cZ, 80, .inl (iA (Ir)))), (bd 2, .inl (cI, 160, .inl (iA (Vm)))), (bd 3, .inl (cZ, 8, .inl (iA (Ic)))), (bd 4, .inl (cI, 8, .inl (iA (Pm)))), (bd 6, .inl (cZ, 8, .inl (iA (Dm)))), (bd 7, .inl (cI, 16384, .inl (iA (Lm)))), (bd 5, .inl (cI, 8, .inl (iA (Am)))), (bd 10, .inl (cI, 80, .inl (iA (Qm)))), (bd 8, .inl (cI, 4, .inl (iA (Pt)))), (bd 9, .inl (cC, 80, .inl (iA (Tx))))]) (ws2 := (fun (u : Unit) => [(bd 0, .inr (8, [.ref (bd 1), .ref (bd 2), .ref (bd 3), .ref (bd 4), .ref (bd 5), .ref (bd 6), .ref (bd 7), .int (iI (cn)), .ref (bd 8), .int (iI (mp)), .ref (bd 9), .int (iI (ty)), .int (iI (gkI 0 1 1)), .ref (bd 10), .ref (bd 11), .int (iI (sp_3)), .int (iI (ta_4)), .int (iI (ke_5)), .int (iI (on_6)), .int (iI (tw_7))])), (bd 1, .inl (cZ, 80, .inl (iA (Ir)))), (bd 2, .inl (cI, 160, .inl (iA (Vm)))), (bd 3, .inl (cZ, 8, .inl (iA (Ic)))), (bd 4, .inl (cI, 8, .inl (iA (Pm)))), (bd 6, .inl (cZ, 8, .inl (iA (Dm)))), (bd 7, .inl (cI, 16384, .inl (iA (Lm)))), (bd 5, .inl (cI, 8, .inl (iA (Am)))), (bd 10, .inl (cI, 80, .inl (iA (Qm)))), (bd 8, .inl (cI, 4, .inl (iA (Pt)))), (bd 9, .inl (cC, 80, .inl (iA (Tx))))])) ⟨hx, hb, hml, hown, hts⟩ (c_X8_goes l D cI cZ cC H.size (bd) (cn) (mp) (ty) (th) (sp_3) (ta_4) (ke_5) (on_6) (tw_7) (0) (1) (1) (by first | assumption | omega) (by first | assumption | omega) (by first | assumption | omega)) (cwV 3 hts gX8_runText_X8_goes rfl rfl rfl (by decide +kernel) ⟨Nat.le_of_ble_eq_true rfl, Nat.le_of_ble_eq_true rfl⟩) hP hD hS hA hK [0] [1, 2, 3, 4, 5, 6, 7, 8, 9, 10] [10, 0, 1, 2, 3, 4, 5, 6, 7, 8, 9] rfl (by decide) rfl (by decide) (by decide) (by decide) (fun _ => rfl) 0 8 rfl rfl rfl rfl hl.1 rfl (Nat.le_of_ble_eq_true rfl) dX8_runText_17 ⟨by omega, by omega⟩ (fun r_10 u H locs hq_9 hP hD hS => ?_)
    have hP : va_P D vwCl [(bd 0, .inr (8, [.ref (bd 1), .ref (bd 2), .ref (bd 3), .ref (bd 4), .ref (bd 5), .ref (bd 6), .ref (bd 7), .int (iI (cn)), .ref (bd 8), .int (iI (mp)), .ref (bd 9), .int (iI (ty)), .int (iI (gkI 0 1 1)), .ref (bd 10), .ref (bd 11), .int (iI (sp_3)), .int (iI (ta_4)), .int (iI (ke_5)), .int (iI (on_6)), .int (iI (tw_7))])), (bd 1, .inl (cZ, 80, .inl (iA (Ir)))), (bd 2, .inl (cI, 160, .inl (iA (Vm)))), (bd 3, .inl (cZ, 8, .inl (iA (Ic)))), (bd 4, .inl (cI, 8, .inl (iA (Pm)))), (bd 6, .inl (cZ, 8, .inl (iA (Dm)))), (bd 7, .inl (cI, 16384, .inl (iA (Lm)))), (bd 5, .inl (cI, 8, .inl (iA (Am)))), (bd 10, .inl (cI, 80, .inl (iA (Qm)))), (bd 8, .inl (cI, 4, .inl (iA (Pt)))), (bd 9, .inl (cC, 80, .inl (iA (Tx))))] H := hP
    have hD : va_D AA [(bd 0, .inr (8, [.ref (bd 1), .ref (bd 2), .ref (bd 3), .ref (bd 4), .ref (bd 5), .ref (bd 6), .ref (bd 7), .int (iI (cn)), .ref (bd 8), .int (iI (mp)), .ref (bd 9), .int (iI (ty)), .int (iI (gkI 0 1 1)), .ref (bd 10), .ref (bd 11), .int (iI (sp_3)), .int (iI (ta_4)), .int (iI (ke_5)), .int (iI (on_6)), .int (iI (tw_7))])), (bd 1, .inl (cZ, 80, .inl (iA (Ir)))), (bd 2, .inl (cI, 160, .inl (iA (Vm)))), (bd 3, .inl (cZ, 8, .inl (iA (Ic)))), (bd 4, .inl (cI, 8, .inl (iA (Pm)))), (bd 6, .inl (cZ, 8, .inl (iA (Dm)))), (bd 7, .inl (cI, 16384, .inl (iA (Lm)))), (bd 5, .inl (cI, 8, .inl (iA (Am)))), (bd 10, .inl (cI, 80, .inl (iA (Qm)))), (bd 8, .inl (cI, 4, .inl (iA (Pt)))), (bd 9, .inl (cC, 80, .inl (iA (Tx))))] := hD
    try dsimp only at hq_9
    obtain ⟨hv9, hq_9⟩ := hq_9
    have hv9 := hv9.symm
    subst hv9
    have hth : gkI (0) (1) (1) = 1 := rfl
    rw [hth] at hP hD
    have hP : va_P D vwCl [(bd 0, .inr (8, [.ref (bd 1), .ref (bd 2), .ref (bd 3), .ref (bd 4), .ref (bd 5), .ref (bd 6), .ref (bd 7), .int (iI (cn)), .ref (bd 8), .int (iI (mp)), .ref (bd 9), .int (iI (ty)), .int (iI (1)), .ref (bd 10), .ref (bd 11), .int (iI (sp_3)), .int (iI (ta_4)), .int (iI (ke_5)), .int (iI (on_6)), .int (iI (tw_7))])), (bd 1, .inl (cZ, 80, .inl (iA (Ir)))), (bd 2, .inl (cI, 160, .inl (iA (Vm)))), (bd 3, .inl (cZ, 8, .inl (iA (Ic)))), (bd 4, .inl (cI, 8, .inl (iA (Pm)))), (bd 6, .inl (cZ, 8, .inl (iA (Dm)))), (bd 7, .inl (cI, 16384, .inl (iA (Lm)))), (bd 5, .inl (cI, 8, .inl (iA (Am)))), (bd 10, .inl (cI, 80, .inl (iA (Qm)))), (bd 8, .inl (cI, 4, .inl (iA (Pt)))), (bd 9, .inl (cC, 80, .inl (iA (Tx))))] H := hP
    have hD : va_D AA [(bd 0, .inr (8, [.ref (bd 1), .ref (bd 2), .ref (bd 3), .ref (bd 4), .ref (bd 5), .ref (bd 6), .ref (bd 7), .int (iI (cn)), .ref (bd 8), .int (iI (mp)), .ref (bd 9), .int (iI (ty)), .int (iI (1)), .ref (bd 10), .ref (bd 11), .int (iI (sp_3)), .int (iI (ta_4)), .int (iI (ke_5)), .int (iI (on_6)), .int (iI (tw_7))])), (bd 1, .inl (cZ, 80, .inl (iA (Ir)))), (bd 2, .inl (cI, 160, .inl (iA (Vm)))), (bd 3, .inl (cZ, 8, .inl (iA (Ic)))), (bd 4, .inl (cI, 8, .inl (iA (Pm)))), (bd 6, .inl (cZ, 8, .inl (iA (Dm)))), (bd 7, .inl (cI, 16384, .inl (iA (Lm)))), (bd 5, .inl (cI, 8, .inl (iA (Am)))), (bd 10, .inl (cI, 80, .inl (iA (Qm)))), (bd 8, .inl (cI, 4, .inl (iA (Pt)))), (bd 9, .inl (cC, 80, .inl (iA (Tx))))] := hD
    rw [show bI (gkI (0) (1) (1) = 0) = 0 from bI_f (by rw [hth]; decide)]
    refine z_if_ne (tgt := 25) hx hb dX8_runText_20 (by decide) ⟨by omega, by omega⟩ (fun c_11 => ?_) (fun c_11 => ?_)
    · exfalso
      omega
    · refine lv_iconst (v := iI (0)) hx hb dX8_runText_23 rfl ?_
      refine z_mret ((Ir, Vm, Lm, Qm, Pt, cn, mp, 1, sp_3, ta_4, ke_5, on_6, tw_7)) hx hb hr hlocks dX8_runText_24 hP hD hS ?_
      exact ⟨(goK_1 h_ev).symm, ⟨by omega, by omega⟩, fun h => absurd h (by show ¬ (1 : Int) = 0; decide), fun _ => ⟨g_R, g_M, rfl, rfl⟩⟩
  · have h_ev : eG Tx ty 80 0 = -2 := by omega
    refine lv_iconst (v := iI (1)) hx hb dX8_runText_10 rfl ?_
    refine lv_goto (tgt := 15) hx hb dX8_runText_11 (by decide) ?_
    refine lv_iconst (v := iI (1)) hx hb dX8_runText_15 rfl ?_
    refine lv_iconst (v := iI (1)) hx hb dX8_runText_16 rfl ?_
    refine z_muV (As := [.int (iI (1)), .int (iI (1)), .int (iI (1))]) (rest := []) (wr := [(bd 1, .inl (cZ, 80, .inl (iA (Ir)))), (bd 2, .inl (cI, 160, .inl (iA (Vm)))), (bd 3, .inl (cZ, 8, .inl (iA (Ic)))), (bd 4, .inl (cI, 8, .inl (iA (Pm)))), (bd 6, .inl (cZ, 8, .inl (iA (Dm)))), (bd 7, .inl (cI, 16384, .inl (iA (Lm)))), (bd 5, .inl (cI, 8, .inl (iA (Am)))), (bd 10, .inl (cI, 80, .inl (iA (Qm)))), (bd 8, .inl (cI, 4, .inl (iA (Pt)))), (bd 9, .inl (cC, 80, .inl (iA (Tx))))]) (ws2 := (fun (u : Unit) => [(bd 0, .inr (8, [.ref (bd 1), .ref (bd 2), .ref (bd 3), .ref (bd 4), .ref (bd 5), .ref (bd 6), .ref (bd 7), .int (iI (cn)), .ref (bd 8), .int (iI (mp)), .ref (bd 9), .int (iI (ty)), .int (iI (gkI 1 1 1)), .ref (bd 10), .ref (bd 11), .int (iI (sp_3)), .int (iI (ta_4)), .int (iI (ke_5)), .int (iI (on_6)), .int (iI (tw_7))])), (bd 1, .inl (cZ, 80, .inl (iA (Ir)))), (bd 2, .inl (cI, 160, .inl (iA (Vm)))), (bd 3, .inl (cZ, 8, .inl (iA (Ic)))), (bd 4, .inl (cI, 8, .inl (iA (Pm)))), (bd 6, .inl (cZ, 8, .inl (iA (Dm)))), (bd 7, .inl (cI, 16384, .inl (iA (Lm)))), (bd 5, .inl (cI, 8, .inl (iA (Am)))), (bd 10, .inl (cI, 80, .inl (iA (Qm)))), (bd 8, .inl (cI, 4, .inl (iA (Pt)))), (bd 9, .inl (cC, 80, .inl (iA (Tx))))])) ⟨hx, hb, hml, hown, hts⟩ (c_X8_goes l D cI cZ cC H.size (bd) (cn) (mp) (ty) (th) (sp_3) (ta_4) (ke_5) (on_6) (tw_7) (1) (1) (1) (by first | assumption | omega) (by first | assumption | omega) (by first | assumption | omega)) (cwV 3 hts gX8_runText_X8_goes rfl rfl rfl (by decide +kernel) ⟨Nat.le_of_ble_eq_true rfl, Nat.le_of_ble_eq_true rfl⟩) hP hD hS hA hK [0] [1, 2, 3, 4, 5, 6, 7, 8, 9, 10] [10, 0, 1, 2, 3, 4, 5, 6, 7, 8, 9] rfl (by decide) rfl (by decide) (by decide) (by decide) (fun _ => rfl) 0 8 rfl rfl rfl rfl hl.1 rfl (Nat.le_of_ble_eq_true rfl) dX8_runText_17 ⟨by omega, by omega⟩ (fun r_13 u H locs hq_12 hP hD hS => ?_)
    have hP : va_P D vwCl [(bd 0, .inr (8, [.ref (bd 1), .ref (bd 2), .ref (bd 3), .ref (bd 4), .ref (bd 5), .ref (bd 6), .ref (bd 7), .int (iI (cn)), .ref (bd 8), .int (iI (mp)), .ref (bd 9), .int (iI (ty)), .int (iI (gkI 1 1 1)), .ref (bd 10), .ref (bd 11), .int (iI (sp_3)), .int (iI (ta_4)), .int (iI (ke_5)), .int (iI (on_6)), .int (iI (tw_7))])), (bd 1, .inl (cZ, 80, .inl (iA (Ir)))), (bd 2, .inl (cI, 160, .inl (iA (Vm)))), (bd 3, .inl (cZ, 8, .inl (iA (Ic)))), (bd 4, .inl (cI, 8, .inl (iA (Pm)))), (bd 6, .inl (cZ, 8, .inl (iA (Dm)))), (bd 7, .inl (cI, 16384, .inl (iA (Lm)))), (bd 5, .inl (cI, 8, .inl (iA (Am)))), (bd 10, .inl (cI, 80, .inl (iA (Qm)))), (bd 8, .inl (cI, 4, .inl (iA (Pt)))), (bd 9, .inl (cC, 80, .inl (iA (Tx))))] H := hP
    have hD : va_D AA [(bd 0, .inr (8, [.ref (bd 1), .ref (bd 2), .ref (bd 3), .ref (bd 4), .ref (bd 5), .ref (bd 6), .ref (bd 7), .int (iI (cn)), .ref (bd 8), .int (iI (mp)), .ref (bd 9), .int (iI (ty)), .int (iI (gkI 1 1 1)), .ref (bd 10), .ref (bd 11), .int (iI (sp_3)), .int (iI (ta_4)), .int (iI (ke_5)), .int (iI (on_6)), .int (iI (tw_7))])), (bd 1, .inl (cZ, 80, .inl (iA (Ir)))), (bd 2, .inl (cI, 160, .inl (iA (Vm)))), (bd 3, .inl (cZ, 8, .inl (iA (Ic)))), (bd 4, .inl (cI, 8, .inl (iA (Pm)))), (bd 6, .inl (cZ, 8, .inl (iA (Dm)))), (bd 7, .inl (cI, 16384, .inl (iA (Lm)))), (bd 5, .inl (cI, 8, .inl (iA (Am)))), (bd 10, .inl (cI, 80, .inl (iA (Qm)))), (bd 8, .inl (cI, 4, .inl (iA (Pt)))), (bd 9, .inl (cC, 80, .inl (iA (Tx))))] := hD
    try dsimp only at hq_12
    obtain ⟨hv9, hq_12⟩ := hq_12
    have hv9 := hv9.symm
    subst hv9
    have hth : gkI (1) (1) (1) = 0 := rfl
    rw [hth] at hP hD
    have hP : va_P D vwCl [(bd 0, .inr (8, [.ref (bd 1), .ref (bd 2), .ref (bd 3), .ref (bd 4), .ref (bd 5), .ref (bd 6), .ref (bd 7), .int (iI (cn)), .ref (bd 8), .int (iI (mp)), .ref (bd 9), .int (iI (ty)), .int (iI (0)), .ref (bd 10), .ref (bd 11), .int (iI (sp_3)), .int (iI (ta_4)), .int (iI (ke_5)), .int (iI (on_6)), .int (iI (tw_7))])), (bd 1, .inl (cZ, 80, .inl (iA (Ir)))), (bd 2, .inl (cI, 160, .inl (iA (Vm)))), (bd 3, .inl (cZ, 8, .inl (iA (Ic)))), (bd 4, .inl (cI, 8, .inl (iA (Pm)))), (bd 6, .inl (cZ, 8, .inl (iA (Dm)))), (bd 7, .inl (cI, 16384, .inl (iA (Lm)))), (bd 5, .inl (cI, 8, .inl (iA (Am)))), (bd 10, .inl (cI, 80, .inl (iA (Qm)))), (bd 8, .inl (cI, 4, .inl (iA (Pt)))), (bd 9, .inl (cC, 80, .inl (iA (Tx))))] H := hP
    have hD : va_D AA [(bd 0, .inr (8, [.ref (bd 1), .ref (bd 2), .ref (bd 3), .ref (bd 4), .ref (bd 5), .ref (bd 6), .ref (bd 7), .int (iI (cn)), .ref (bd 8), .int (iI (mp)), .ref (bd 9), .int (iI (ty)), .int (iI (0)), .ref (bd 10), .ref (bd 11), .int (iI (sp_3)), .int (iI (ta_4)), .int (iI (ke_5)), .int (iI (on_6)), .int (iI (tw_7))])), (bd 1, .inl (cZ, 80, .inl (iA (Ir)))), (bd 2, .inl (cI, 160, .inl (iA (Vm)))), (bd 3, .inl (cZ, 8, .inl (iA (Ic)))), (bd 4, .inl (cI, 8, .inl (iA (Pm)))), (bd 6, .inl (cZ, 8, .inl (iA (Dm)))), (bd 7, .inl (cI, 16384, .inl (iA (Lm)))), (bd 5, .inl (cI, 8, .inl (iA (Am)))), (bd 10, .inl (cI, 80, .inl (iA (Qm)))), (bd 8, .inl (cI, 4, .inl (iA (Pt)))), (bd 9, .inl (cC, 80, .inl (iA (Tx))))] := hD
    rw [show bI (gkI (1) (1) (1) = 0) = 1 from bI_t hth]
    refine z_if_ne (tgt := 25) hx hb dX8_runText_20 (by decide) ⟨by omega, by omega⟩ (fun c_14 => ?_) (fun c_14 => ?_)
    · refine lv_aload_n hx hb dX8_runText_25 rfl (lv_at hl 0 rfl) ?_
      refine lv_iconst (v := iI (0)) hx hb dX8_runText_26 rfl ?_
      refine va_put (D := D) (ci := 8) (v := .int (iI (0))) (ty := .int) (C := RX8) (T := TX8) (N := 20) hx hb hts (fun _ h => List.mem_cons_of_mem _ (List.mem_append_right _ (h))) tyX8 tyX8_ok nmX8 hown hK.1 hP hD hS 0 rfl rfl 15 (by decide) (hts (.fieldLink RX8 142 "ForeignKeyStoreModel" "spot" "I") (List.mem_of_getElem? (i := 1) rfl)) (fun _ h9 => h9) rfl (by decide +kernel) rfl rfl (Nat.le_of_ble_eq_true rfl) dX8_runText_27 (fun H locs hP hD hS => ?_)
      have hP : va_P D vwCl [(bd 0, .inr (8, [.ref (bd 1), .ref (bd 2), .ref (bd 3), .ref (bd 4), .ref (bd 5), .ref (bd 6), .ref (bd 7), .int (iI (cn)), .ref (bd 8), .int (iI (mp)), .ref (bd 9), .int (iI (ty)), .int (iI (0)), .ref (bd 10), .ref (bd 11), .int (iI (0)), .int (iI (ta_4)), .int (iI (ke_5)), .int (iI (on_6)), .int (iI (tw_7))])), (bd 1, .inl (cZ, 80, .inl (iA (Ir)))), (bd 2, .inl (cI, 160, .inl (iA (Vm)))), (bd 3, .inl (cZ, 8, .inl (iA (Ic)))), (bd 4, .inl (cI, 8, .inl (iA (Pm)))), (bd 6, .inl (cZ, 8, .inl (iA (Dm)))), (bd 7, .inl (cI, 16384, .inl (iA (Lm)))), (bd 5, .inl (cI, 8, .inl (iA (Am)))), (bd 10, .inl (cI, 80, .inl (iA (Qm)))), (bd 8, .inl (cI, 4, .inl (iA (Pt)))), (bd 9, .inl (cC, 80, .inl (iA (Tx))))] H := hP
      have hD : va_D AA [(bd 0, .inr (8, [.ref (bd 1), .ref (bd 2), .ref (bd 3), .ref (bd 4), .ref (bd 5), .ref (bd 6), .ref (bd 7), .int (iI (cn)), .ref (bd 8), .int (iI (mp)), .ref (bd 9), .int (iI (ty)), .int (iI (0)), .ref (bd 10), .ref (bd 11), .int (iI (0)), .int (iI (ta_4)), .int (iI (ke_5)), .int (iI (on_6)), .int (iI (tw_7))])), (bd 1, .inl (cZ, 80, .inl (iA (Ir)))), (bd 2, .inl (cI, 160, .inl (iA (Vm)))), (bd 3, .inl (cZ, 8, .inl (iA (Ic)))), (bd 4, .inl (cI, 8, .inl (iA (Pm)))), (bd 6, .inl (cZ, 8, .inl (iA (Dm)))), (bd 7, .inl (cI, 16384, .inl (iA (Lm)))), (bd 5, .inl (cI, 8, .inl (iA (Am)))), (bd 10, .inl (cI, 80, .inl (iA (Qm)))), (bd 8, .inl (cI, 4, .inl (iA (Pt)))), (bd 9, .inl (cC, 80, .inl (iA (Tx))))] := hD
      refine lv_iconst (v := iI (0)) hx hb dX8_runText_30 rfl ?_
      refine lv_istore_n (lv' := [(1, .int (iI (0))), (0, .ref (bd 0))]) hx hb dX8_runText_31 rfl hl (by decide) rfl (fun ls hl => ?_)
      refine lv_iconst (v := iI (1)) hx hb dX8_runText_32 rfl ?_
      refine lv_istore_n (lv' := [(2, .int (iI (1))), (1, .int (iI (0))), (0, .ref (bd 0))]) hx hb dX8_runText_33 rfl hl (by decide) rfl (fun ls hl => ?_)
      have loop34 : ∀ (fu : Nat) (i : Nat) (mr px tax kex onx twx cnx mpx ax M : Int) (Irx Vmx Lmx Qmx Ptx Vx : Int → Int) (lgx : Lg) (Lx : Nat), (g_i : i ≤ 41 ∧ (mr = 1 → 2 * (i : Int) ≤ px)) → (g_mr : mr = 0 ∨ mr = 1) → (g_fu : 41 + mr < (fu : Int) + (i : Int)) → (g_px : 0 ≤ px ∧ px ≤ ty) → (g_v : mr = 1 → vE Tx ty px) → (g_t : mr = 1 → rtF P Ac Mo Tx ty 80 0 0 0 (V, lg, Pt, mp) Ln = rtF P Ac Mo Tx ty (80 - i) (i : Int) ax px (Vx, lgx, Ptx, mpx) Lx ∧ -10 < ax) → (g_z : mr = 0 → rtF P Ac Mo Tx ty 80 0 0 0 (V, lg, Pt, mp) Ln = ((i : Int), (Vx, lgx, Ptx, mpx), Lx)) → (g_Rx : rV Irx Vmx Vx) → (g_Mx : isM lgx Lmx cnx) → (g_Hx : okH M lgx Vx) → (g_Mb : M ≤ 16380 ∧ (mr = 1 → M + 4 * ((ty + 1 - px) / 9) ≤ N + 4 * ((ty + 1) / 9))) → (g_sx : spOK Ptx mpx) → ∀ (H : Heap) (locs : List Loc), va_P D vwCl [(bd 0, .inr (8, [.ref (bd 1), .ref (bd 2), .ref (bd 3), .ref (bd 4), .ref (bd 5), .ref (bd 6), .ref (bd 7), .int (iI (cnx)), .ref (bd 8), .int (iI (mpx)), .ref (bd 9), .int (iI (ty)), .int (iI (0)), .ref (bd 10), .ref (bd 11), .int (iI (px)), .int (iI (tax)), .int (iI (kex)), .int (iI (onx)), .int (iI (twx))])), (bd 1, .inl (cZ, 80, .inl (iA (Irx)))), (bd 2, .inl (cI, 160, .inl (iA (Vmx)))), (bd 3, .inl (cZ, 8, .inl (iA (Ic)))), (bd 4, .inl (cI, 8, .inl (iA (Pm)))), (bd 6, .inl (cZ, 8, .inl (iA (Dm)))), (bd 7, .inl (cI, 16384, .inl (iA (Lmx)))), (bd 5, .inl (cI, 8, .inl (iA (Am)))), (bd 10, .inl (cI, 80, .inl (iA (Qmx)))), (bd 8, .inl (cI, 4, .inl (iA (Ptx)))), (bd 9, .inl (cC, 80, .inl (iA (Tx))))] H → va_D AA [(bd 0, .inr (8, [.ref (bd 1), .ref (bd 2), .ref (bd 3), .ref (bd 4), .ref (bd 5), .ref (bd 6), .ref (bd 7), .int (iI (cnx)), .ref (bd 8), .int (iI (mpx)), .ref (bd 9), .int (iI (ty)), .int (iI (0)), .ref (bd 10), .ref (bd 11), .int (iI (px)), .int (iI (tax)), .int (iI (kex)), .int (iI (onx)), .int (iI (twx))])), (bd 1, .inl (cZ, 80, .inl (iA (Irx)))), (bd 2, .inl (cI, 160, .inl (iA (Vmx)))), (bd 3, .inl (cZ, 8, .inl (iA (Ic)))), (bd 4, .inl (cI, 8, .inl (iA (Pm)))), (bd 6, .inl (cZ, 8, .inl (iA (Dm)))), (bd 7, .inl (cI, 16384, .inl (iA (Lmx)))), (bd 5, .inl (cI, 8, .inl (iA (Am)))), (bd 10, .inl (cI, 80, .inl (iA (Qmx)))), (bd 8, .inl (cI, 4, .inl (iA (Ptx)))), (bd 9, .inl (cC, 80, .inl (iA (Tx))))] → va_S AA s0.heap H locs → ∀ ls : Array Slot, lv_has ls 6 [(2, .int (iI (mr))), (1, .int (iI ((i : Int)))), (0, .ref (bd 0))] → W p0 l en0 (headSpec wsX8_runText ({ frames := 8, cells := 0, slots := 0, locals := 168 })).room s0 m0 args0 below0 meth0 c0 H locs 0 0 (QMi below0 D ((fun (u : (Int → Int) × (Int → Int) × (Int → Int) × (Int → Int) × (Int → Int) × Int × Int × Int × Int × Int × Int × Int × Int) => [(bd 0, .inr (8, [.ref (bd 1), .ref (bd 2), .ref (bd 3), .ref (bd 4), .ref (bd 5), .ref (bd 6), .ref (bd 7), .int (iI (u.2.2.2.2.2.1)), .ref (bd 8), .int (iI (u.2.2.2.2.2.2.1)), .ref (bd 9), .int (iI (ty)), .int (iI (u.2.2.2.2.2.2.2.1)), .ref (bd 10), .ref (bd 11), .int (iI (u.2.2.2.2.2.2.2.2.1)), .int (iI (u.2.2.2.2.2.2.2.2.2.1)), .int (iI (u.2.2.2.2.2.2.2.2.2.2.1)), .int (iI (u.2.2.2.2.2.2.2.2.2.2.2.1)), .int (iI (u.2.2.2.2.2.2.2.2.2.2.2.2))])), (bd 1, .inl (cZ, 80, .inl (iA (u.1)))), (bd 2, .inl (cI, 160, .inl (iA (u.2.1)))), (bd 3, .inl (cZ, 8, .inl (iA (Ic)))), (bd 4, .inl (cI, 8, .inl (iA (Pm)))), (bd 6, .inl (cZ, 8, .inl (iA (Dm)))), (bd 7, .inl (cI, 16384, .inl (iA (u.2.2.1)))), (bd 5, .inl (cI, 8, .inl (iA (Am)))), (bd 10, .inl (cI, 80, .inl (iA (u.2.2.2.1)))), (bd 8, .inl (cI, 4, .inl (iA (u.2.2.2.2.1)))), (bd 9, .inl (cC, 80, .inl (iA (Tx))))])) (fun v (u : (Int → Int) × (Int → Int) × (Int → Int) × (Int → Int) × (Int → Int) × Int × Int × Int × Int × Int × Int × Int × Int) => u.2.2.2.2.2.2.2.1 = goK (eG Tx ty 80 0 = -2) (True) (True) ∧ ib v ∧ (u.2.2.2.2.2.2.2.1 = 0 → v = (rtF P Ac Mo Tx ty 80 0 0 0 (V, lg, Pt, mp) Ln).1 ∧ rV u.1 u.2.1 (rtF P Ac Mo Tx ty 80 0 0 0 (V, lg, Pt, mp) Ln).2.1.1 ∧ isM (rtF P Ac Mo Tx ty 80 0 0 0 (V, lg, Pt, mp) Ln).2.1.2.1 u.2.2.1 u.2.2.2.2.2.1 ∧ u.2.2.2.2.1 = (rtF P Ac Mo Tx ty 80 0 0 0 (V, lg, Pt, mp) Ln).2.1.2.2.1 ∧ u.2.2.2.2.2.2.1 = (rtF P Ac Mo Tx ty 80 0 0 0 (V, lg, Pt, mp) Ln).2.1.2.2.2) ∧ (¬ u.2.2.2.2.2.2.2.1 = 0 → rV u.1 u.2.1 V ∧ isM lg u.2.2.1 u.2.2.2.2.2.1 ∧ u.2.2.2.2.1 = Pt ∧ u.2.2.2.2.2.2.1 = mp)) AA args0 s0 (0) (0)) (F0 m0 34 ls []) := by
        intro fu
        induction fu with
        | zero => intro i mr px tax kex onx twx cnx mpx ax M Irx Vmx Lmx Qmx Ptx Vx lgx Lx g_i g_mr g_fu g_px g_v g_t g_z g_Rx g_Mx g_Hx g_Mb g_sx H locs hP hD hS ls hl; exfalso; omega
        | succ fu ih34 =>
          intro i mr px tax kex onx twx cnx mpx ax M Irx Vmx Lmx Qmx Ptx Vx lgx Lx g_i g_mr g_fu g_px g_v g_t g_z g_Rx g_Mx g_Hx g_Mb g_sx H locs hP hD hS ls hl
          refine lv_iload_n hx hb dX8_runText_34 rfl (lv_at hl 0 rfl) ?_
          refine z_if_eq (tgt := 108) hx hb dX8_runText_35 (by decide) ⟨by omega, by omega⟩ (fun c_15 => ?_) (fun c_15 => ?_)
          · refine lv_iload_n hx hb dX8_runText_108 rfl (lv_at hl 1 rfl) ?_
            refine z_mret ((Irx, Vmx, Lmx, Qmx, Ptx, cnx, mpx, 0, px, tax, kex, onx, twx)) hx hb hr hlocks dX8_runText_109 hP hD hS ?_
            exact ⟨(goK_0 h_ev trivial trivial).symm, ⟨by omega, by omega⟩, fun _ => by rw [g_z (by omega)]; exact ⟨rfl, g_Rx, g_Mx, rfl, rfl⟩, fun h => absurd rfl h⟩
          · have h_m1 : mr = 1 := by omega
            obtain ⟨g_t1, g_t2⟩ := g_t h_m1
            have g_v1 := g_v h_m1
            have g_M1 := g_Mb.2 h_m1
            have g_i1 := g_i.2 h_m1
            clear g_t g_v g_z
            refine lv_aload_n hx hb dX8_runText_38 rfl (lv_at hl 2 rfl) ?_
            refine z_muV (As := []) (rest := []) (wr := [(bd 1, .inl (cZ, 80, .inl (iA (Irx)))), (bd 2, .inl (cI, 160, .inl (iA (Vmx)))), (bd 3, .inl (cZ, 8, .inl (iA (Ic)))), (bd 4, .inl (cI, 8, .inl (iA (Pm)))), (bd 6, .inl (cZ, 8, .inl (iA (Dm)))), (bd 7, .inl (cI, 16384, .inl (iA (Lmx)))), (bd 5, .inl (cI, 8, .inl (iA (Am)))), (bd 10, .inl (cI, 80, .inl (iA (Qmx)))), (bd 8, .inl (cI, 4, .inl (iA (Ptx))))]) (ws2 := (fun (u : Int × Int × Int × Int × Int) => [(bd 0, .inr (8, [.ref (bd 1), .ref (bd 2), .ref (bd 3), .ref (bd 4), .ref (bd 5), .ref (bd 6), .ref (bd 7), .int (iI (cnx)), .ref (bd 8), .int (iI (mpx)), .ref (bd 9), .int (iI (ty)), .int (iI (0)), .ref (bd 10), .ref (bd 11), .int (iI (u.1)), .int (iI (u.2.1)), .int (iI (u.2.2.1)), .int (iI (u.2.2.2.1)), .int (iI (u.2.2.2.2))])), (bd 1, .inl (cZ, 80, .inl (iA (Irx)))), (bd 2, .inl (cI, 160, .inl (iA (Vmx)))), (bd 3, .inl (cZ, 8, .inl (iA (Ic)))), (bd 4, .inl (cI, 8, .inl (iA (Pm)))), (bd 6, .inl (cZ, 8, .inl (iA (Dm)))), (bd 7, .inl (cI, 16384, .inl (iA (Lmx)))), (bd 5, .inl (cI, 8, .inl (iA (Am)))), (bd 10, .inl (cI, 80, .inl (iA (Qmx)))), (bd 8, .inl (cI, 4, .inl (iA (Ptx)))), (bd 9, .inl (cC, 80, .inl (iA (Tx))))])) ⟨hx, hb, hml, hown, hts⟩ (c_X8_command l D cI cZ cC H.size (bd) (cnx) (mpx) (ty) (0) (px) (tax) (kex) (onx) (twx) (Tx) (by first | assumption | omega) (by first | assumption | omega) (by first | assumption | omega)) (cwV 0 hts gX8_runText_X8_command rfl rfl rfl (by decide +kernel) ⟨Nat.le_of_ble_eq_true rfl, Nat.le_of_ble_eq_true rfl⟩) hP hD hS hA hK [0, 10] [1, 2, 3, 4, 5, 6, 7, 8, 9] [9, 0, 1, 2, 3, 4, 5, 6, 7, 8, 10] rfl (by decide) rfl (by decide) (by decide) (by decide) (fun _ => rfl) 0 8 rfl rfl rfl rfl hl.1 rfl (Nat.le_of_ble_eq_true rfl) dX8_runText_39 ⟨by omega, by omega⟩ (fun r_17 u H locs hq_16 hP hD hS => ?_)
            obtain ⟨sp_18, ta_19, ke_20, on_21, tw_22⟩ := u
            have hP : va_P D vwCl [(bd 0, .inr (8, [.ref (bd 1), .ref (bd 2), .ref (bd 3), .ref (bd 4), .ref (bd 5), .ref (bd 6), .ref (bd 7), .int (iI (cnx)), .ref (bd 8), .int (iI (mpx)), .ref (bd 9), .int (iI (ty)), .int (iI (0)), .ref (bd 10), .ref (bd 11), .int (iI (sp_18)), .int (iI (ta_19)), .int (iI (ke_20)), .int (iI (on_21)), .int (iI (tw_22))])), (bd 1, .inl (cZ, 80, .inl (iA (Irx)))), (bd 2, .inl (cI, 160, .inl (iA (Vmx)))), (bd 3, .inl (cZ, 8, .inl (iA (Ic)))), (bd 4, .inl (cI, 8, .inl (iA (Pm)))), (bd 6, .inl (cZ, 8, .inl (iA (Dm)))), (bd 7, .inl (cI, 16384, .inl (iA (Lmx)))), (bd 5, .inl (cI, 8, .inl (iA (Am)))), (bd 10, .inl (cI, 80, .inl (iA (Qmx)))), (bd 8, .inl (cI, 4, .inl (iA (Ptx)))), (bd 9, .inl (cC, 80, .inl (iA (Tx))))] H := hP
            have hD : va_D AA [(bd 0, .inr (8, [.ref (bd 1), .ref (bd 2), .ref (bd 3), .ref (bd 4), .ref (bd 5), .ref (bd 6), .ref (bd 7), .int (iI (cnx)), .ref (bd 8), .int (iI (mpx)), .ref (bd 9), .int (iI (ty)), .int (iI (0)), .ref (bd 10), .ref (bd 11), .int (iI (sp_18)), .int (iI (ta_19)), .int (iI (ke_20)), .int (iI (on_21)), .int (iI (tw_22))])), (bd 1, .inl (cZ, 80, .inl (iA (Irx)))), (bd 2, .inl (cI, 160, .inl (iA (Vmx)))), (bd 3, .inl (cZ, 8, .inl (iA (Ic)))), (bd 4, .inl (cI, 8, .inl (iA (Pm)))), (bd 6, .inl (cZ, 8, .inl (iA (Dm)))), (bd 7, .inl (cI, 16384, .inl (iA (Lmx)))), (bd 5, .inl (cI, 8, .inl (iA (Am)))), (bd 10, .inl (cI, 80, .inl (iA (Qmx)))), (bd 8, .inl (cI, 4, .inl (iA (Ptx)))), (bd 9, .inl (cC, 80, .inl (iA (Tx))))] := hD
            try dsimp only at hq_16
            obtain ⟨h_c1, h_c2, h_c3, h_c4⟩ := hq_16
            have h_cl := cG_le g_Tx g_px.2
            have h_v1 : (cG Tx ty px).1 = 1 := by have h7 := cG_01 g_Tx g_px.2; have h8 := eG_1 (by omega) g_px.1 g_v1; omega
            rw [if_pos h_v1] at h_c1
            have h_ok := (cG_ok h_v1).1
            have h_st := (cG_ok h_v1).2.1
            obtain ⟨h_d1, h_d2, h_d3⟩ := h_c4 h_v1
            clear h_c4
            rw [← h_c1] at h_ok h_d1 h_d2 h_d3
            have h_a1 : r_17 = 105 ∨ r_17 = 117 → ((cG Tx ty px).2.2.getD 0 0) = ta_19 ∧ ((cG Tx ty px).2.2.getD 1 0) = ke_20 ∧ ((cG Tx ty px).2.2.getD 2 0) = on_21 ∧ ((cG Tx ty px).2.2.getD 3 0) = tw_22 := fun q => by rw [h_d1 q]; exact ⟨rfl, rfl, rfl, rfl⟩
            have h_a2 : r_17 = 100 → ((cG Tx ty px).2.2.getD 0 0) = ta_19 ∧ ((cG Tx ty px).2.2.getD 1 0) = ke_20 := fun q => by rw [h_d2 q]; exact ⟨rfl, rfl⟩
            have h_a3 : r_17 = 98 → ((cG Tx ty px).2.2.getD 0 0) = on_21 := fun q => by rw [h_d3 q]; rfl
            clear h_d1 h_d2 h_d3
            have h_a4 : r_17 = 105 ∨ r_17 = 117 ∨ r_17 = 100 → ((cG Tx ty px).2.2.getD 0 0) = ta_19 ∧ ((cG Tx ty px).2.2.getD 1 0) = ke_20 := fun q => by
              rcases q with q | q | q
              · exact ⟨(h_a1 (Or.inl q)).1, (h_a1 (Or.inl q)).2.1⟩
              · exact ⟨(h_a1 (Or.inr q)).1, (h_a1 (Or.inr q)).2.1⟩
              · exact h_a2 q
            have h_rb : 0 ≤ r_17 ∧ r_17 < 128 := by
              have h7 := h_ok
              unfold aOK at h7
              omega
            have h_rr : r_17 = 105 ∨ r_17 = 117 ∨ r_17 = 100 → 0 ≤ 20 * ta_19 + ke_20 ∧ 20 * ta_19 + ke_20 < 80 := fun q => by
              have h7 := h_ok
              unfold aOK at h7
              have h8 := h_a4 q
              omega
            have h_on : r_17 = 98 → -2147483648 ≤ on_21 ∧ on_21 < 2147483648 := fun q => by
              have h7 := h_ok
              unfold aOK at h7
              have h8 := h_a3 q
              omega
            have h_nn := isM_n g_Mx
            have h_tp := okH_top g_Hx
            have h_pb := (pot_b Vx).1
            have h_okD : okD 16384 Vx cnx := by rw [h_nn]; exact okH_D (by omega) g_Hx
            have h_cnb : 0 ≤ cnx ∧ cnx < 16384 := by omega
            have h_u1 : rtF P Ac Mo Tx ty 80 0 0 0 (V, lg, Pt, mp) Ln = if (stp P Ac Mo Tx ty px (Vx, lgx, Ptx, mpx)).1 = -3 then ((i : Int), (stp P Ac Mo Tx ty px (Vx, lgx, Ptx, mpx)).2, stL Tx ty px (Vx, lgx, Ptx, mpx) Lx) else rtF P Ac Mo Tx ty (80 - (i + 1)) ((i : Int) + 1) (stp P Ac Mo Tx ty px (Vx, lgx, Ptx, mpx)).1 (rS Tx ty 59 (cG Tx ty px).2.1).2 (stp P Ac Mo Tx ty px (Vx, lgx, Ptx, mpx)).2 (stL Tx ty px (Vx, lgx, Ptx, mpx) Lx) := by
              rw [g_t1, show 80 - i = (80 - (i + 1)) + 1 by omega, rtF, if_neg (by omega), if_neg (by omega)]
            refine lv_istore_n (lv' := [(3, .int (iI (r_17))), (2, .int (iI (mr))), (1, .int (iI ((i : Int)))), (0, .ref (bd 0))]) hx hb dX8_runText_42 rfl hl (by decide) rfl (fun ls hl => ?_)
            refine lv_aload_n hx hb dX8_runText_43 rfl (lv_at hl 3 rfl) ?_
            refine lv_iload_n hx hb dX8_runText_44 rfl (lv_at hl 0 rfl) ?_
            refine z_roV (As := [.int (iI (r_17))]) (rest := []) ⟨hx, hb, hml, hown, hts⟩ (c_X8_can l D cI cZ cC (bd) (cnx) (mpx) (ty) (0) (sp_18) (ta_19) (ke_20) (on_21) (tw_22) (Irx) (r_17) (rV_01 g_Rx) (h_rb) (h_rr) (h_on) (g_sx.1)) (cwV 1 hts gX8_runText_X8_can rfl rfl rfl (by decide +kernel) ⟨Nat.le_of_ble_eq_true rfl, Nat.le_of_ble_eq_true rfl⟩) hP hK [0, 1] rfl 0 8 rfl rfl rfl rfl hl.1 rfl (Nat.le_of_ble_eq_true rfl) dX8_runText_45 ⟨by omega, by omega⟩ ?_
            refine lv_istore (lv' := [(4, .int (iI (bI (canM Irx mpx r_17 ta_19 ke_20 on_21)))), (3, .int (iI (r_17))), (2, .int (iI (mr))), (1, .int (iI ((i : Int)))), (0, .ref (bd 0))]) hx hb dX8_runText_48 hl (by decide) rfl (fun ls hl => ?_)
            refine lv_iload hx hb dX8_runText_50 (lv_at hl 0 rfl) ?_
            refine z_b_eq (tgt := 63) hx hb dX8_runText_52 (by decide) (fun c_23 => ?_) (fun c_23 => ?_)
            · have h_s3 : stp P Ac Mo Tx ty px (Vx, lgx, Ptx, mpx) = (-3, (Vx, lgx, Ptx, mpx)) := by
                unfold stp
                rw [← h_c1]
                exact canM_3 g_Rx h_ok h_a4 h_a3 c_23
              rw [h_s3, if_pos rfl] at h_u1
              dsimp only at h_u1
              refine lv_bipush (v := iI (-2)) hx hb dX8_runText_63 (by decide) ?_
              refine lv_istore (lv' := [(5, .int (iI ((-2)))), (4, .int (iI (bI (canM Irx mpx r_17 ta_19 ke_20 on_21)))), (3, .int (iI (r_17))), (2, .int (iI (mr))), (1, .int (iI ((i : Int)))), (0, .ref (bd 0))]) hx hb dX8_runText_65 hl (by decide) rfl (fun ls hl => ?_)
              refine lv_iload_n hx hb dX8_runText_67 rfl (lv_at hl 4 rfl) ?_
              refine lv_iload hx hb dX8_runText_68 (lv_at hl 1 rfl) ?_
              refine z_b_eq (tgt := 77) hx hb dX8_runText_70 (by decide) (fun c_24 => ?_) (fun c_24 => ?_)
              · refine lv_iconst (v := iI (0)) hx hb dX8_runText_77 rfl ?_
                refine z_iadd hx hb dX8_runText_78 ?_
                refine lv_istore_n (lv' := [(1, .int (iI (((i : Int) + 0)))), (5, .int (iI ((-2)))), (4, .int (iI (bI (canM Irx mpx r_17 ta_19 ke_20 on_21)))), (3, .int (iI (r_17))), (2, .int (iI (mr))), (0, .ref (bd 0))]) hx hb dX8_runText_79 rfl hl (by decide) rfl (fun ls hl => ?_)
                refine lv_iload hx hb dX8_runText_80 (lv_at hl 2 rfl) ?_
                refine z_b_eq (tgt := 103) hx hb dX8_runText_82 (by decide) (fun c_25 => ?_) (fun c_25 => ?_)
                · refine lv_iconst (v := iI (0)) hx hb dX8_runText_103 rfl ?_
                  refine lv_istore_n (lv' := [(2, .int (iI (0))), (1, .int (iI (((i : Int) + 0)))), (5, .int (iI ((-2)))), (4, .int (iI (bI (canM Irx mpx r_17 ta_19 ke_20 on_21)))), (3, .int (iI (r_17))), (0, .ref (bd 0))]) hx hb dX8_runText_104 rfl hl (by decide) rfl (fun ls hl => ?_)
                  refine lv_goto (tgt := 34) hx hb dX8_runText_105 (by decide) ?_
                  exact ih34 i 0 _ _ _ _ _ _ _ 0 M _ _ _ _ _ Vx lgx (stL Tx ty px (Vx, lgx, Ptx, mpx) Lx) ⟨by omega, by omega⟩ (by omega) (by omega) ⟨by omega, by omega⟩ (fun q => absurd q (by decide)) (fun q => absurd q (by decide)) (fun _ => h_u1) g_Rx g_Mx g_Hx ⟨by omega, fun q => absurd q (by decide)⟩ g_sx _ _ hP hD hS _ (lv_sub hl [0, 1, 5] rfl)
                · exfalso
                  contradiction
              · exfalso
                contradiction
            · refine lv_aload_n hx hb dX8_runText_55 rfl (lv_at hl 4 rfl) ?_
              refine lv_iload_n hx hb dX8_runText_56 rfl (lv_at hl 1 rfl) ?_
              refine z_muV (As := [.int (iI (r_17))]) (rest := []) (wr := [(bd 9, .inl (cC, 80, .inl (iA (Tx))))]) (ws2 := (fun (u : (Int → Int) × (Int → Int) × (Int → Int) × (Int → Int) × (Int → Int) × Int × Int × Int) => [(bd 0, .inr (8, [.ref (bd 1), .ref (bd 2), .ref (bd 3), .ref (bd 4), .ref (bd 5), .ref (bd 6), .ref (bd 7), .int (iI (u.2.2.2.2.2.1)), .ref (bd 8), .int (iI (u.2.2.2.2.2.2.1)), .ref (bd 9), .int (iI (ty)), .int (iI (u.2.2.2.2.2.2.2)), .ref (bd 10), .ref (bd 11), .int (iI (sp_18)), .int (iI (ta_19)), .int (iI (ke_20)), .int (iI (on_21)), .int (iI (tw_22))])), (bd 1, .inl (cZ, 80, .inl (iA (u.1)))), (bd 2, .inl (cI, 160, .inl (iA (u.2.1)))), (bd 3, .inl (cZ, 8, .inl (iA (Ic)))), (bd 4, .inl (cI, 8, .inl (iA (Pm)))), (bd 6, .inl (cZ, 8, .inl (iA (Dm)))), (bd 7, .inl (cI, 16384, .inl (iA (u.2.2.1)))), (bd 5, .inl (cI, 8, .inl (iA (Am)))), (bd 10, .inl (cI, 80, .inl (iA (u.2.2.2.1)))), (bd 8, .inl (cI, 4, .inl (iA (u.2.2.2.2.1)))), (bd 9, .inl (cC, 80, .inl (iA (Tx))))])) ⟨hx, hb, hml, hown, hts⟩ (c_X8_does l D cI cZ cC H.size (bd) (cnx) (mpx) (ty) (0) (sp_18) (ta_19) (ke_20) (on_21) (tw_22) (Irx) (Vmx) (Lmx) (Qmx) (Ptx) (Vx) (Ic) (Pm) (Am) (Dm) (P) (Ac) (Mo) (lgx) (r_17) ((cG Tx ty px).2.2.getD 0 0) ((cG Tx ty px).2.2.getD 1 0) ((cG Tx ty px).2.2.getD 2 0) ((cG Tx ty px).2.2.getD 3 0) (g_Rx) (g_C) (g_Mx) (h_okD) (h_cnb) (g_sx) (h_rb) (h_ok) (by assumption) (h_a1) (h_a2) (h_a3)) (cwV 1 hts gX8_runText_X8_does rfl rfl rfl (by decide +kernel) ⟨Nat.le_of_ble_eq_true rfl, Nat.le_of_ble_eq_true rfl⟩) hP hD hS hA hK [0, 1, 2, 3, 4, 5, 6, 7, 8, 9] [10] [1, 2, 3, 4, 5, 6, 7, 8, 9, 10, 0] rfl (by decide) rfl (by decide) (by decide) (by decide) (fun _ => rfl) 0 8 rfl rfl rfl rfl hl.1 rfl (Nat.le_of_ble_eq_true rfl) dX8_runText_57 ⟨by omega, by omega⟩ (fun r_27 u H locs hq_26 hP hD hS => ?_)
              obtain ⟨Ir_28, Vm_29, Lm_30, Qm_31, Pt_32, cn_33, mp_34, th_35⟩ := u
              have hP : va_P D vwCl [(bd 0, .inr (8, [.ref (bd 1), .ref (bd 2), .ref (bd 3), .ref (bd 4), .ref (bd 5), .ref (bd 6), .ref (bd 7), .int (iI (cn_33)), .ref (bd 8), .int (iI (mp_34)), .ref (bd 9), .int (iI (ty)), .int (iI (th_35)), .ref (bd 10), .ref (bd 11), .int (iI (sp_18)), .int (iI (ta_19)), .int (iI (ke_20)), .int (iI (on_21)), .int (iI (tw_22))])), (bd 1, .inl (cZ, 80, .inl (iA (Ir_28)))), (bd 2, .inl (cI, 160, .inl (iA (Vm_29)))), (bd 3, .inl (cZ, 8, .inl (iA (Ic)))), (bd 4, .inl (cI, 8, .inl (iA (Pm)))), (bd 6, .inl (cZ, 8, .inl (iA (Dm)))), (bd 7, .inl (cI, 16384, .inl (iA (Lm_30)))), (bd 5, .inl (cI, 8, .inl (iA (Am)))), (bd 10, .inl (cI, 80, .inl (iA (Qm_31)))), (bd 8, .inl (cI, 4, .inl (iA (Pt_32)))), (bd 9, .inl (cC, 80, .inl (iA (Tx))))] H := hP
              have hD : va_D AA [(bd 0, .inr (8, [.ref (bd 1), .ref (bd 2), .ref (bd 3), .ref (bd 4), .ref (bd 5), .ref (bd 6), .ref (bd 7), .int (iI (cn_33)), .ref (bd 8), .int (iI (mp_34)), .ref (bd 9), .int (iI (ty)), .int (iI (th_35)), .ref (bd 10), .ref (bd 11), .int (iI (sp_18)), .int (iI (ta_19)), .int (iI (ke_20)), .int (iI (on_21)), .int (iI (tw_22))])), (bd 1, .inl (cZ, 80, .inl (iA (Ir_28)))), (bd 2, .inl (cI, 160, .inl (iA (Vm_29)))), (bd 3, .inl (cZ, 8, .inl (iA (Ic)))), (bd 4, .inl (cI, 8, .inl (iA (Pm)))), (bd 6, .inl (cZ, 8, .inl (iA (Dm)))), (bd 7, .inl (cI, 16384, .inl (iA (Lm_30)))), (bd 5, .inl (cI, 8, .inl (iA (Am)))), (bd 10, .inl (cI, 80, .inl (iA (Qm_31)))), (bd 8, .inl (cI, 4, .inl (iA (Pt_32)))), (bd 9, .inl (cC, 80, .inl (iA (Tx))))] := hD
              try dsimp only at hq_26
              obtain ⟨h_ib, h_th, V2, lg2, h_z1, h_z2, h_z3⟩ := hq_26
              have h_th0 : th_35 = 0 := by omega
              subst h_th0
              have h_sp : (r_27, (V2, lg2, Pt_32, mp_34)) = stp P Ac Mo Tx ty px (Vx, lgx, Ptx, mpx) := by
                unfold stp
                rw [← h_c1]
                exact h_z1
              have h_so := stp_sp (P := P) (Ac := Ac) (Mo := Mo) (SG := Tx) (tl := ty) (p := px) (V := Vx) (lg := lgx) g_sx (by omega)
              rw [← h_sp] at h_so h_u1
              dsimp only at h_so
              have h_bd : 0 ≤ bud r_17 ∧ bud r_17 ≤ 4 := by unfold bud; split <;> omega
              have h_bs := (rt_step g_px.1 h_cl.2 h_v1 g_v1).2
              rw [← h_c1] at h_bs
              have h_H := cmdF_H (P := P) (Ac := Ac) (Mo := Mo) (SP := Ptx) (sn := mpx) g_Hx (by omega) g_sx.1.1 h_ok
              have h_n3 := canM_n (P := P) (Ac := Ac) (Mo := Mo) (lg := lgx) (SP := Ptx) g_Rx h_ok h_a4 h_a3 (by assumption) g_sx.1 g_Hx (by omega)
              rw [← h_z1] at h_H h_n3
              dsimp only at h_H h_n3
              obtain ⟨h_H1, h_H2⟩ := h_H
              replace h_H2 : 0 ≤ r_27 ∨ r_27 ≤ -10 := by
                rcases h_H2 with q | q | q
                · exact Or.inl q
                · exact Or.inr q
                · exact absurd (congrArg Prod.fst q) h_n3
              rw [if_neg h_n3] at h_u1
              dsimp only at h_u1
              have h_mo := rt_more g_px.1 h_cl g_v1
              refine lv_goto (tgt := 65) hx hb dX8_runText_60 (by decide) ?_
              refine lv_istore (lv' := [(5, .int (iI (r_27))), (4, .int (iI (bI (canM Irx mpx r_17 ta_19 ke_20 on_21)))), (3, .int (iI (r_17))), (2, .int (iI (mr))), (1, .int (iI ((i : Int)))), (0, .ref (bd 0))]) hx hb dX8_runText_65 hl (by decide) rfl (fun ls hl => ?_)
              refine lv_iload_n hx hb dX8_runText_67 rfl (lv_at hl 4 rfl) ?_
              refine lv_iload hx hb dX8_runText_68 (lv_at hl 1 rfl) ?_
              refine z_b_eq (tgt := 77) hx hb dX8_runText_70 (by decide) (fun c_36 => ?_) (fun c_36 => ?_)
              · exfalso
                contradiction
              · refine lv_iconst (v := iI (1)) hx hb dX8_runText_73 rfl ?_
                refine lv_goto (tgt := 78) hx hb dX8_runText_74 (by decide) ?_
                refine z_iadd hx hb dX8_runText_78 ?_
                refine lv_istore_n (lv' := [(1, .int (iI (((i : Int) + 1)))), (5, .int (iI (r_27))), (4, .int (iI (bI (canM Irx mpx r_17 ta_19 ke_20 on_21)))), (3, .int (iI (r_17))), (2, .int (iI (mr))), (0, .ref (bd 0))]) hx hb dX8_runText_79 rfl hl (by decide) rfl (fun ls hl => ?_)
                refine lv_iload hx hb dX8_runText_80 (lv_at hl 2 rfl) ?_
                refine z_b_eq (tgt := 103) hx hb dX8_runText_82 (by decide) (fun c_37 => ?_) (fun c_37 => ?_)
                · exfalso
                  contradiction
                · refine lv_iload hx hb dX8_runText_85 (lv_at hl 1 rfl) ?_
                  refine z_if_lt (tgt := 103) hx hb dX8_runText_87 (by decide) ⟨by omega, by omega⟩ (fun c_38 => ?_) (fun c_38 => ?_)
                  · refine lv_iconst (v := iI (0)) hx hb dX8_runText_103 rfl ?_
                    refine lv_istore_n (lv' := [(2, .int (iI (0))), (1, .int (iI (((i : Int) + 1)))), (5, .int (iI (r_27))), (4, .int (iI (bI (canM Irx mpx r_17 ta_19 ke_20 on_21)))), (3, .int (iI (r_17))), (0, .ref (bd 0))]) hx hb dX8_runText_104 rfl hl (by decide) rfl (fun ls hl => ?_)
                    refine lv_goto (tgt := 34) hx hb dX8_runText_105 (by decide) ?_
                    exact ih34 (i + 1) 0 _ _ _ _ _ _ _ 0 (M + bud r_17) _ _ _ _ _ V2 lg2 (stL Tx ty px (Vx, lgx, Ptx, mpx) Lx) ⟨by omega, by omega⟩ (by omega) (by omega) ⟨by omega, by omega⟩ (fun q => absurd q (by decide)) (fun q => absurd q (by decide)) (fun _ => by rw [h_u1, rtF_x (by omega)]; rfl) h_z2 h_z3 h_H1 ⟨by omega, fun q => absurd q (by decide)⟩ h_so _ _ hP hD hS _ (lv_sub hl [0, 1, 5] rfl)
                  · refine lv_aload_n hx hb dX8_runText_90 rfl (lv_at hl 5 rfl) ?_
                    refine lv_bipush (v := iI (59)) hx hb dX8_runText_91 (by decide) ?_
                    refine z_muV (As := [.int (iI (59))]) (rest := []) (wr := [(bd 1, .inl (cZ, 80, .inl (iA (Ir_28)))), (bd 2, .inl (cI, 160, .inl (iA (Vm_29)))), (bd 3, .inl (cZ, 8, .inl (iA (Ic)))), (bd 4, .inl (cI, 8, .inl (iA (Pm)))), (bd 6, .inl (cZ, 8, .inl (iA (Dm)))), (bd 7, .inl (cI, 16384, .inl (iA (Lm_30)))), (bd 5, .inl (cI, 8, .inl (iA (Am)))), (bd 10, .inl (cI, 80, .inl (iA (Qm_31)))), (bd 8, .inl (cI, 4, .inl (iA (Pt_32))))]) (ws2 := (fun (u : Int) => [(bd 0, .inr (8, [.ref (bd 1), .ref (bd 2), .ref (bd 3), .ref (bd 4), .ref (bd 5), .ref (bd 6), .ref (bd 7), .int (iI (cn_33)), .ref (bd 8), .int (iI (mp_34)), .ref (bd 9), .int (iI (ty)), .int (iI (0)), .ref (bd 10), .ref (bd 11), .int (iI (u)), .int (iI (ta_19)), .int (iI (ke_20)), .int (iI (on_21)), .int (iI (tw_22))])), (bd 1, .inl (cZ, 80, .inl (iA (Ir_28)))), (bd 2, .inl (cI, 160, .inl (iA (Vm_29)))), (bd 3, .inl (cZ, 8, .inl (iA (Ic)))), (bd 4, .inl (cI, 8, .inl (iA (Pm)))), (bd 6, .inl (cZ, 8, .inl (iA (Dm)))), (bd 7, .inl (cI, 16384, .inl (iA (Lm_30)))), (bd 5, .inl (cI, 8, .inl (iA (Am)))), (bd 10, .inl (cI, 80, .inl (iA (Qm_31)))), (bd 8, .inl (cI, 4, .inl (iA (Pt_32)))), (bd 9, .inl (cC, 80, .inl (iA (Tx))))])) ⟨hx, hb, hml, hown, hts⟩ (c_X8_takes l D cI cZ cC H.size (bd) (cn_33) (mp_34) (ty) (0) (sp_18) (ta_19) (ke_20) (on_21) (tw_22) (Tx) (59) (by first | assumption | omega) (by first | assumption | omega) (by first | assumption | omega) (by first | assumption | omega)) (cwV 1 hts gX8_runText_X8_takes rfl rfl rfl (by decide +kernel) ⟨Nat.le_of_ble_eq_true rfl, Nat.le_of_ble_eq_true rfl⟩) hP hD hS hA hK [0, 10] [1, 2, 3, 4, 5, 6, 7, 8, 9] [9, 0, 1, 2, 3, 4, 5, 6, 7, 8, 10] rfl (by decide) rfl (by decide) (by decide) (by decide) (fun _ => rfl) 0 8 rfl rfl rfl rfl hl.1 rfl (Nat.le_of_ble_eq_true rfl) dX8_runText_93 ⟨by omega, by omega⟩ (fun r_40 u H locs hq_39 hP hD hS => ?_)
                    obtain ⟨sp_41, rfl⟩ : ∃ z, z = u := ⟨_, rfl⟩
                    have hP : va_P D vwCl [(bd 0, .inr (8, [.ref (bd 1), .ref (bd 2), .ref (bd 3), .ref (bd 4), .ref (bd 5), .ref (bd 6), .ref (bd 7), .int (iI (cn_33)), .ref (bd 8), .int (iI (mp_34)), .ref (bd 9), .int (iI (ty)), .int (iI (0)), .ref (bd 10), .ref (bd 11), .int (iI (sp_41)), .int (iI (ta_19)), .int (iI (ke_20)), .int (iI (on_21)), .int (iI (tw_22))])), (bd 1, .inl (cZ, 80, .inl (iA (Ir_28)))), (bd 2, .inl (cI, 160, .inl (iA (Vm_29)))), (bd 3, .inl (cZ, 8, .inl (iA (Ic)))), (bd 4, .inl (cI, 8, .inl (iA (Pm)))), (bd 6, .inl (cZ, 8, .inl (iA (Dm)))), (bd 7, .inl (cI, 16384, .inl (iA (Lm_30)))), (bd 5, .inl (cI, 8, .inl (iA (Am)))), (bd 10, .inl (cI, 80, .inl (iA (Qm_31)))), (bd 8, .inl (cI, 4, .inl (iA (Pt_32)))), (bd 9, .inl (cC, 80, .inl (iA (Tx))))] H := hP
                    have hD : va_D AA [(bd 0, .inr (8, [.ref (bd 1), .ref (bd 2), .ref (bd 3), .ref (bd 4), .ref (bd 5), .ref (bd 6), .ref (bd 7), .int (iI (cn_33)), .ref (bd 8), .int (iI (mp_34)), .ref (bd 9), .int (iI (ty)), .int (iI (0)), .ref (bd 10), .ref (bd 11), .int (iI (sp_41)), .int (iI (ta_19)), .int (iI (ke_20)), .int (iI (on_21)), .int (iI (tw_22))])), (bd 1, .inl (cZ, 80, .inl (iA (Ir_28)))), (bd 2, .inl (cI, 160, .inl (iA (Vm_29)))), (bd 3, .inl (cZ, 8, .inl (iA (Ic)))), (bd 4, .inl (cI, 8, .inl (iA (Pm)))), (bd 6, .inl (cZ, 8, .inl (iA (Dm)))), (bd 7, .inl (cI, 16384, .inl (iA (Lm_30)))), (bd 5, .inl (cI, 8, .inl (iA (Am)))), (bd 10, .inl (cI, 80, .inl (iA (Qm_31)))), (bd 8, .inl (cI, 4, .inl (iA (Pt_32)))), (bd 9, .inl (cC, 80, .inl (iA (Tx))))] := hD
                    try dsimp only at hq_39
                    obtain ⟨h_s, h_sv, h_su⟩ := hq_39
                    rw [h_c2] at h_s
                    have h_s1 : r_40 = (rS Tx ty 59 (cG Tx ty px).2.1).1 := congrArg Prod.fst h_s
                    have h_s2 : sp_41 = (rS Tx ty 59 (cG Tx ty px).2.1).2 := congrArg Prod.snd h_s
                    refine z_if_eq (tgt := 103) hx hb dX8_runText_96 (by decide) ⟨by omega, by omega⟩ (fun c_42 => ?_) (fun c_42 => ?_)
                    · refine lv_iconst (v := iI (0)) hx hb dX8_runText_103 rfl ?_
                      refine lv_istore_n (lv' := [(2, .int (iI (0))), (1, .int (iI (((i : Int) + 1)))), (5, .int (iI (r_27))), (4, .int (iI (bI (canM Irx mpx r_17 ta_19 ke_20 on_21)))), (3, .int (iI (r_17))), (0, .ref (bd 0))]) hx hb dX8_runText_104 rfl hl (by decide) rfl (fun ls hl => ?_)
                      refine lv_goto (tgt := 34) hx hb dX8_runText_105 (by decide) ?_
                      exact ih34 (i + 1) 0 _ _ _ _ _ _ _ 0 (M + bud r_17) _ _ _ _ _ V2 lg2 (stL Tx ty px (Vx, lgx, Ptx, mpx) Lx) ⟨by omega, by omega⟩ (by omega) (by omega) ⟨by omega, by omega⟩ (fun q => absurd q (by decide)) (fun q => absurd q (by decide)) (fun _ => by rw [h_u1, rtF_e (by rw [h_mo.1 (by omega)]; exact cG_end _ _)]; rfl) h_z2 h_z3 h_H1 ⟨by omega, fun q => absurd q (by decide)⟩ h_so _ _ hP hD hS _ (lv_sub hl [0, 1, 5] rfl)
                    · refine lv_iconst (v := iI (1)) hx hb dX8_runText_99 rfl ?_
                      refine lv_goto (tgt := 104) hx hb dX8_runText_100 (by decide) ?_
                      refine lv_istore_n (lv' := [(2, .int (iI (1))), (1, .int (iI (((i : Int) + 1)))), (5, .int (iI (r_27))), (4, .int (iI (bI (canM Irx mpx r_17 ta_19 ke_20 on_21)))), (3, .int (iI (r_17))), (0, .ref (bd 0))]) hx hb dX8_runText_104 rfl hl (by decide) rfl (fun ls hl => ?_)
                      refine lv_goto (tgt := 34) hx hb dX8_runText_105 (by decide) ?_
                      exact ih34 (i + 1) 1 _ _ _ _ _ _ _ _ (M + bud r_17) _ _ _ _ _ V2 lg2 (stL Tx ty px (Vx, lgx, Ptx, mpx) Lx) ⟨by omega, fun _ => by have h9 := (rS_1 (show ¬ (rS Tx ty 59 (cG Tx ty px).2.1).1 = 0 by rw [← h_s1]; omega)).2; omega⟩ (by omega) (by omega) ⟨by omega, by omega⟩ (fun _ => by rw [h_s2]; exact h_mo.2 (by omega)) (fun _ => ⟨by rw [h_u1, h_s2]; rfl, by omega⟩) (fun q => absurd q (by decide)) h_z2 h_z3 h_H1 ⟨by omega, fun _ => by omega⟩ h_so _ _ hP hD hS _ (lv_sub hl [0, 1, 5] rfl)
      exact loop34 43 0 1 0 _ _ _ _ _ _ 0 N _ _ _ _ _ V lg Ln ⟨by omega, by omega⟩ (by omega) (by omega) ⟨by omega, by omega⟩ (fun _ => ⟨80, h_ev⟩) (fun _ => ⟨rfl, by omega⟩) (fun q => absurd q (by decide)) g_R g_M g_H ⟨by omega, fun _ => by rw [show ty + 1 - 0 = ty + 1 by omega]; exact Int.le_refl _⟩ g_s _ _ hP hD hS _ (lv_sub hl [0, 1, 2] rfl)
    · exfalso
      omega

