/-- what a print is made of -/
noncomputable def prV (V : Int → Int) (h0 : Int64) : Nat → Int64
  | 0 => h0
  | k + 1 => (31 : Int64) * prV V h0 k + (iI (vOf V ((k : Int) / 40 * 20 + (k : Int) / 2 % 20) ((k : Int) % 2))).toInt64
noncomputable def prC (P Ac Mo V : Int → Int) (h0 : Int64) : Nat → Int64
  | 0 => h0
  | k + 1 => (31 : Int64) * prC P Ac Mo V h0 k + (iI (conF P Ac Mo V ((k : Int) / 8 * 2 + (k : Int) / 4 % 2) ((k : Int) % 4))).toInt64
noncomputable def prF (P Ac Mo V : Int → Int) (n : Int) : Int64 := prC P Ac Mo V (prV V (iI n).toInt64 160) 32
theorem con_0 {P Ac Mo V : Int → Int} {t k j : Int} (h : t * 2 + k = j) : conF P Ac Mo V (t * 2 + k) 0 = inP P j := by
  rw [h]
  unfold conF
  rw [if_pos rfl]
  split
  · rename_i q
    exact q.symm
  · rfl
theorem con_2 {P Ac Mo V : Int → Int} {t k j : Int} (h : t * 2 + k = j) : conF P Ac Mo V (t * 2 + k) 2 = if inP P j = -2 then -2 else bI (0 ≤ j ∧ j < 8 ∧ ¬ Mo j = 0) := by
  rw [h]
  unfold conF
  rw [if_neg (by omega : ¬ (2 : Int) = 0), if_neg (by omega : ¬ (2 : Int) = 1), if_pos rfl]
theorem con_3 {P Ac Mo V : Int → Int} {t k j : Int} (h : t * 2 + k = j) : conF P Ac Mo V (t * 2 + k) 3 = if inP P j = -2 then -2 else vio V j (inP P j) := by
  rw [h]
  unfold conF
  rw [if_neg (by omega : ¬ (3 : Int) = 0), if_neg (by omega : ¬ (3 : Int) = 1), if_neg (by omega : ¬ (3 : Int) = 2)]
theorem vio_s {V : Int → Int} {k par : Int} (h : ¬ par = -2) : vio V k par = sumN (fun i => bI (0 ≤ vOf V (k / 2 * 20 + i) (k % 2) ∧ ¬ hasR V (par * 20 + vOf V (k / 2 * 20 + i) (k % 2)))) 20 := if_neg h
theorem frK_t {P V : Int → Int} {k : Int} (h : inP P k = -2) : frK P V k = 0 := if_pos h
theorem frK_f {P V : Int → Int} {k : Int} (h : ¬ inP P k = -2) : frK P V k = sumN (fun i => bI (0 ≤ vOf V (k / 2 * 20 + i) (k % 2))) 20 := if_neg h
theorem frK_b (P V : Int → Int) (k : Int) : 0 ≤ frK P V k ∧ frK P V k ≤ 20 := by
  by_cases h : inP P k = -2
  · rw [frK_t h]; omega
  · rw [frK_f h]
    exact sumN_b (fun i => bI_01 _) 20
theorem refS_b (P V : Int → Int) (r : Int) : 0 ≤ refS P V r ∧ refS P V r ≤ 160 := by
  have h1 := sumN_nn (f := fun k => sumN (fun i => bI (tgt P V k (k / 2 * 20 + i) = r)) 20) (fun k => (sumN_b (fun i => bI_01 _) 20).1) 8
  have h2 := sumN_le (f := fun k => sumN (fun i => bI (tgt P V k (k / 2 * 20 + i) = r)) 20) (c := 20) (fun k => (sumN_b (fun i => bI_01 _) 20).2) 8
  unfold refS
  omega
theorem rwS_b (V : Int → Int) (t : Int) : 0 ≤ rwS V t ∧ rwS V t ≤ 20 := sumN_b (fun i => bI_01 _) 20
theorem delF_n2 {P Ac Mo V : Int → Int} {lg : Lg} {r N : Int} (hH : okH N lg V) (hN : N ≤ 16384) (hr : hasR V r) : (1 ≤ (delF P Ac Mo V lg r).1 ∧ (delF P Ac Mo V lg r).1 ≤ 80) ∨ ((delF P Ac Mo V lg r).1 ≤ -10 ∧ -17 ≤ (delF P Ac Mo V lg r).1) := by
  rcases del_S (P := P) (Ac := Ac) (Mo := Mo) hH hN hr (w := (delF P Ac Mo V lg r).1) (V1 := (delF P Ac Mo V lg r).2.1) (lg1 := (delF P Ac Mo V lg r).2.2) rfl with h | h
  · exact Or.inr h.1
  · exact Or.inl h.1
/-- a row and what is told of it -/
theorem row_F {P Ac Mo V : Int → Int} {lg : Lg} {r N : Int} (hH : okH N lg V) (hN : N ≤ 16384) (hr : 0 ≤ r ∧ r < 80) :
    ((bI (hasR V r) = 1 ∧ hasR V r) ∧ (¬ vOf V r 0 = -2 ∧ ¬ vOf V r 1 = -2) ∧ (0 ≤ ancV P V r ∧ ancV P V r ≤ rwS V 0 + rwS V 1 + rwS V 2 + rwS V 3) ∧ ifdF P Ac Mo V lg r = (delF P Ac Mo V lg r).1 ∧ ((1 ≤ ifdF P Ac Mo V lg r ∧ ifdF P Ac Mo V lg r ≤ 80) ∨ (ifdF P Ac Mo V lg r ≤ -10 ∧ -17 ≤ ifdF P Ac Mo V lg r))) ∨
    ((bI (hasR V r) = 0 ∧ ¬ hasR V r) ∧ (vOf V r 0 = -2 ∧ vOf V r 1 = -2) ∧ ancV P V r = -2 ∧ ifdF P Ac Mo V lg r = -2) := by
  have hO := (okH_top hH).2.1
  by_cases h : hasR V r
  · left
    have h1 := has_v hH h
    have e0 : vOf V r 0 = V (r * 2) := by unfold vOf; rw [if_pos ⟨h.1, h.2.1, by omega, by omega⟩, Int.add_zero]
    have e1 : vOf V r 1 = V (r * 2 + 1) := by unfold vOf; rw [if_pos ⟨h.1, h.2.1, by omega, by omega⟩]
    have e2 : ancV P V r = ((bfs P V 81 0 (ftL P V r [] 2)).length : Int) := if_pos h
    have e3 : ifdF P Ac Mo V lg r = (delF P Ac Mo V lg r).1 := if_pos h
    have h2 := anc_b P V r
    have h3 := rcV_4 V
    have h4 := delF_n2 (P := P) (Ac := Ac) (Mo := Mo) hH hN h
    rw [e0, e1, e2, e3]
    exact ⟨⟨bI_t h, h⟩, ⟨by omega, by omega⟩, ⟨by omega, by omega⟩, rfl, h4⟩
  · right
    exact ⟨⟨bI_f h, h⟩, ⟨vOf_no hO h, vOf_no hO h⟩, if_neg h, if_neg h⟩

set_option maxHeartbeats 2000000 in
set_option maxRecDepth 100000 in
theorem c_L_print (l : Launch) (D : va_G) (cI cZ cC : ClassId) (b0 : Nat) (adK adV : Nat → Nat) (sz : Nat) (ad : Nat → Nat) (be : Nat) (n : Int) (P Ac Mo V : Int → Int) (g_lt : l.stackTraces = false) (g_V : ∀ j : Int, 0 ≤ j → j < 160 → -2 ≤ V j ∧ V j ≤ 19) (g_P : ∀ j : Int, 0 ≤ j → j < 8 → P j = -2 ∨ (0 ≤ P j ∧ P j < 4)) (g_Mo : ∀ j : Int, 0 ≤ j → j < 8 → Mo j = 0 ∨ Mo j = 1) (g_Ac : ∀ j : Int, 0 ≤ j → j < 8 → 0 ≤ Ac j ∧ Ac j ≤ 3) (g_n : 0 ≤ n ∧ n < 2147483648) : zWl l yL_print wsL_print ({ frames := 8, cells := 192, slots := 1152, locals := 130 }) D cI cZ cC b0 adK adV [(ad 0, .inr (7, [.ref (ad 1), .ref (ad 4), .ref (ad 8), .ref (ad 12), .ref (ad 16), .ref (ad 18)])), (ad 4, .inr (0, [.ref (ad 1), .ref (ad 5), .ref (ad 6), .ref (ad 7)])), (ad 5, .inl (cI, 8, .inl (iA (P)))), (ad 6, .inl (cI, 8, .inl (iA (Ac)))), (ad 7, .inl (cZ, 8, .inl (iA (Mo)))), (ad 1, .inr (4, [.ref (ad 2), .ref (be), .int (iI (n))])), (ad 2, .inl (cI, 160, .inl (iA (V))))] sz [.ref (ad 0)] (192) (1152) (fun (u : Unit) => [(ad 0, .inr (7, [.ref (ad 1), .ref (ad 4), .ref (ad 8), .ref (ad 12), .ref (ad 16), .ref (ad 18)])), (ad 4, .inr (0, [.ref (ad 1), .ref (ad 5), .ref (ad 6), .ref (ad 7)])), (ad 5, .inl (cI, 8, .inl (iA (P)))), (ad 6, .inl (cI, 8, .inl (iA (Ac)))), (ad 7, .inl (cZ, 8, .inl (iA (Mo)))), (ad 1, .inr (4, [.ref (ad 2), .ref (be), .int (iI (n))])), (ad 2, .inl (cI, 160, .inl (iA (V))))]) (fun v _ => v = prF P Ac Mo V n ∧ True) := by
  refine z_ofLl (cc := cL_print) (maxL := 4) (ret := (some .long)) RL (by decide +kernel) rfl rfl (Nat.le_of_ble_eq_true rfl) ?_
  intro p0 en0 s0 m0 args0 below0 meth0 c0 ls AA hx hb hr hlocks hml hown hts hCa hX hE hAb hbs hP hD hS hA hK hl
  have hl : lv_has ls 4 [(0, .ref (ad 0))] := hl
  obtain ⟨H, hH⟩ : ∃ H, H = s0.heap := ⟨_, rfl⟩
  obtain ⟨locs, hlo⟩ : ∃ locs : List Loc, locs = [] := ⟨_, rfl⟩
  have hP : va_P D vwCl [(ad 0, .inr (7, [.ref (ad 1), .ref (ad 4), .ref (ad 8), .ref (ad 12), .ref (ad 16), .ref (ad 18)])), (ad 4, .inr (0, [.ref (ad 1), .ref (ad 5), .ref (ad 6), .ref (ad 7)])), (ad 5, .inl (cI, 8, .inl (iA (P)))), (ad 6, .inl (cI, 8, .inl (iA (Ac)))), (ad 7, .inl (cZ, 8, .inl (iA (Mo)))), (ad 1, .inr (4, [.ref (ad 2), .ref (be), .int (iI (n))])), (ad 2, .inl (cI, 160, .inl (iA (V))))] H := by rw [hH]; exact hP
  have hS : va_S AA s0.heap H locs := by rw [hH, hlo]; exact hS
  suffices hW : W p0 l en0 (headSpec wsL_print ({ frames := 8, cells := 192, slots := 1152, locals := 130 })).room s0 m0 args0 below0 meth0 c0 H locs (0) (0) (QMl below0 D ((fun (u : Unit) => [(ad 0, .inr (7, [.ref (ad 1), .ref (ad 4), .ref (ad 8), .ref (ad 12), .ref (ad 16), .ref (ad 18)])), (ad 4, .inr (0, [.ref (ad 1), .ref (ad 5), .ref (ad 6), .ref (ad 7)])), (ad 5, .inl (cI, 8, .inl (iA (P)))), (ad 6, .inl (cI, 8, .inl (iA (Ac)))), (ad 7, .inl (cZ, 8, .inl (iA (Mo)))), (ad 1, .inr (4, [.ref (ad 2), .ref (be), .int (iI (n))])), (ad 2, .inl (cI, 160, .inl (iA (V))))])) (fun v _ => v = prF P Ac Mo V n ∧ True) AA args0 s0 (192) (1152)) (F0 m0 0 ls []) by rw [hH, hlo] at hW; exact hW
  refine lv_aload_n hx hb dL_print_0 rfl (lv_at hl 0 rfl) ?_
  refine z_roV (As := []) (rest := []) ⟨hx, hb, hml, hown, hts⟩ (c_X7_changes l D cI cZ cC (ad) (be) (n) ) (cwV 0 hts gL_print_X7_changes rfl rfl rfl (by decide +kernel) ⟨Nat.le_of_ble_eq_true rfl, Nat.le_of_ble_eq_true rfl⟩) hP hK [0, 5] rfl 0 7 rfl rfl rfl rfl hl.1 rfl (Nat.le_of_ble_eq_true rfl) dL_print_1 ⟨(by show _ ≤ (192 : Nat); omega), (by show _ ≤ (1152 : Nat); omega)⟩ ?_
  refine lv_i2l (v := (iI ((n))).toInt64) hx hb dL_print_4 rfl ?_
  refine lv_lstore_n (lv' := [(1, .long ((iI ((n))).toInt64)), (0, .ref (ad 0))]) hx hb dL_print_5 rfl hl (by decide) rfl (fun ls hl => ?_)
  refine lv_iconst (v := iI (0)) hx hb dL_print_6 rfl ?_
  refine lv_istore_n (lv' := [(3, .int (iI (0))), (1, .long ((iI ((n))).toInt64)), (0, .ref (ad 0))]) hx hb dL_print_7 rfl hl (by decide) rfl (fun ls hl => ?_)
  have loop8 : ∀ (fu : Nat) (i : Nat) (h : Int64), (g_i : i ≤ 160) → (g_fu : 160 < i + fu) → (g_c : h = prV V (iI n).toInt64 i) → ∀ (H : Heap) (locs : List Loc), va_P D vwCl [(ad 0, .inr (7, [.ref (ad 1), .ref (ad 4), .ref (ad 8), .ref (ad 12), .ref (ad 16), .ref (ad 18)])), (ad 4, .inr (0, [.ref (ad 1), .ref (ad 5), .ref (ad 6), .ref (ad 7)])), (ad 5, .inl (cI, 8, .inl (iA (P)))), (ad 6, .inl (cI, 8, .inl (iA (Ac)))), (ad 7, .inl (cZ, 8, .inl (iA (Mo)))), (ad 1, .inr (4, [.ref (ad 2), .ref (be), .int (iI (n))])), (ad 2, .inl (cI, 160, .inl (iA (V))))] H → va_D AA [(ad 0, .inr (7, [.ref (ad 1), .ref (ad 4), .ref (ad 8), .ref (ad 12), .ref (ad 16), .ref (ad 18)])), (ad 4, .inr (0, [.ref (ad 1), .ref (ad 5), .ref (ad 6), .ref (ad 7)])), (ad 5, .inl (cI, 8, .inl (iA (P)))), (ad 6, .inl (cI, 8, .inl (iA (Ac)))), (ad 7, .inl (cZ, 8, .inl (iA (Mo)))), (ad 1, .inr (4, [.ref (ad 2), .ref (be), .int (iI (n))])), (ad 2, .inl (cI, 160, .inl (iA (V))))] → va_S AA s0.heap H locs → ∀ ls : Array Slot, lv_has ls 4 [(3, .int (iI ((i : Int)))), (1, .long (h)), (0, .ref (ad 0))] → W p0 l en0 (headSpec wsL_print ({ frames := 8, cells := 192, slots := 1152, locals := 130 })).room s0 m0 args0 below0 meth0 c0 H locs (i) (6 * i) (QMl below0 D ((fun (u : Unit) => [(ad 0, .inr (7, [.ref (ad 1), .ref (ad 4), .ref (ad 8), .ref (ad 12), .ref (ad 16), .ref (ad 18)])), (ad 4, .inr (0, [.ref (ad 1), .ref (ad 5), .ref (ad 6), .ref (ad 7)])), (ad 5, .inl (cI, 8, .inl (iA (P)))), (ad 6, .inl (cI, 8, .inl (iA (Ac)))), (ad 7, .inl (cZ, 8, .inl (iA (Mo)))), (ad 1, .inr (4, [.ref (ad 2), .ref (be), .int (iI (n))])), (ad 2, .inl (cI, 160, .inl (iA (V))))])) (fun v _ => v = prF P Ac Mo V n ∧ True) AA args0 s0 (192) (1152)) (F0 m0 8 ls []) := by
    intro fu
    induction fu with
    | zero => intro i h g_i g_fu g_c H locs hP hD hS ls hl; exfalso; omega
    | succ fu ih8 =>
      intro i h g_i g_fu g_c H locs hP hD hS ls hl
      refine lv_iload_n hx hb dL_print_8 rfl (lv_at hl 0 rfl) ?_
      refine lv_sipush (v := iI (160)) hx hb dL_print_9 (by decide) ?_
      refine z_icmp_ge (tgt := 46) hx hb dL_print_12 (by decide) ⟨⟨by omega, by omega⟩, ⟨by omega, by omega⟩⟩ (fun c_1 => ?_) (fun c_1 => ?_)
      · refine lv_iconst (v := iI (0)) hx hb dL_print_46 rfl ?_
        refine lv_istore_n (lv' := [(3, .int (iI (0))), (1, .long (h)), (0, .ref (ad 0))]) hx hb dL_print_47 rfl hl (by decide) rfl (fun ls hl => ?_)
        have loop48 : ∀ (fu : Nat) (j : Nat) (h2 : Int64), (g_j : j ≤ 32) → (g_fu2 : 32 < j + fu) → (g_c2 : h2 = prC P Ac Mo V h j) → ∀ (H : Heap) (locs : List Loc), va_P D vwCl [(ad 0, .inr (7, [.ref (ad 1), .ref (ad 4), .ref (ad 8), .ref (ad 12), .ref (ad 16), .ref (ad 18)])), (ad 4, .inr (0, [.ref (ad 1), .ref (ad 5), .ref (ad 6), .ref (ad 7)])), (ad 5, .inl (cI, 8, .inl (iA (P)))), (ad 6, .inl (cI, 8, .inl (iA (Ac)))), (ad 7, .inl (cZ, 8, .inl (iA (Mo)))), (ad 1, .inr (4, [.ref (ad 2), .ref (be), .int (iI (n))])), (ad 2, .inl (cI, 160, .inl (iA (V))))] H → va_D AA [(ad 0, .inr (7, [.ref (ad 1), .ref (ad 4), .ref (ad 8), .ref (ad 12), .ref (ad 16), .ref (ad 18)])), (ad 4, .inr (0, [.ref (ad 1), .ref (ad 5), .ref (ad 6), .ref (ad 7)])), (ad 5, .inl (cI, 8, .inl (iA (P)))), (ad 6, .inl (cI, 8, .inl (iA (Ac)))), (ad 7, .inl (cZ, 8, .inl (iA (Mo)))), (ad 1, .inr (4, [.ref (ad 2), .ref (be), .int (iI (n))])), (ad 2, .inl (cI, 160, .inl (iA (V))))] → va_S AA s0.heap H locs → ∀ ls : Array Slot, lv_has ls 4 [(3, .int (iI ((j : Int)))), (1, .long (h2)), (0, .ref (ad 0))] → W p0 l en0 (headSpec wsL_print ({ frames := 8, cells := 192, slots := 1152, locals := 130 })).room s0 m0 args0 below0 meth0 c0 H locs (160 + j) (960 + 6 * j) (QMl below0 D ((fun (u : Unit) => [(ad 0, .inr (7, [.ref (ad 1), .ref (ad 4), .ref (ad 8), .ref (ad 12), .ref (ad 16), .ref (ad 18)])), (ad 4, .inr (0, [.ref (ad 1), .ref (ad 5), .ref (ad 6), .ref (ad 7)])), (ad 5, .inl (cI, 8, .inl (iA (P)))), (ad 6, .inl (cI, 8, .inl (iA (Ac)))), (ad 7, .inl (cZ, 8, .inl (iA (Mo)))), (ad 1, .inr (4, [.ref (ad 2), .ref (be), .int (iI (n))])), (ad 2, .inl (cI, 160, .inl (iA (V))))])) (fun v _ => v = prF P Ac Mo V n ∧ True) AA args0 s0 (192) (1152)) (F0 m0 48 ls []) := by
          intro fu
          induction fu with
          | zero => intro j h2 g_j g_fu2 g_c2 H locs hP hD hS ls hl; exfalso; omega
          | succ fu ih48 =>
            intro j h2 g_j g_fu2 g_c2 H locs hP hD hS ls hl
            refine lv_iload_n hx hb dL_print_48 rfl (lv_at hl 0 rfl) ?_
            refine lv_bipush (v := iI (32)) hx hb dL_print_49 (by decide) ?_
            refine z_icmp_ge (tgt := 84) hx hb dL_print_51 (by decide) ⟨⟨by omega, by omega⟩, ⟨by omega, by omega⟩⟩ (fun c_2 => ?_) (fun c_2 => ?_)
            · refine lv_lload_n hx hb dL_print_84 rfl (lv_at hl 1 rfl) ?_
              refine W.widen (k := 192) (n := 1152) (by omega) (by omega) ?_
              refine z_mretL (()) hx hb hr hlocks dL_print_85 hP hD hS ?_
              have e1 : i = 160 := by omega
              have e2 : j = 32 := by omega
              refine ⟨?_, trivial⟩
              rw [g_c2, g_c, e1, e2]
              rfl
            · refine lv_ldc2 (v := (31 : Int64)) hx hb hown (hts (.constantLong RL 129 (31)) (List.mem_of_getElem? (i := 1) rfl)) dL_print_54 ?_
              refine lv_lload_n hx hb dL_print_57 rfl (lv_at hl 1 rfl) ?_
              refine lv_lmul hx hb dL_print_58 ?_
              refine lv_aload_n hx hb dL_print_59 rfl (lv_at hl 2 rfl) ?_
              refine lv_iload_n hx hb dL_print_60 rfl (lv_at hl 0 rfl) ?_
              refine lv_bipush (v := iI (8)) hx hb dL_print_61 (by decide) ?_
              refine z_idiv hx hb dL_print_63 (by omega) (by omega) ?_
              refine lv_iload_n hx hb dL_print_64 rfl (lv_at hl 0 rfl) ?_
              refine lv_iconst (v := iI (4)) hx hb dL_print_65 rfl ?_
              refine z_idiv hx hb dL_print_66 (by omega) (by omega) ?_
              refine lv_iconst (v := iI (2)) hx hb dL_print_67 rfl ?_
              refine z_irem hx hb dL_print_68 (by omega) (by omega) ?_
              refine lv_iload_n hx hb dL_print_69 rfl (lv_at hl 0 rfl) ?_
              refine lv_iconst (v := iI (4)) hx hb dL_print_70 rfl ?_
              refine z_irem hx hb dL_print_71 (by omega) (by omega) ?_
              refine z_wrS (As := [.ref (ad 0), .int (iI (((j : Int) / 8))), .int (iI ((((j : Int) / 4) % 2))), .int (iI (((j : Int) % 4)))]) (rest := [.long (((31 : Int64) * h2))]) (wr := []) (ws2 := (fun (u : Unit) => [(ad 0, .inr (7, [.ref (ad 1), .ref (ad 4), .ref (ad 8), .ref (ad 12), .ref (ad 16), .ref (ad 18)])), (ad 4, .inr (0, [.ref (ad 1), .ref (ad 5), .ref (ad 6), .ref (ad 7)])), (ad 5, .inl (cI, 8, .inl (iA (P)))), (ad 6, .inl (cI, 8, .inl (iA (Ac)))), (ad 7, .inl (cZ, 8, .inl (iA (Mo)))), (ad 1, .inr (4, [.ref (ad 2), .ref (be), .int (iI (n))])), (ad 2, .inl (cI, 160, .inl (iA (V))))])) hCa hX hE hAb hbs ⟨hx, hb, hml, hown, hts⟩ (c_L_constraint l D cI cZ cC b0 adK adV H.size (ad) (be) (n) (P) (Ac) (Mo) (V) (((j : Int) / 8)) ((((j : Int) / 4) % 2)) (((j : Int) % 4)) (by first | assumption | omega) (by first | assumption | omega) (by first | assumption | omega) (by first | assumption | omega) (by first | assumption | omega) (by first | assumption | omega)) (vx_cwSW 4 hts gL_print_L_constraint rfl rfl rfl (by decide +kernel) ⟨Nat.le_of_ble_eq_true rfl, Nat.le_of_ble_eq_true rfl⟩) hP hD hS hA hK [0, 1, 2, 3, 4, 5, 6] [] [0, 1, 2, 3, 4, 5, 6] rfl (by decide) rfl (by decide) (by decide) (by decide) (fun _ => rfl) rfl hl.1 rfl (Nat.le_of_ble_eq_true rfl) dL_print_72 ⟨(by show _ ≤ (192 : Nat); omega), (by show _ ≤ (1152 : Nat); omega)⟩ (fun r_3 u H locs hq_4 hP hD hS => ?_)
              have hP : va_P D vwCl [(ad 0, .inr (7, [.ref (ad 1), .ref (ad 4), .ref (ad 8), .ref (ad 12), .ref (ad 16), .ref (ad 18)])), (ad 4, .inr (0, [.ref (ad 1), .ref (ad 5), .ref (ad 6), .ref (ad 7)])), (ad 5, .inl (cI, 8, .inl (iA (P)))), (ad 6, .inl (cI, 8, .inl (iA (Ac)))), (ad 7, .inl (cZ, 8, .inl (iA (Mo)))), (ad 1, .inr (4, [.ref (ad 2), .ref (be), .int (iI (n))])), (ad 2, .inl (cI, 160, .inl (iA (V))))] H := hP
              have hD : va_D AA [(ad 0, .inr (7, [.ref (ad 1), .ref (ad 4), .ref (ad 8), .ref (ad 12), .ref (ad 16), .ref (ad 18)])), (ad 4, .inr (0, [.ref (ad 1), .ref (ad 5), .ref (ad 6), .ref (ad 7)])), (ad 5, .inl (cI, 8, .inl (iA (P)))), (ad 6, .inl (cI, 8, .inl (iA (Ac)))), (ad 7, .inl (cZ, 8, .inl (iA (Mo)))), (ad 1, .inr (4, [.ref (ad 2), .ref (be), .int (iI (n))])), (ad 2, .inl (cI, 160, .inl (iA (V))))] := hD
              try dsimp only at hq_4
              obtain ⟨hv9, hq_4⟩ := hq_4
              have hv9 := hv9.symm
              subst hv9
              refine lv_i2l (v := (iI ((conF P Ac Mo V ((((j : Int) / 8)) * 2 + ((((j : Int) / 4) % 2))) (((j : Int) % 4))))).toInt64) hx hb dL_print_75 rfl ?_
              refine lv_ladd hx hb dL_print_76 ?_
              refine lv_lstore_n (lv' := [(1, .long ((((31 : Int64) * h2) + (iI ((conF P Ac Mo V ((((j : Int) / 8)) * 2 + ((((j : Int) / 4) % 2))) (((j : Int) % 4))))).toInt64))), (3, .int (iI ((j : Int)))), (0, .ref (ad 0))]) hx hb dL_print_77 rfl hl (by decide) rfl (fun ls hl => ?_)
              refine lv_iinc (v := iI ((j : Int) + 1)) (lv' := [(3, .int (iI ((j : Int) + 1))), (1, .long ((((31 : Int64) * h2) + (iI ((conF P Ac Mo V ((((j : Int) / 8)) * 2 + ((((j : Int) / 4) % 2))) (((j : Int) % 4))))).toInt64))), (0, .ref (ad 0))]) hx hb dL_print_78 hl (k := 1) rfl (iI_add ((j : Int)) (1)) (by decide) rfl (fun ls hl => ?_)
              refine lv_goto (tgt := 48) hx hb dL_print_81 (by decide) ?_
              refine W.widen (k := 160 + (j + 1)) (n := 960 + 6 * (j + 1)) (by omega) (by omega) ?_
              exact ih48 (j + 1) _ (by omega) (by omega) (by rw [prC, ← g_c2]) _ _ hP hD hS _ (lv_sub hl [0, 1, 2] rfl)
        refine W.widen (k := 160 + 0) (n := 960 + 6 * 0) (by omega) (by omega) ?_
        exact loop48 33 0 _ (by omega) (by omega) rfl _ _ hP hD hS _ (lv_sub hl [0, 1, 2] rfl)
      · refine lv_ldc2 (v := (31 : Int64)) hx hb hown (hts (.constantLong RL 129 (31)) (List.mem_of_getElem? (i := 1) rfl)) dL_print_15 ?_
        refine lv_lload_n hx hb dL_print_18 rfl (lv_at hl 1 rfl) ?_
        refine lv_lmul hx hb dL_print_19 ?_
        refine lv_aload_n hx hb dL_print_20 rfl (lv_at hl 2 rfl) ?_
        refine lv_iload_n hx hb dL_print_21 rfl (lv_at hl 0 rfl) ?_
        refine lv_bipush (v := iI (40)) hx hb dL_print_22 (by decide) ?_
        refine z_idiv hx hb dL_print_24 (by omega) (by omega) ?_
        refine lv_iload_n hx hb dL_print_25 rfl (lv_at hl 0 rfl) ?_
        refine lv_iconst (v := iI (2)) hx hb dL_print_26 rfl ?_
        refine z_idiv hx hb dL_print_27 (by omega) (by omega) ?_
        refine lv_bipush (v := iI (20)) hx hb dL_print_28 (by decide) ?_
        refine z_irem hx hb dL_print_30 (by omega) (by omega) ?_
        refine lv_iload_n hx hb dL_print_31 rfl (lv_at hl 0 rfl) ?_
        refine lv_iconst (v := iI (2)) hx hb dL_print_32 rfl ?_
        refine z_irem hx hb dL_print_33 (by omega) (by omega) ?_
        refine z_wrS (As := [.ref (ad 0), .int (iI (((i : Int) / 40))), .int (iI ((((i : Int) / 2) % 20))), .int (iI (((i : Int) % 2)))]) (rest := [.long (((31 : Int64) * h))]) (wr := [(ad 4, .inr (0, [.ref (ad 1), .ref (ad 5), .ref (ad 6), .ref (ad 7)])), (ad 5, .inl (cI, 8, .inl (iA (P)))), (ad 6, .inl (cI, 8, .inl (iA (Ac)))), (ad 7, .inl (cZ, 8, .inl (iA (Mo))))]) (ws2 := (fun (u : Unit) => [(ad 0, .inr (7, [.ref (ad 1), .ref (ad 4), .ref (ad 8), .ref (ad 12), .ref (ad 16), .ref (ad 18)])), (ad 4, .inr (0, [.ref (ad 1), .ref (ad 5), .ref (ad 6), .ref (ad 7)])), (ad 5, .inl (cI, 8, .inl (iA (P)))), (ad 6, .inl (cI, 8, .inl (iA (Ac)))), (ad 7, .inl (cZ, 8, .inl (iA (Mo)))), (ad 1, .inr (4, [.ref (ad 2), .ref (be), .int (iI (n))])), (ad 2, .inl (cI, 160, .inl (iA (V))))])) hCa hX hE hAb hbs ⟨hx, hb, hml, hown, hts⟩ (c_L_value l D cI cZ cC b0 adK adV H.size (ad) (be) (n) (V) (((i : Int) / 40)) ((((i : Int) / 2) % 20)) (((i : Int) % 2)) (by first | assumption | omega) (by first | assumption | omega) (by first | assumption | omega)) (vx_cwSW 4 hts gL_print_L_value rfl rfl rfl (by decide +kernel) ⟨Nat.le_of_ble_eq_true rfl, Nat.le_of_ble_eq_true rfl⟩) hP hD hS hA hK [0, 5, 6] [1, 2, 3, 4] [4, 0, 1, 2, 3, 5, 6] rfl (by decide) rfl (by decide) (by decide) (by decide) (fun _ => rfl) rfl hl.1 rfl (Nat.le_of_ble_eq_true rfl) dL_print_34 ⟨(by show _ ≤ (192 : Nat); omega), (by show _ ≤ (1152 : Nat); omega)⟩ (fun r_5 u H locs hq_6 hP hD hS => ?_)
        have hP : va_P D vwCl [(ad 0, .inr (7, [.ref (ad 1), .ref (ad 4), .ref (ad 8), .ref (ad 12), .ref (ad 16), .ref (ad 18)])), (ad 4, .inr (0, [.ref (ad 1), .ref (ad 5), .ref (ad 6), .ref (ad 7)])), (ad 5, .inl (cI, 8, .inl (iA (P)))), (ad 6, .inl (cI, 8, .inl (iA (Ac)))), (ad 7, .inl (cZ, 8, .inl (iA (Mo)))), (ad 1, .inr (4, [.ref (ad 2), .ref (be), .int (iI (n))])), (ad 2, .inl (cI, 160, .inl (iA (V))))] H := hP
        have hD : va_D AA [(ad 0, .inr (7, [.ref (ad 1), .ref (ad 4), .ref (ad 8), .ref (ad 12), .ref (ad 16), .ref (ad 18)])), (ad 4, .inr (0, [.ref (ad 1), .ref (ad 5), .ref (ad 6), .ref (ad 7)])), (ad 5, .inl (cI, 8, .inl (iA (P)))), (ad 6, .inl (cI, 8, .inl (iA (Ac)))), (ad 7, .inl (cZ, 8, .inl (iA (Mo)))), (ad 1, .inr (4, [.ref (ad 2), .ref (be), .int (iI (n))])), (ad 2, .inl (cI, 160, .inl (iA (V))))] := hD
        try dsimp only at hq_6
        obtain ⟨hv9, hq_6⟩ := hq_6
        have hv9 := hv9.symm
        subst hv9
        have hf_7 := vOf_b g_V ((((i : Int) / 40)) * 20 + ((((i : Int) / 2) % 20))) ((((i : Int) % 2)))
        refine lv_i2l (v := (iI ((vOf V ((((i : Int) / 40)) * 20 + ((((i : Int) / 2) % 20))) (((i : Int) % 2))))).toInt64) hx hb dL_print_37 rfl ?_
        refine lv_ladd hx hb dL_print_38 ?_
        refine lv_lstore_n (lv' := [(1, .long ((((31 : Int64) * h) + (iI ((vOf V ((((i : Int) / 40)) * 20 + ((((i : Int) / 2) % 20))) (((i : Int) % 2))))).toInt64))), (3, .int (iI ((i : Int)))), (0, .ref (ad 0))]) hx hb dL_print_39 rfl hl (by decide) rfl (fun ls hl => ?_)
        refine lv_iinc (v := iI ((i : Int) + 1)) (lv' := [(3, .int (iI ((i : Int) + 1))), (1, .long ((((31 : Int64) * h) + (iI ((vOf V ((((i : Int) / 40)) * 20 + ((((i : Int) / 2) % 20))) (((i : Int) % 2))))).toInt64))), (0, .ref (ad 0))]) hx hb dL_print_40 hl (k := 1) rfl (iI_add ((i : Int)) (1)) (by decide) rfl (fun ls hl => ?_)
        refine lv_goto (tgt := 8) hx hb dL_print_43 (by decide) ?_
        refine W.widen (k := i + 1) (n := 6 * (i + 1)) (by omega) (by omega) ?_
        exact ih8 (i + 1) _ (by omega) (by omega) (by rw [prV, ← g_c]) _ _ hP hD hS _ (lv_sub hl [0, 1, 2] rfl)
  refine W.widen (k := 0) (n := 6 * 0) (by omega) (by omega) ?_
  exact loop8 161 0 _ (by omega) (by omega) rfl _ _ hP hD hS _ (lv_sub hl [0, 1, 2] rfl)

