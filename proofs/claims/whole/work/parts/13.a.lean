/-- the value of a column, NONE where there is no such place -/
def vOf (V : Int → Int) (r c : Int) : Int := if 0 ≤ r ∧ r < 80 ∧ 0 ≤ c ∧ c < 2 then V (r * 2 + c) else -2
def hasR (V : Int → Int) (r : Int) : Prop := 0 ≤ r ∧ r < 80 ∧ ¬ V (r * 2) = -2
def inP (P : Int → Int) (k : Int) : Int := if 0 ≤ k ∧ k < 8 then P k else -2
def tgt (P V : Int → Int) (k r : Int) : Int := if inP P k = -2 ∨ vOf V r (k % 2) < 0 then -2 else inP P k * 20 + vOf V r (k % 2)

set_option maxHeartbeats 4000000 in
set_option maxRecDepth 100000 in
theorem c_X7_isTable (l : Launch) (D : va_G) (cI cZ cC : ClassId) (t : Int) (g_t : ib t) : zRo l yX7_isTable wsX7_isTable ({ frames := 0, cells := 0, slots := 0, locals := 0 }) D cI cZ cC [] [.int (iI (t))] (bI (0 ≤ t ∧ t < 4)) := by
  refine z_ofRo (cc := cX7_isTable) (maxL := 1) (ret := (some .boolean)) RX7 (by decide +kernel) rfl rfl (by decide) ?_
  intro p0 e0 s0 m0 args0 below0 meth0 c0 ls hx hb hr hlocks hml hown hts hP hK hl
  have hl : lv_has ls 1 [(0, .int (iI (t)))] := hl
  refine lv_iload_n hx hb dX7_isTable_0 rfl (lv_at hl 0 rfl) ?_
  refine z_if_lt (tgt := 13) hx hb dX7_isTable_1 (by decide) ⟨by omega, by omega⟩ (fun c_1 => ?_) (fun c_1 => ?_)
  · refine lv_iconst (v := iI (0)) hx hb dX7_isTable_13 rfl ?_
    refine z_rretZ hx hb hr hlocks dX7_isTable_14 (by omega) ?_
    refine (bI_f ?_).symm
    omega
  · refine lv_iload_n hx hb dX7_isTable_4 rfl (lv_at hl 0 rfl) ?_
    refine lv_iconst (v := iI (4)) hx hb dX7_isTable_5 rfl ?_
    refine z_icmp_ge (tgt := 13) hx hb dX7_isTable_6 (by decide) ⟨⟨by omega, by omega⟩, ⟨by omega, by omega⟩⟩ (fun c_2 => ?_) (fun c_2 => ?_)
    · refine lv_iconst (v := iI (0)) hx hb dX7_isTable_13 rfl ?_
      refine z_rretZ hx hb hr hlocks dX7_isTable_14 (by omega) ?_
      refine (bI_f ?_).symm
      omega
    · refine lv_iconst (v := iI (1)) hx hb dX7_isTable_9 rfl ?_
      refine lv_goto (tgt := 14) hx hb dX7_isTable_10 (by decide) ?_
      refine z_rretZ hx hb hr hlocks dX7_isTable_14 (by omega) ?_
      refine (bI_t ?_).symm
      omega

set_option maxHeartbeats 4000000 in
set_option maxRecDepth 100000 in
theorem c_X7_isColumn (l : Launch) (D : va_G) (cI cZ cC : ClassId) (t : Int) (g_t : ib t) : zRo l yX7_isColumn wsX7_isColumn ({ frames := 0, cells := 0, slots := 0, locals := 0 }) D cI cZ cC [] [.int (iI (t))] (bI (0 ≤ t ∧ t < 2)) := by
  refine z_ofRo (cc := cX7_isColumn) (maxL := 1) (ret := (some .boolean)) RX7 (by decide +kernel) rfl rfl (by decide) ?_
  intro p0 e0 s0 m0 args0 below0 meth0 c0 ls hx hb hr hlocks hml hown hts hP hK hl
  have hl : lv_has ls 1 [(0, .int (iI (t)))] := hl
  refine lv_iload_n hx hb dX7_isColumn_0 rfl (lv_at hl 0 rfl) ?_
  refine z_if_lt (tgt := 13) hx hb dX7_isColumn_1 (by decide) ⟨by omega, by omega⟩ (fun c_1 => ?_) (fun c_1 => ?_)
  · refine lv_iconst (v := iI (0)) hx hb dX7_isColumn_13 rfl ?_
    refine z_rretZ hx hb hr hlocks dX7_isColumn_14 (by omega) ?_
    refine (bI_f ?_).symm
    omega
  · refine lv_iload_n hx hb dX7_isColumn_4 rfl (lv_at hl 0 rfl) ?_
    refine lv_iconst (v := iI (2)) hx hb dX7_isColumn_5 rfl ?_
    refine z_icmp_ge (tgt := 13) hx hb dX7_isColumn_6 (by decide) ⟨⟨by omega, by omega⟩, ⟨by omega, by omega⟩⟩ (fun c_2 => ?_) (fun c_2 => ?_)
    · refine lv_iconst (v := iI (0)) hx hb dX7_isColumn_13 rfl ?_
      refine z_rretZ hx hb hr hlocks dX7_isColumn_14 (by omega) ?_
      refine (bI_f ?_).symm
      omega
    · refine lv_iconst (v := iI (1)) hx hb dX7_isColumn_9 rfl ?_
      refine lv_goto (tgt := 14) hx hb dX7_isColumn_10 (by decide) ?_
      refine z_rretZ hx hb hr hlocks dX7_isColumn_14 (by omega) ?_
      refine (bI_t ?_).symm
      omega

set_option maxHeartbeats 4000000 in
set_option maxRecDepth 100000 in
theorem c_X7_isKey (l : Launch) (D : va_G) (cI cZ cC : ClassId) (t : Int) (g_t : ib t) : zRo l yX7_isKey wsX7_isKey ({ frames := 0, cells := 0, slots := 0, locals := 0 }) D cI cZ cC [] [.int (iI (t))] (bI (0 ≤ t ∧ t < 20)) := by
  refine z_ofRo (cc := cX7_isKey) (maxL := 1) (ret := (some .boolean)) RX7 (by decide +kernel) rfl rfl (by decide) ?_
  intro p0 e0 s0 m0 args0 below0 meth0 c0 ls hx hb hr hlocks hml hown hts hP hK hl
  have hl : lv_has ls 1 [(0, .int (iI (t)))] := hl
  refine lv_iload_n hx hb dX7_isKey_0 rfl (lv_at hl 0 rfl) ?_
  refine z_if_lt (tgt := 14) hx hb dX7_isKey_1 (by decide) ⟨by omega, by omega⟩ (fun c_1 => ?_) (fun c_1 => ?_)
  · refine lv_iconst (v := iI (0)) hx hb dX7_isKey_14 rfl ?_
    refine z_rretZ hx hb hr hlocks dX7_isKey_15 (by omega) ?_
    refine (bI_f ?_).symm
    omega
  · refine lv_iload_n hx hb dX7_isKey_4 rfl (lv_at hl 0 rfl) ?_
    refine lv_bipush (v := iI (20)) hx hb dX7_isKey_5 (by decide) ?_
    refine z_icmp_ge (tgt := 14) hx hb dX7_isKey_7 (by decide) ⟨⟨by omega, by omega⟩, ⟨by omega, by omega⟩⟩ (fun c_2 => ?_) (fun c_2 => ?_)
    · refine lv_iconst (v := iI (0)) hx hb dX7_isKey_14 rfl ?_
      refine z_rretZ hx hb hr hlocks dX7_isKey_15 (by omega) ?_
      refine (bI_f ?_).symm
      omega
    · refine lv_iconst (v := iI (1)) hx hb dX7_isKey_10 rfl ?_
      refine lv_goto (tgt := 15) hx hb dX7_isKey_11 (by decide) ?_
      refine z_rretZ hx hb hr hlocks dX7_isKey_15 (by omega) ?_
      refine (bI_t ?_).symm
      omega

set_option maxHeartbeats 4000000 in
set_option maxRecDepth 100000 in
theorem c_X7_isValue (l : Launch) (D : va_G) (cI cZ cC : ClassId) (t : Int) (g_t : ib t) : zRo l yX7_isValue wsX7_isValue ({ frames := 1, cells := 0, slots := 0, locals := 20 }) D cI cZ cC [] [.int (iI (t))] (bI (-1 ≤ t ∧ t < 20)) := by
  refine z_ofRo (cc := cX7_isValue) (maxL := 1) (ret := (some .boolean)) RX7 (by decide +kernel) rfl rfl (by decide) ?_
  intro p0 e0 s0 m0 args0 below0 meth0 c0 ls hx hb hr hlocks hml hown hts hP hK hl
  have hl : lv_has ls 1 [(0, .int (iI (t)))] := hl
  refine lv_iload_n hx hb dX7_isValue_0 rfl (lv_at hl 0 rfl) ?_
  refine lv_iconst (v := iI (-1)) hx hb dX7_isValue_1 rfl ?_
  refine z_icmp_eq (tgt := 12) hx hb dX7_isValue_2 (by decide) ⟨⟨by omega, by omega⟩, ⟨by omega, by omega⟩⟩ (fun c_1 => ?_) (fun c_1 => ?_)
  · refine lv_iconst (v := iI (1)) hx hb dX7_isValue_12 rfl ?_
    refine lv_goto (tgt := 17) hx hb dX7_isValue_13 (by decide) ?_
    refine z_rretZ hx hb hr hlocks dX7_isValue_17 (by omega) ?_
    refine (bI_t ?_).symm
    omega
  · refine lv_iload_n hx hb dX7_isValue_5 rfl (lv_at hl 0 rfl) ?_
    refine z_roS (As := [.int (iI (t))]) (rest := []) ⟨hx, hb, hml, hown, hts⟩ (c_X7_isKey l D cI cZ cC (t) (by first | assumption | omega)) (va_cwS 1 hts gX7_isValue_X7_isKey rfl rfl rfl (by decide +kernel) ⟨Nat.le_of_ble_eq_true rfl, Nat.le_of_ble_eq_true rfl⟩) hP hK [] rfl rfl hl.1 rfl (Nat.le_of_ble_eq_true rfl) dX7_isValue_6 ⟨by omega, by omega⟩ ?_
    refine z_b_eq (tgt := 16) hx hb dX7_isValue_9 (by decide) (fun c_2 => ?_) (fun c_2 => ?_)
    · refine lv_iconst (v := iI (0)) hx hb dX7_isValue_16 rfl ?_
      refine z_rretZ hx hb hr hlocks dX7_isValue_17 (by omega) ?_
      refine (bI_f ?_).symm
      omega
    · refine lv_iconst (v := iI (1)) hx hb dX7_isValue_12 rfl ?_
      refine lv_goto (tgt := 17) hx hb dX7_isValue_13 (by decide) ?_
      refine z_rretZ hx hb hr hlocks dX7_isValue_17 (by omega) ?_
      refine (bI_t ?_).symm
      omega

set_option maxHeartbeats 4000000 in
set_option maxRecDepth 100000 in
theorem c_X7_rowNumber (l : Launch) (D : va_G) (cI cZ cC : ClassId) (t k : Int) : zRo l yX7_rowNumber wsX7_rowNumber ({ frames := 0, cells := 0, slots := 0, locals := 0 }) D cI cZ cC [] [.int (iI (t)), .int (iI (k))] (t * 20 + k) := by
  refine z_ofRo (cc := cX7_rowNumber) (maxL := 2) (ret := (some .int)) RX7 (by decide +kernel) rfl rfl (by decide) ?_
  intro p0 e0 s0 m0 args0 below0 meth0 c0 ls hx hb hr hlocks hml hown hts hP hK hl
  have hl : lv_has ls 2 [(0, .int (iI (t))), (1, .int (iI (k)))] := hl
  refine lv_iload_n hx hb dX7_rowNumber_0 rfl (lv_at hl 0 rfl) ?_
  refine lv_bipush (v := iI (20)) hx hb dX7_rowNumber_1 (by decide) ?_
  refine z_imul hx hb dX7_rowNumber_3 ?_
  refine lv_iload_n hx hb dX7_rowNumber_4 rfl (lv_at hl 1 rfl) ?_
  refine z_iadd hx hb dX7_rowNumber_5 ?_
  refine z_rret hx hb hr hlocks dX7_rowNumber_6 ?_
  rfl

set_option maxHeartbeats 4000000 in
set_option maxRecDepth 100000 in
theorem c_X7_tableOfRow (l : Launch) (D : va_G) (cI cZ cC : ClassId) (r : Int) (g_r : 0 ≤ r ∧ r < 80) : zRo l yX7_tableOfRow wsX7_tableOfRow ({ frames := 0, cells := 0, slots := 0, locals := 0 }) D cI cZ cC [] [.int (iI (r))] (r / 20) := by
  refine z_ofRo (cc := cX7_tableOfRow) (maxL := 1) (ret := (some .int)) RX7 (by decide +kernel) rfl rfl (by decide) ?_
  intro p0 e0 s0 m0 args0 below0 meth0 c0 ls hx hb hr hlocks hml hown hts hP hK hl
  have hl : lv_has ls 1 [(0, .int (iI (r)))] := hl
  refine lv_iload_n hx hb dX7_tableOfRow_0 rfl (lv_at hl 0 rfl) ?_
  refine lv_bipush (v := iI (20)) hx hb dX7_tableOfRow_1 (by decide) ?_
  refine z_idiv hx hb dX7_tableOfRow_3 (by omega) (by omega) ?_
  refine z_rret hx hb hr hlocks dX7_tableOfRow_4 ?_
  rfl

set_option maxHeartbeats 4000000 in
set_option maxRecDepth 100000 in
theorem c_X7_constraintNumber (l : Launch) (D : va_G) (cI cZ cC : ClassId) (t k : Int) : zRo l yX7_constraintNumber wsX7_constraintNumber ({ frames := 0, cells := 0, slots := 0, locals := 0 }) D cI cZ cC [] [.int (iI (t)), .int (iI (k))] (t * 2 + k) := by
  refine z_ofRo (cc := cX7_constraintNumber) (maxL := 2) (ret := (some .int)) RX7 (by decide +kernel) rfl rfl (by decide) ?_
  intro p0 e0 s0 m0 args0 below0 meth0 c0 ls hx hb hr hlocks hml hown hts hP hK hl
  have hl : lv_has ls 2 [(0, .int (iI (t))), (1, .int (iI (k)))] := hl
  refine lv_iload_n hx hb dX7_constraintNumber_0 rfl (lv_at hl 0 rfl) ?_
  refine lv_iconst (v := iI (2)) hx hb dX7_constraintNumber_1 rfl ?_
  refine z_imul hx hb dX7_constraintNumber_2 ?_
  refine lv_iload_n hx hb dX7_constraintNumber_3 rfl (lv_at hl 1 rfl) ?_
  refine z_iadd hx hb dX7_constraintNumber_4 ?_
  refine z_rret hx hb hr hlocks dX7_constraintNumber_5 ?_
  rfl

set_option maxHeartbeats 4000000 in
set_option maxRecDepth 100000 in
theorem c_X7_tableOfConstraint (l : Launch) (D : va_G) (cI cZ cC : ClassId) (k : Int) (g_k : 0 ≤ k ∧ k < 8) : zRo l yX7_tableOfConstraint wsX7_tableOfConstraint ({ frames := 0, cells := 0, slots := 0, locals := 0 }) D cI cZ cC [] [.int (iI (k))] (k / 2) := by
  refine z_ofRo (cc := cX7_tableOfConstraint) (maxL := 1) (ret := (some .int)) RX7 (by decide +kernel) rfl rfl (by decide) ?_
  intro p0 e0 s0 m0 args0 below0 meth0 c0 ls hx hb hr hlocks hml hown hts hP hK hl
  have hl : lv_has ls 1 [(0, .int (iI (k)))] := hl
  refine lv_iload_n hx hb dX7_tableOfConstraint_0 rfl (lv_at hl 0 rfl) ?_
  refine lv_iconst (v := iI (2)) hx hb dX7_tableOfConstraint_1 rfl ?_
  refine z_idiv hx hb dX7_tableOfConstraint_2 (by omega) (by omega) ?_
  refine z_rret hx hb hr hlocks dX7_tableOfConstraint_3 ?_
  rfl

set_option maxHeartbeats 4000000 in
set_option maxRecDepth 100000 in
theorem c_X7_columnOfConstraint (l : Launch) (D : va_G) (cI cZ cC : ClassId) (k : Int) (g_k : 0 ≤ k ∧ k < 8) : zRo l yX7_columnOfConstraint wsX7_columnOfConstraint ({ frames := 0, cells := 0, slots := 0, locals := 0 }) D cI cZ cC [] [.int (iI (k))] (k % 2) := by
  refine z_ofRo (cc := cX7_columnOfConstraint) (maxL := 1) (ret := (some .int)) RX7 (by decide +kernel) rfl rfl (by decide) ?_
  intro p0 e0 s0 m0 args0 below0 meth0 c0 ls hx hb hr hlocks hml hown hts hP hK hl
  have hl : lv_has ls 1 [(0, .int (iI (k)))] := hl
  refine lv_iload_n hx hb dX7_columnOfConstraint_0 rfl (lv_at hl 0 rfl) ?_
  refine lv_iconst (v := iI (2)) hx hb dX7_columnOfConstraint_1 rfl ?_
  refine z_irem hx hb dX7_columnOfConstraint_2 (by omega) (by omega) ?_
  refine z_rret hx hb hr hlocks dX7_columnOfConstraint_3 ?_
  rfl

set_option maxHeartbeats 4000000 in
set_option maxRecDepth 100000 in
theorem c_X7_refusalBecauseOf (l : Launch) (D : va_G) (cI cZ cC : ClassId) (k : Int) : zRo l yX7_refusalBecauseOf wsX7_refusalBecauseOf ({ frames := 0, cells := 0, slots := 0, locals := 0 }) D cI cZ cC [] [.int (iI (k))] (-10 - k) := by
  refine z_ofRo (cc := cX7_refusalBecauseOf) (maxL := 1) (ret := (some .int)) RX7 (by decide +kernel) rfl rfl (by decide) ?_
  intro p0 e0 s0 m0 args0 below0 meth0 c0 ls hx hb hr hlocks hml hown hts hP hK hl
  have hl : lv_has ls 1 [(0, .int (iI (k)))] := hl
  refine lv_bipush (v := iI (-10)) hx hb dX7_refusalBecauseOf_0 (by decide) ?_
  refine lv_iload_n hx hb dX7_refusalBecauseOf_2 rfl (lv_at hl 0 rfl) ?_
  refine z_isub hx hb dX7_refusalBecauseOf_3 ?_
  refine z_rret hx hb hr hlocks dX7_refusalBecauseOf_4 ?_
  rfl

set_option maxHeartbeats 4000000 in
set_option maxRecDepth 100000 in
theorem c_X4_changeCount (l : Launch) (D : va_G) (cI cZ cC : ClassId) (ad : Nat → Nat) (be : Nat) (n : Int) : zRo l yX4_changeCount wsX4_changeCount ({ frames := 0, cells := 0, slots := 0, locals := 0 }) D cI cZ cC [(ad 1, .inr (4, [.ref (ad 2), .ref (be), .int (iI (n))]))] [.ref (ad 1)] (n) := by
  refine z_ofRo (cc := cX4_changeCount) (maxL := 1) (ret := (some .int)) RX4 (by decide +kernel) rfl rfl (by decide) ?_
  intro p0 e0 s0 m0 args0 below0 meth0 c0 ls hx hb hr hlocks hml hown hts hP hK hl
  have hl : lv_has ls 1 [(0, .ref (ad 1))] := hl
  refine lv_aload_n hx hb dX4_changeCount_0 rfl (lv_at hl 0 rfl) ?_
  refine va_get (D := D) (ci := 4) (v := .int (iI (n))) (C := RX4) (T := TX4) (N := 3) hx hb hts (fun _ h => List.mem_cons_of_mem _ (List.mem_append_right _ (h))) hown hK.1 hP 0 rfl rfl 2 (by decide) (hts (.fieldLink RX4 18 "ForeignKeyStore$Rows" "changeCount" "I") (List.mem_of_getElem? (i := 1) rfl)) (fun _ h9 => h9) rfl dX4_changeCount_1 ?_
  refine z_rret hx hb hr hlocks dX4_changeCount_4 ?_
  rfl

set_option maxHeartbeats 4000000 in
set_option maxRecDepth 100000 in
theorem c_X4_has (l : Launch) (D : va_G) (cI cZ cC : ClassId) (ad : Nat → Nat) (be : Nat) (n : Int) (V : Int → Int) (r : Int) (g_V : ∀ j : Int, 0 ≤ j → j < 160 → -2 ≤ V j ∧ V j ≤ 19) (g_r : ib r) : zRo l yX4_has wsX4_has ({ frames := 0, cells := 0, slots := 0, locals := 0 }) D cI cZ cC [(ad 1, .inr (4, [.ref (ad 2), .ref (be), .int (iI (n))])), (ad 2, .inl (cI, 160, .inl (iA (V))))] [.ref (ad 1), .int (iI (r))] (bI (hasR V r)) := by
  refine z_ofRo (cc := cX4_has) (maxL := 2) (ret := (some .boolean)) RX4 (by decide +kernel) rfl rfl (by decide) ?_
  intro p0 e0 s0 m0 args0 below0 meth0 c0 ls hx hb hr hlocks hml hown hts hP hK hl
  have hl : lv_has ls 2 [(0, .ref (ad 1)), (1, .int (iI (r)))] := hl
  refine lv_iload_n hx hb dX4_has_0 rfl (lv_at hl 1 rfl) ?_
  refine z_if_lt (tgt := 27) hx hb dX4_has_1 (by decide) ⟨by omega, by omega⟩ (fun c_1 => ?_) (fun c_1 => ?_)
  · refine lv_iconst (v := iI (0)) hx hb dX4_has_27 rfl ?_
    refine z_rretZ hx hb hr hlocks dX4_has_28 (by omega) ?_
    refine (bI_f ?_).symm
    unfold hasR; omega
  · refine lv_iload_n hx hb dX4_has_4 rfl (lv_at hl 1 rfl) ?_
    refine lv_bipush (v := iI (80)) hx hb dX4_has_5 (by decide) ?_
    refine z_icmp_ge (tgt := 27) hx hb dX4_has_7 (by decide) ⟨⟨by omega, by omega⟩, ⟨by omega, by omega⟩⟩ (fun c_2 => ?_) (fun c_2 => ?_)
    · refine lv_iconst (v := iI (0)) hx hb dX4_has_27 rfl ?_
      refine z_rretZ hx hb hr hlocks dX4_has_28 (by omega) ?_
      refine (bI_f ?_).symm
      unfold hasR; omega
    · refine lv_aload_n hx hb dX4_has_10 rfl (lv_at hl 0 rfl) ?_
      refine va_get (D := D) (ci := 4) (v := .ref (ad 2)) (C := RX4) (T := TX4) (N := 3) hx hb hts (fun _ h => List.mem_cons_of_mem _ (List.mem_append_right _ (h))) hown hK.1 hP 0 rfl rfl 0 (by decide) (hts (.fieldLink RX4 9 "ForeignKeyStore$Rows" "values" "[I") (List.mem_of_getElem? (i := 1) rfl)) (fun _ h9 => h9) rfl dX4_has_11 ?_
      refine lv_iload_n hx hb dX4_has_14 rfl (lv_at hl 1 rfl) ?_
      refine lv_iconst (v := iI (2)) hx hb dX4_has_15 rfl ?_
      refine z_imul hx hb dX4_has_16 ?_
      refine z_iald hx hb hK.1 hP 1 0 rfl rfl (by omega) (by decide) dX4_has_17 ?_
      have hb_3 := g_V ((r * 2)) (by omega) (by omega)
      refine lv_bipush (v := iI (-2)) hx hb dX4_has_18 (by decide) ?_
      refine z_icmp_eq (tgt := 27) hx hb dX4_has_20 (by decide) ⟨⟨by omega, by omega⟩, ⟨by omega, by omega⟩⟩ (fun c_4 => ?_) (fun c_4 => ?_)
      · refine lv_iconst (v := iI (0)) hx hb dX4_has_27 rfl ?_
        refine z_rretZ hx hb hr hlocks dX4_has_28 (by omega) ?_
        refine (bI_f ?_).symm
        unfold hasR; omega
      · refine lv_iconst (v := iI (1)) hx hb dX4_has_23 rfl ?_
        refine lv_goto (tgt := 28) hx hb dX4_has_24 (by decide) ?_
        refine z_rretZ hx hb hr hlocks dX4_has_28 (by omega) ?_
        refine (bI_t ?_).symm
        unfold hasR; omega

set_option maxHeartbeats 4000000 in
set_option maxRecDepth 100000 in
theorem c_X4_valueOf (l : Launch) (D : va_G) (cI cZ cC : ClassId) (ad : Nat → Nat) (be : Nat) (n : Int) (V : Int → Int) (r c : Int) (g_r : ib r) (g_c : ib c) : zRo l yX4_valueOf wsX4_valueOf ({ frames := 0, cells := 0, slots := 0, locals := 0 }) D cI cZ cC [(ad 1, .inr (4, [.ref (ad 2), .ref (be), .int (iI (n))])), (ad 2, .inl (cI, 160, .inl (iA (V))))] [.ref (ad 1), .int (iI (r)), .int (iI (c))] (vOf V r c) := by
  refine z_ofRo (cc := cX4_valueOf) (maxL := 3) (ret := (some .int)) RX4 (by decide +kernel) rfl rfl (by decide) ?_
  intro p0 e0 s0 m0 args0 below0 meth0 c0 ls hx hb hr hlocks hml hown hts hP hK hl
  have hl : lv_has ls 3 [(0, .ref (ad 1)), (1, .int (iI (r))), (2, .int (iI (c)))] := hl
  refine lv_iload_n hx hb dX4_valueOf_0 rfl (lv_at hl 1 rfl) ?_
  refine z_if_lt (tgt := 19) hx hb dX4_valueOf_1 (by decide) ⟨by omega, by omega⟩ (fun c_1 => ?_) (fun c_1 => ?_)
  · refine lv_bipush (v := iI (-2)) hx hb dX4_valueOf_19 (by decide) ?_
    refine z_rret hx hb hr hlocks dX4_valueOf_21 ?_
    unfold vOf; split <;> omega
  · refine lv_iload_n hx hb dX4_valueOf_4 rfl (lv_at hl 1 rfl) ?_
    refine lv_bipush (v := iI (80)) hx hb dX4_valueOf_5 (by decide) ?_
    refine z_icmp_ge (tgt := 19) hx hb dX4_valueOf_7 (by decide) ⟨⟨by omega, by omega⟩, ⟨by omega, by omega⟩⟩ (fun c_2 => ?_) (fun c_2 => ?_)
    · refine lv_bipush (v := iI (-2)) hx hb dX4_valueOf_19 (by decide) ?_
      refine z_rret hx hb hr hlocks dX4_valueOf_21 ?_
      unfold vOf; split <;> omega
    · refine lv_iload_n hx hb dX4_valueOf_10 rfl (lv_at hl 2 rfl) ?_
      refine z_if_lt (tgt := 19) hx hb dX4_valueOf_11 (by decide) ⟨by omega, by omega⟩ (fun c_3 => ?_) (fun c_3 => ?_)
      · refine lv_bipush (v := iI (-2)) hx hb dX4_valueOf_19 (by decide) ?_
        refine z_rret hx hb hr hlocks dX4_valueOf_21 ?_
        unfold vOf; split <;> omega
      · refine lv_iload_n hx hb dX4_valueOf_14 rfl (lv_at hl 2 rfl) ?_
        refine lv_iconst (v := iI (2)) hx hb dX4_valueOf_15 rfl ?_
        refine z_icmp_lt (tgt := 22) hx hb dX4_valueOf_16 (by decide) ⟨⟨by omega, by omega⟩, ⟨by omega, by omega⟩⟩ (fun c_4 => ?_) (fun c_4 => ?_)
        · refine lv_aload_n hx hb dX4_valueOf_22 rfl (lv_at hl 0 rfl) ?_
          refine va_get (D := D) (ci := 4) (v := .ref (ad 2)) (C := RX4) (T := TX4) (N := 3) hx hb hts (fun _ h => List.mem_cons_of_mem _ (List.mem_append_right _ (h))) hown hK.1 hP 0 rfl rfl 0 (by decide) (hts (.fieldLink RX4 9 "ForeignKeyStore$Rows" "values" "[I") (List.mem_of_getElem? (i := 1) rfl)) (fun _ h9 => h9) rfl dX4_valueOf_23 ?_
          refine lv_iload_n hx hb dX4_valueOf_26 rfl (lv_at hl 1 rfl) ?_
          refine lv_iconst (v := iI (2)) hx hb dX4_valueOf_27 rfl ?_
          refine z_imul hx hb dX4_valueOf_28 ?_
          refine lv_iload_n hx hb dX4_valueOf_29 rfl (lv_at hl 2 rfl) ?_
          refine z_iadd hx hb dX4_valueOf_30 ?_
          refine z_iald hx hb hK.1 hP 1 0 rfl rfl (by omega) (by decide) dX4_valueOf_31 ?_
          refine z_rret hx hb hr hlocks dX4_valueOf_32 ?_
          unfold vOf; split <;> omega
        · refine lv_bipush (v := iI (-2)) hx hb dX4_valueOf_19 (by decide) ?_
          refine z_rret hx hb hr hlocks dX4_valueOf_21 ?_
          unfold vOf; split <;> omega

set_option maxHeartbeats 4000000 in
set_option maxRecDepth 100000 in
theorem c_X4_countIn (l : Launch) (D : va_G) (cI cZ cC : ClassId) (ad : Nat → Nat) (be : Nat) (n : Int) (V : Int → Int) (t : Int) (g_V : ∀ j : Int, 0 ≤ j → j < 160 → -2 ≤ V j ∧ V j ≤ 19) (g_t : 0 ≤ t ∧ t < 4) : zRo l yX4_countIn wsX4_countIn ({ frames := 1, cells := 0, slots := 0, locals := 21 }) D cI cZ cC [(ad 1, .inr (4, [.ref (ad 2), .ref (be), .int (iI (n))])), (ad 2, .inl (cI, 160, .inl (iA (V))))] [.ref (ad 1), .int (iI (t))] (sumN (fun k => bI (hasR V (t * 20 + k))) 20) := by
  refine z_ofRo (cc := cX4_countIn) (maxL := 4) (ret := (some .int)) RX4 (by decide +kernel) rfl rfl (by decide) ?_
  intro p0 e0 s0 m0 args0 below0 meth0 c0 ls hx hb hr hlocks hml hown hts hP hK hl
  have hl : lv_has ls 4 [(0, .ref (ad 1)), (1, .int (iI (t)))] := hl
  refine lv_iconst (v := iI (0)) hx hb dX4_countIn_0 rfl ?_
  refine lv_istore_n (lv' := [(2, .int (iI (0))), (0, .ref (ad 1)), (1, .int (iI (t)))]) hx hb dX4_countIn_1 rfl hl (by decide) rfl (fun ls hl => ?_)
  refine lv_iconst (v := iI (0)) hx hb dX4_countIn_2 rfl ?_
  refine lv_istore_n (lv' := [(3, .int (iI (0))), (2, .int (iI (0))), (0, .ref (ad 1)), (1, .int (iI (t)))]) hx hb dX4_countIn_3 rfl hl (by decide) rfl (fun ls hl => ?_)
  have loop4 : ∀ (fu : Nat) (i : Nat) (cnt : Int), (g_i : i ≤ 20) → (g_n : 20 < i + fu) → (g_c : cnt = sumN (fun k => bI (hasR V (t * 20 + k))) i) → ∀ ls : Array Slot, lv_has ls 4 [(3, .int (iI ((i : Int)))), (2, .int (iI (cnt))), (0, .ref (ad 1)), (1, .int (iI (t)))] → W p0 l e0 (headSpec wsX4_countIn ({ frames := 1, cells := 0, slots := 0, locals := 21 })).room s0 m0 args0 below0 meth0 c0 s0.heap [] 0 0 (QRo below0 (sumN (fun k => bI (hasR V (t * 20 + k))) 20) args0 s0) (F0 m0 4 ls []) := by
    intro fu
    induction fu with
    | zero => intro i cnt g_i g_n g_c ls hl; exfalso; omega
    | succ fu ih4 =>
      intro i cnt g_i g_n g_c ls hl
      refine lv_iload_n hx hb dX4_countIn_4 rfl (lv_at hl 0 rfl) ?_
      refine lv_bipush (v := iI (20)) hx hb dX4_countIn_5 (by decide) ?_
      refine z_icmp_ge (tgt := 31) hx hb dX4_countIn_7 (by decide) ⟨⟨by omega, by omega⟩, ⟨by omega, by omega⟩⟩ (fun c_1 => ?_) (fun c_1 => ?_)
      · refine lv_iload_n hx hb dX4_countIn_31 rfl (lv_at hl 1 rfl) ?_
        refine z_rret hx hb hr hlocks dX4_countIn_32 ?_
        rw [g_c]; congr 1; omega
      · refine lv_aload_n hx hb dX4_countIn_10 rfl (lv_at hl 2 rfl) ?_
        refine lv_iload_n hx hb dX4_countIn_11 rfl (lv_at hl 3 rfl) ?_
        refine lv_iload_n hx hb dX4_countIn_12 rfl (lv_at hl 0 rfl) ?_
        refine z_roN (As := [.int (iI (t)), .int (iI ((i : Int)))]) (rest := [.ref (ad 1)]) ⟨hx, hb, hml, hown, hts⟩ (c_X7_rowNumber l D cI cZ cC (t) ((i : Int)) ) ⟨va_cnB (host := RX7) 2 hts gX4_countIn_X7_rowNumber_n22 rfl rfl rfl (hK.2 _ (List.mem_of_getElem? (i := 12) rfl)) (hts (.initialized RX7) (List.mem_of_getElem? (i := 2) rfl)) (by decide +kernel) ⟨Nat.le_of_ble_eq_true rfl, Nat.le_of_ble_eq_true rfl⟩, (hts (.static yX7_rowNumber) (List.mem_of_getElem? (i := 1) rfl)), trivial⟩ hP hK [] rfl rfl hl.1 rfl (Nat.le_of_ble_eq_true rfl) dX4_countIn_13 ⟨by omega, by omega⟩ ?_
        refine z_roV (As := [.int (iI ((t * 20 + ((i : Int)))))]) (rest := []) ⟨hx, hb, hml, hown, hts⟩ (c_X4_has l D cI cZ cC (ad) (be) (n) (V) ((t * 20 + ((i : Int)))) (by first | assumption | omega) (by first | assumption | omega)) (cwV 1 hts gX4_countIn_X4_has rfl rfl rfl (by decide +kernel) ⟨Nat.le_of_ble_eq_true rfl, Nat.le_of_ble_eq_true rfl⟩) hP hK [0, 1] rfl 0 4 rfl rfl rfl rfl hl.1 rfl (Nat.le_of_ble_eq_true rfl) dX4_countIn_16 ⟨by omega, by omega⟩ ?_
        refine z_b_eq (tgt := 25) hx hb dX4_countIn_19 (by decide) (fun c_2 => ?_) (fun c_2 => ?_)
        · refine lv_iinc (v := iI ((i : Int) + 1)) (lv' := [(3, .int (iI ((i : Int) + 1))), (2, .int (iI (cnt))), (0, .ref (ad 1)), (1, .int (iI (t)))]) hx hb dX4_countIn_25 hl (k := 0) rfl (iI_add ((i : Int)) (1)) (by decide) rfl (fun ls hl => ?_)
          refine lv_goto (tgt := 4) hx hb dX4_countIn_28 (by decide) ?_
          exact ih4 (i + 1) _ (by omega) (by omega) (sum_f g_c rfl c_2) _ (lv_sub hl [0, 1, 2, 3] rfl)
        · refine lv_iinc (v := iI (cnt + 1)) (lv' := [(2, .int (iI (cnt + 1))), (3, .int (iI ((i : Int)))), (0, .ref (ad 1)), (1, .int (iI (t)))]) hx hb dX4_countIn_22 hl (k := 1) rfl (iI_add (cnt) (1)) (by decide) rfl (fun ls hl => ?_)
          refine lv_iinc (v := iI ((i : Int) + 1)) (lv' := [(3, .int (iI ((i : Int) + 1))), (2, .int (iI (cnt + 1))), (0, .ref (ad 1)), (1, .int (iI (t)))]) hx hb dX4_countIn_25 hl (k := 1) rfl (iI_add ((i : Int)) (1)) (by decide) rfl (fun ls hl => ?_)
          refine lv_goto (tgt := 4) hx hb dX4_countIn_28 (by decide) ?_
          exact ih4 (i + 1) _ (by omega) (by omega) (sum_t g_c rfl c_2) _ (lv_sub hl [0, 1, 2, 3] rfl)
  exact loop4 21 0 0 (by omega) (by omega) rfl _ (lv_sub hl [0, 1, 2, 3] rfl)

set_option maxHeartbeats 4000000 in
set_option maxRecDepth 100000 in
theorem c_X0_parentOf (l : Launch) (D : va_G) (cI cZ cC : ClassId) (ad : Nat → Nat) (P : Int → Int) (k : Int) (g_k : ib k) : zRo l yX0_parentOf wsX0_parentOf ({ frames := 0, cells := 0, slots := 0, locals := 0 }) D cI cZ cC [(ad 4, .inr (0, [.ref (ad 1), .ref (ad 5), .ref (ad 6), .ref (ad 7)])), (ad 5, .inl (cI, 8, .inl (iA (P))))] [.ref (ad 4), .int (iI (k))] (inP P k) := by
  refine z_ofRo (cc := cX0_parentOf) (maxL := 2) (ret := (some .int)) RX0 (by decide +kernel) rfl rfl (by decide) ?_
  intro p0 e0 s0 m0 args0 below0 meth0 c0 ls hx hb hr hlocks hml hown hts hP hK hl
  have hl : lv_has ls 2 [(0, .ref (ad 4)), (1, .int (iI (k)))] := hl
  refine lv_iload_n hx hb dX0_parentOf_0 rfl (lv_at hl 1 rfl) ?_
  refine z_if_lt (tgt := 19) hx hb dX0_parentOf_1 (by decide) ⟨by omega, by omega⟩ (fun c_1 => ?_) (fun c_1 => ?_)
  · refine lv_bipush (v := iI (-2)) hx hb dX0_parentOf_19 (by decide) ?_
    refine z_rret hx hb hr hlocks dX0_parentOf_21 ?_
    unfold inP; split <;> omega
  · refine lv_iload_n hx hb dX0_parentOf_4 rfl (lv_at hl 1 rfl) ?_
    refine lv_bipush (v := iI (8)) hx hb dX0_parentOf_5 (by decide) ?_
    refine z_icmp_ge (tgt := 19) hx hb dX0_parentOf_7 (by decide) ⟨⟨by omega, by omega⟩, ⟨by omega, by omega⟩⟩ (fun c_2 => ?_) (fun c_2 => ?_)
    · refine lv_bipush (v := iI (-2)) hx hb dX0_parentOf_19 (by decide) ?_
      refine z_rret hx hb hr hlocks dX0_parentOf_21 ?_
      unfold inP; split <;> omega
    · refine lv_aload_n hx hb dX0_parentOf_10 rfl (lv_at hl 0 rfl) ?_
      refine va_get (D := D) (ci := 0) (v := .ref (ad 5)) (C := RX0) (T := TX0) (N := 4) hx hb hts (fun _ h => List.mem_cons_of_mem _ (List.mem_append_right _ (h))) hown hK.1 hP 0 rfl rfl 1 (by decide) (hts (.fieldLink RX0 9 "ForeignKeyStore$Constraints" "parents" "[I") (List.mem_of_getElem? (i := 1) rfl)) (fun _ h9 => h9) rfl dX0_parentOf_11 ?_
      refine lv_iload_n hx hb dX0_parentOf_14 rfl (lv_at hl 1 rfl) ?_
      refine z_iald hx hb hK.1 hP 1 0 rfl rfl (by omega) (by decide) dX0_parentOf_15 ?_
      refine lv_goto (tgt := 21) hx hb dX0_parentOf_16 (by decide) ?_
      refine z_rret hx hb hr hlocks dX0_parentOf_21 ?_
      unfold inP; split <;> omega

