/-- the value of a column, NONE where there is no such place -/
def vOf (V : Int → Int) (r c : Int) : Int := if 0 ≤ r ∧ r < 80 ∧ 0 ≤ c ∧ c < 2 then V (r * 2 + c) else -2
def hasR (V : Int → Int) (r : Int) : Prop := 0 ≤ r ∧ r < 80 ∧ ¬ V (r * 2) = -2
def inP (P : Int → Int) (k : Int) : Int := if 0 ≤ k ∧ k < 8 then P k else -2
def inA (Ac : Int → Int) (k : Int) : Int := if 0 ≤ k ∧ k < 8 then Ac k else 1
def tgt (P V : Int → Int) (k r : Int) : Int := if inP P k = -2 ∨ vOf V r (k % 2) < 0 then -2 else inP P k * 20 + vOf V r (k % 2)
noncomputable def vio (V : Int → Int) (k par : Int) : Int := if par = -2 then 0 else sumN (fun i => bI (0 ≤ vOf V (k / 2 * 20 + i) (k % 2) ∧ ¬ hasR V (par * 20 + vOf V (k / 2 * 20 + i) (k % 2)))) 20
def badC (d : Int) (Mo P V : Int → Int) (k : Int) : Prop := ¬ (d = 0 ∧ (0 ≤ k ∧ k < 8 ∧ ¬ Mo k = 0)) ∧ 0 < vio V k (inP P k)
/-- the refusal because of the first bad one from k on -/
noncomputable def fR (bad : Int → Prop) : Nat → Int → Int
  | 0, _ => 0
  | n + 1, k => @ite Int (bad k) (Classical.propDecidable _) (-10 - k) (fR bad n (k + 1))
theorem fR_t {bad : Int → Prop} {n : Nat} {k : Int} (h : bad k) : fR bad (n + 1) k = -10 - k := by
  rw [fR, if_pos h]
theorem fR_f {bad : Int → Prop} {n : Nat} {k : Int} (h : ¬ bad k) : fR bad (n + 1) k = fR bad n (k + 1) := by
  rw [fR, if_neg h]
theorem sumN_b {f : Int → Int} (h : ∀ i, f i = 0 ∨ f i = 1) : ∀ n : Nat, 0 ≤ sumN f n ∧ sumN f n ≤ (n : Int)
  | 0 => ⟨by simp [sumN], by simp [sumN]⟩
  | n + 1 => by
    have h1 := sumN_b h n
    have h2 := h (n : Int)
    rw [sumN]
    omega
theorem vOf_b {V : Int → Int} (g : ∀ j : Int, 0 ≤ j → j < 160 → -2 ≤ V j ∧ V j ≤ 19) (r c : Int) : -2 ≤ vOf V r c ∧ vOf V r c ≤ 19 := by
  unfold vOf
  split
  · exact g _ (by omega) (by omega)
  · omega
theorem inP_b {P : Int → Int} (g : ∀ j : Int, 0 ≤ j → j < 8 → P j = -2 ∨ (0 ≤ P j ∧ P j < 4)) (k : Int) : inP P k = -2 ∨ (0 ≤ inP P k ∧ inP P k < 4) := by
  unfold inP
  split
  · exact g _ (by omega) (by omega)
  · omega
theorem inA_b {Ac : Int → Int} (g : ∀ j : Int, 0 ≤ j → j < 8 → 0 ≤ Ac j ∧ Ac j ≤ 3) (k : Int) : 0 ≤ inA Ac k ∧ inA Ac k ≤ 3 := by
  unfold inA
  split
  · exact g _ (by omega) (by omega)
  · omega
theorem tgt_b {P V : Int → Int} (gV : ∀ j : Int, 0 ≤ j → j < 160 → -2 ≤ V j ∧ V j ≤ 19) (gP : ∀ j : Int, 0 ≤ j → j < 8 → P j = -2 ∨ (0 ≤ P j ∧ P j < 4)) (k r : Int) : tgt P V k r = -2 ∨ (0 ≤ tgt P V k r ∧ tgt P V k r < 80) := by
  have h1 := vOf_b gV r (k % 2)
  have h2 := inP_b gP k
  unfold tgt
  split <;> omega
theorem vio_b (V : Int → Int) (k par : Int) : 0 ≤ vio V k par ∧ vio V k par ≤ 20 := by
  unfold vio
  split
  · omega
  · exact sumN_b (fun i => bI_01 _) 20
theorem fR_b (bad : Int → Prop) : ∀ (n : Nat) (k : Int), fR bad n k = 0 ∨ (-10 - k - n < fR bad n k ∧ fR bad n k ≤ -10 - k)
  | 0, _ => Or.inl rfl
  | n + 1, k => by
    by_cases h : bad k
    · rw [fR_t h]; omega
    · rw [fR_f h]
      have := fR_b bad n (k + 1)
      omega

set_option maxHeartbeats 600000 in
set_option maxRecDepth 100000 in
theorem c_X7_isTable (l : Launch) (D : va_G) (cI cZ cC : ClassId) (t : Int) (g_t : ib t) : zRo l yX7_isTable wsX7_isTable ({ frames := 0, cells := 0, slots := 0, locals := 0 }) D cI cZ cC [] [.int (iI (t))] (bI (0 ≤ t ∧ t < 4)) := by
  refine z_ofRo (cc := cX7_isTable) (maxL := 1) (ret := (some .boolean)) RX7 (by decide +kernel) rfl rfl (Nat.le_of_ble_eq_true rfl) ?_
  intro p0 en0 s0 m0 args0 below0 meth0 c0 ls hx hb hr hlocks hml hown hts hP hK hl
  have hl : lv_has ls 1 [(0, .int (iI (t)))] := hl
  refine lv_iload_n hx hb dX7_isTable_0 rfl (lv_at hl 0 rfl) ?_
  refine z_if_lt (tgt := 13) hx hb dX7_isTable_1 (by decide) ⟨by omega, by omega⟩ (fun c_1 => ?_) (fun c_1 => ?_)
  · refine lv_iconst (v := iI (0)) hx hb dX7_isTable_13 rfl ?_
    refine z_rretZ hx hb hr hlocks dX7_isTable_14 (by omega) ?_
    refine (bI_f ?_).symm
    omega
  · refine lv_iload_n hx hb dX7_isTable_4 rfl (lv_at hl 0 rfl) ?_
    refine lv_iconst (v := iI (4)) hx hb dX7_isTable_5 rfl ?_
    refine z_icmp_ge (tgt := 13) hx hb dX7_isTable_6 (by decide) ⟨⟨by omega, by omega⟩, ⟨by omega, by omega⟩⟩ (fun c_2 => ?_) (fun c_2 => ?_)
    · refine lv_iconst (v := iI (0)) hx hb dX7_isTable_13 rfl ?_
      refine z_rretZ hx hb hr hlocks dX7_isTable_14 (by omega) ?_
      refine (bI_f ?_).symm
      omega
    · refine lv_iconst (v := iI (1)) hx hb dX7_isTable_9 rfl ?_
      refine lv_goto (tgt := 14) hx hb dX7_isTable_10 (by decide) ?_
      refine z_rretZ hx hb hr hlocks dX7_isTable_14 (by omega) ?_
      refine (bI_t ?_).symm
      omega

set_option maxHeartbeats 600000 in
set_option maxRecDepth 100000 in
theorem c_X7_isColumn (l : Launch) (D : va_G) (cI cZ cC : ClassId) (t : Int) (g_t : ib t) : zRo l yX7_isColumn wsX7_isColumn ({ frames := 0, cells := 0, slots := 0, locals := 0 }) D cI cZ cC [] [.int (iI (t))] (bI (0 ≤ t ∧ t < 2)) := by
  refine z_ofRo (cc := cX7_isColumn) (maxL := 1) (ret := (some .boolean)) RX7 (by decide +kernel) rfl rfl (Nat.le_of_ble_eq_true rfl) ?_
  intro p0 en0 s0 m0 args0 below0 meth0 c0 ls hx hb hr hlocks hml hown hts hP hK hl
  have hl : lv_has ls 1 [(0, .int (iI (t)))] := hl
  refine lv_iload_n hx hb dX7_isColumn_0 rfl (lv_at hl 0 rfl) ?_
  refine z_if_lt (tgt := 13) hx hb dX7_isColumn_1 (by decide) ⟨by omega, by omega⟩ (fun c_1 => ?_) (fun c_1 => ?_)
  · refine lv_iconst (v := iI (0)) hx hb dX7_isColumn_13 rfl ?_
    refine z_rretZ hx hb hr hlocks dX7_isColumn_14 (by omega) ?_
    refine (bI_f ?_).symm
    omega
  · refine lv_iload_n hx hb dX7_isColumn_4 rfl (lv_at hl 0 rfl) ?_
    refine lv_iconst (v := iI (2)) hx hb dX7_isColumn_5 rfl ?_
    refine z_icmp_ge (tgt := 13) hx hb dX7_isColumn_6 (by decide) ⟨⟨by omega, by omega⟩, ⟨by omega, by omega⟩⟩ (fun c_2 => ?_) (fun c_2 => ?_)
    · refine lv_iconst (v := iI (0)) hx hb dX7_isColumn_13 rfl ?_
      refine z_rretZ hx hb hr hlocks dX7_isColumn_14 (by omega) ?_
      refine (bI_f ?_).symm
      omega
    · refine lv_iconst (v := iI (1)) hx hb dX7_isColumn_9 rfl ?_
      refine lv_goto (tgt := 14) hx hb dX7_isColumn_10 (by decide) ?_
      refine z_rretZ hx hb hr hlocks dX7_isColumn_14 (by omega) ?_
      refine (bI_t ?_).symm
      omega

set_option maxHeartbeats 600000 in
set_option maxRecDepth 100000 in
theorem c_X7_isKey (l : Launch) (D : va_G) (cI cZ cC : ClassId) (t : Int) (g_t : ib t) : zRo l yX7_isKey wsX7_isKey ({ frames := 0, cells := 0, slots := 0, locals := 0 }) D cI cZ cC [] [.int (iI (t))] (bI (0 ≤ t ∧ t < 20)) := by
  refine z_ofRo (cc := cX7_isKey) (maxL := 1) (ret := (some .boolean)) RX7 (by decide +kernel) rfl rfl (Nat.le_of_ble_eq_true rfl) ?_
  intro p0 en0 s0 m0 args0 below0 meth0 c0 ls hx hb hr hlocks hml hown hts hP hK hl
  have hl : lv_has ls 1 [(0, .int (iI (t)))] := hl
  refine lv_iload_n hx hb dX7_isKey_0 rfl (lv_at hl 0 rfl) ?_
  refine z_if_lt (tgt := 14) hx hb dX7_isKey_1 (by decide) ⟨by omega, by omega⟩ (fun c_1 => ?_) (fun c_1 => ?_)
  · refine lv_iconst (v := iI (0)) hx hb dX7_isKey_14 rfl ?_
    refine z_rretZ hx hb hr hlocks dX7_isKey_15 (by omega) ?_
    refine (bI_f ?_).symm
    omega
  · refine lv_iload_n hx hb dX7_isKey_4 rfl (lv_at hl 0 rfl) ?_
    refine lv_bipush (v := iI (20)) hx hb dX7_isKey_5 (by decide) ?_
    refine z_icmp_ge (tgt := 14) hx hb dX7_isKey_7 (by decide) ⟨⟨by omega, by omega⟩, ⟨by omega, by omega⟩⟩ (fun c_2 => ?_) (fun c_2 => ?_)
    · refine lv_iconst (v := iI (0)) hx hb dX7_isKey_14 rfl ?_
      refine z_rretZ hx hb hr hlocks dX7_isKey_15 (by omega) ?_
      refine (bI_f ?_).symm
      omega
    · refine lv_iconst (v := iI (1)) hx hb dX7_isKey_10 rfl ?_
      refine lv_goto (tgt := 15) hx hb dX7_isKey_11 (by decide) ?_
      refine z_rretZ hx hb hr hlocks dX7_isKey_15 (by omega) ?_
      refine (bI_t ?_).symm
      omega

set_option maxHeartbeats 600000 in
set_option maxRecDepth 100000 in
theorem c_X7_isValue (l : Launch) (D : va_G) (cI cZ cC : ClassId) (t : Int) (g_t : ib t) : zRo l yX7_isValue wsX7_isValue ({ frames := 1, cells := 0, slots := 0, locals := 20 }) D cI cZ cC [] [.int (iI (t))] (bI (-1 ≤ t ∧ t < 20)) := by
  refine z_ofRo (cc := cX7_isValue) (maxL := 1) (ret := (some .boolean)) RX7 (by decide +kernel) rfl rfl (Nat.le_of_ble_eq_true rfl) ?_
  intro p0 en0 s0 m0 args0 below0 meth0 c0 ls hx hb hr hlocks hml hown hts hP hK hl
  have hl : lv_has ls 1 [(0, .int (iI (t)))] := hl
  refine lv_iload_n hx hb dX7_isValue_0 rfl (lv_at hl 0 rfl) ?_
  refine lv_iconst (v := iI (-1)) hx hb dX7_isValue_1 rfl ?_
  refine z_icmp_eq (tgt := 12) hx hb dX7_isValue_2 (by decide) ⟨⟨by omega, by omega⟩, ⟨by omega, by omega⟩⟩ (fun c_1 => ?_) (fun c_1 => ?_)
  · refine lv_iconst (v := iI (1)) hx hb dX7_isValue_12 rfl ?_
    refine lv_goto (tgt := 17) hx hb dX7_isValue_13 (by decide) ?_
    refine z_rretZ hx hb hr hlocks dX7_isValue_17 (by omega) ?_
    refine (bI_t ?_).symm
    omega
  · refine lv_iload_n hx hb dX7_isValue_5 rfl (lv_at hl 0 rfl) ?_
    refine z_roS (As := [.int (iI (t))]) (rest := []) ⟨hx, hb, hml, hown, hts⟩ (c_X7_isKey l D cI cZ cC (t) (by first | assumption | omega)) (va_cwS 1 hts gX7_isValue_X7_isKey rfl rfl rfl (by decide +kernel) ⟨Nat.le_of_ble_eq_true rfl, Nat.le_of_ble_eq_true rfl⟩) hP hK [] rfl rfl hl.1 rfl (Nat.le_of_ble_eq_true rfl) dX7_isValue_6 ⟨by omega, by omega⟩ ?_
    refine z_b_eq (tgt := 16) hx hb dX7_isValue_9 (by decide) (fun c_2 => ?_) (fun c_2 => ?_)
    · refine lv_iconst (v := iI (0)) hx hb dX7_isValue_16 rfl ?_
      refine z_rretZ hx hb hr hlocks dX7_isValue_17 (by omega) ?_
      refine (bI_f ?_).symm
      omega
    · refine lv_iconst (v := iI (1)) hx hb dX7_isValue_12 rfl ?_
      refine lv_goto (tgt := 17) hx hb dX7_isValue_13 (by decide) ?_
      refine z_rretZ hx hb hr hlocks dX7_isValue_17 (by omega) ?_
      refine (bI_t ?_).symm
      omega

set_option maxHeartbeats 600000 in
set_option maxRecDepth 100000 in
theorem c_X7_rowNumber (l : Launch) (D : va_G) (cI cZ cC : ClassId) (t k : Int) : zRo l yX7_rowNumber wsX7_rowNumber ({ frames := 0, cells := 0, slots := 0, locals := 0 }) D cI cZ cC [] [.int (iI (t)), .int (iI (k))] (t * 20 + k) := by
  refine z_ofRo (cc := cX7_rowNumber) (maxL := 2) (ret := (some .int)) RX7 (by decide +kernel) rfl rfl (Nat.le_of_ble_eq_true rfl) ?_
  intro p0 en0 s0 m0 args0 below0 meth0 c0 ls hx hb hr hlocks hml hown hts hP hK hl
  have hl : lv_has ls 2 [(0, .int (iI (t))), (1, .int (iI (k)))] := hl
  refine lv_iload_n hx hb dX7_rowNumber_0 rfl (lv_at hl 0 rfl) ?_
  refine lv_bipush (v := iI (20)) hx hb dX7_rowNumber_1 (by decide) ?_
  refine z_imul hx hb dX7_rowNumber_3 ?_
  refine lv_iload_n hx hb dX7_rowNumber_4 rfl (lv_at hl 1 rfl) ?_
  refine z_iadd hx hb dX7_rowNumber_5 ?_
  refine z_rret hx hb hr hlocks dX7_rowNumber_6 ?_
  rfl

set_option maxHeartbeats 600000 in
set_option maxRecDepth 100000 in
theorem c_X7_tableOfRow (l : Launch) (D : va_G) (cI cZ cC : ClassId) (r : Int) (g_r : 0 ≤ r ∧ r < 80) : zRo l yX7_tableOfRow wsX7_tableOfRow ({ frames := 0, cells := 0, slots := 0, locals := 0 }) D cI cZ cC [] [.int (iI (r))] (r / 20) := by
  refine z_ofRo (cc := cX7_tableOfRow) (maxL := 1) (ret := (some .int)) RX7 (by decide +kernel) rfl rfl (Nat.le_of_ble_eq_true rfl) ?_
  intro p0 en0 s0 m0 args0 below0 meth0 c0 ls hx hb hr hlocks hml hown hts hP hK hl
  have hl : lv_has ls 1 [(0, .int (iI (r)))] := hl
  refine lv_iload_n hx hb dX7_tableOfRow_0 rfl (lv_at hl 0 rfl) ?_
  refine lv_bipush (v := iI (20)) hx hb dX7_tableOfRow_1 (by decide) ?_
  refine z_idiv hx hb dX7_tableOfRow_3 (by omega) (by omega) ?_
  refine z_rret hx hb hr hlocks dX7_tableOfRow_4 ?_
  rfl

set_option maxHeartbeats 600000 in
set_option maxRecDepth 100000 in
theorem c_X7_constraintNumber (l : Launch) (D : va_G) (cI cZ cC : ClassId) (t k : Int) : zRo l yX7_constraintNumber wsX7_constraintNumber ({ frames := 0, cells := 0, slots := 0, locals := 0 }) D cI cZ cC [] [.int (iI (t)), .int (iI (k))] (t * 2 + k) := by
  refine z_ofRo (cc := cX7_constraintNumber) (maxL := 2) (ret := (some .int)) RX7 (by decide +kernel) rfl rfl (Nat.le_of_ble_eq_true rfl) ?_
  intro p0 en0 s0 m0 args0 below0 meth0 c0 ls hx hb hr hlocks hml hown hts hP hK hl
  have hl : lv_has ls 2 [(0, .int (iI (t))), (1, .int (iI (k)))] := hl
  refine lv_iload_n hx hb dX7_constraintNumber_0 rfl (lv_at hl 0 rfl) ?_
  refine lv_iconst (v := iI (2)) hx hb dX7_constraintNumber_1 rfl ?_
  refine z_imul hx hb dX7_constraintNumber_2 ?_
  refine lv_iload_n hx hb dX7_constraintNumber_3 rfl (lv_at hl 1 rfl) ?_
  refine z_iadd hx hb dX7_constraintNumber_4 ?_
  refine z_rret hx hb hr hlocks dX7_constraintNumber_5 ?_
  rfl

set_option maxHeartbeats 600000 in
set_option maxRecDepth 100000 in
theorem c_X7_tableOfConstraint (l : Launch) (D : va_G) (cI cZ cC : ClassId) (k : Int) (g_k : 0 ≤ k ∧ k < 8) : zRo l yX7_tableOfConstraint wsX7_tableOfConstraint ({ frames := 0, cells := 0, slots := 0, locals := 0 }) D cI cZ cC [] [.int (iI (k))] (k / 2) := by
  refine z_ofRo (cc := cX7_tableOfConstraint) (maxL := 1) (ret := (some .int)) RX7 (by decide +kernel) rfl rfl (Nat.le_of_ble_eq_true rfl) ?_
  intro p0 en0 s0 m0 args0 below0 meth0 c0 ls hx hb hr hlocks hml hown hts hP hK hl
  have hl : lv_has ls 1 [(0, .int (iI (k)))] := hl
  refine lv_iload_n hx hb dX7_tableOfConstraint_0 rfl (lv_at hl 0 rfl) ?_
  refine lv_iconst (v := iI (2)) hx hb dX7_tableOfConstraint_1 rfl ?_
  refine z_idiv hx hb dX7_tableOfConstraint_2 (by omega) (by omega) ?_
  refine z_rret hx hb hr hlocks dX7_tableOfConstraint_3 ?_
  rfl

set_option maxHeartbeats 600000 in
set_option maxRecDepth 100000 in
theorem c_X7_columnOfConstraint (l : Launch) (D : va_G) (cI cZ cC : ClassId) (k : Int) (g_k : 0 ≤ k ∧ k < 8) : zRo l yX7_columnOfConstraint wsX7_columnOfConstraint ({ frames := 0, cells := 0, slots := 0, locals := 0 }) D cI cZ cC [] [.int (iI (k))] (k % 2) := by
  refine z_ofRo (cc := cX7_columnOfConstraint) (maxL := 1) (ret := (some .int)) RX7 (by decide +kernel) rfl rfl (Nat.le_of_ble_eq_true rfl) ?_
  intro p0 en0 s0 m0 args0 below0 meth0 c0 ls hx hb hr hlocks hml hown hts hP hK hl
  have hl : lv_has ls 1 [(0, .int (iI (k)))] := hl
  refine lv_iload_n hx hb dX7_columnOfConstraint_0 rfl (lv_at hl 0 rfl) ?_
  refine lv_iconst (v := iI (2)) hx hb dX7_columnOfConstraint_1 rfl ?_
  refine z_irem hx hb dX7_columnOfConstraint_2 (by omega) (by omega) ?_
  refine z_rret hx hb hr hlocks dX7_columnOfConstraint_3 ?_
  rfl

set_option maxHeartbeats 600000 in
set_option maxRecDepth 100000 in
theorem c_X7_refusalBecauseOf (l : Launch) (D : va_G) (cI cZ cC : ClassId) (k : Int) : zRo l yX7_refusalBecauseOf wsX7_refusalBecauseOf ({ frames := 0, cells := 0, slots := 0, locals := 0 }) D cI cZ cC [] [.int (iI (k))] (-10 - k) := by
  refine z_ofRo (cc := cX7_refusalBecauseOf) (maxL := 1) (ret := (some .int)) RX7 (by decide +kernel) rfl rfl (Nat.le_of_ble_eq_true rfl) ?_
  intro p0 en0 s0 m0 args0 below0 meth0 c0 ls hx hb hr hlocks hml hown hts hP hK hl
  have hl : lv_has ls 1 [(0, .int (iI (k)))] := hl
  refine lv_bipush (v := iI (-10)) hx hb dX7_refusalBecauseOf_0 (by decide) ?_
  refine lv_iload_n hx hb dX7_refusalBecauseOf_2 rfl (lv_at hl 0 rfl) ?_
  refine z_isub hx hb dX7_refusalBecauseOf_3 ?_
  refine z_rret hx hb hr hlocks dX7_refusalBecauseOf_4 ?_
  rfl

set_option maxHeartbeats 600000 in
set_option maxRecDepth 100000 in
theorem c_X4_changeCount (l : Launch) (D : va_G) (cI cZ cC : ClassId) (ad : Nat → Nat) (be : Nat) (n : Int) : zRo l yX4_changeCount wsX4_changeCount ({ frames := 0, cells := 0, slots := 0, locals := 0 }) D cI cZ cC [(ad 1, .inr (4, [.ref (ad 2), .ref (be), .int (iI (n))]))] [.ref (ad 1)] (n) := by
  refine z_ofRo (cc := cX4_changeCount) (maxL := 1) (ret := (some .int)) RX4 (by decide +kernel) rfl rfl (Nat.le_of_ble_eq_true rfl) ?_
  intro p0 en0 s0 m0 args0 below0 meth0 c0 ls hx hb hr hlocks hml hown hts hP hK hl
  have hl : lv_has ls 1 [(0, .ref (ad 1))] := hl
  refine lv_aload_n hx hb dX4_changeCount_0 rfl (lv_at hl 0 rfl) ?_
  refine va_get (D := D) (ci := 4) (v := .int (iI (n))) (C := RX4) (T := TX4) (N := 3) hx hb hts (fun _ h => List.mem_cons_of_mem _ (List.mem_append_right _ (h))) hown hK.1 hP 0 rfl rfl 2 (by decide) (hts (.fieldLink RX4 18 "ForeignKeyStore$Rows" "changeCount" "I") (List.mem_of_getElem? (i := 1) rfl)) (fun _ h9 => h9) rfl dX4_changeCount_1 ?_
  refine z_rret hx hb hr hlocks dX4_changeCount_4 ?_
  rfl

set_option maxHeartbeats 600000 in
set_option maxRecDepth 100000 in
theorem c_X4_has (l : Launch) (D : va_G) (cI cZ cC : ClassId) (ad : Nat → Nat) (be : Nat) (n : Int) (V : Int → Int) (r : Int) (g_V : ∀ j : Int, 0 ≤ j → j < 160 → -2 ≤ V j ∧ V j ≤ 19) (g_r : ib r) : zRo l yX4_has wsX4_has ({ frames := 0, cells := 0, slots := 0, locals := 0 }) D cI cZ cC [(ad 1, .inr (4, [.ref (ad 2), .ref (be), .int (iI (n))])), (ad 2, .inl (cI, 160, .inl (iA (V))))] [.ref (ad 1), .int (iI (r))] (bI (hasR V r)) := by
  refine z_ofRo (cc := cX4_has) (maxL := 2) (ret := (some .boolean)) RX4 (by decide +kernel) rfl rfl (Nat.le_of_ble_eq_true rfl) ?_
  intro p0 en0 s0 m0 args0 below0 meth0 c0 ls hx hb hr hlocks hml hown hts hP hK hl
  have hl : lv_has ls 2 [(0, .ref (ad 1)), (1, .int (iI (r)))] := hl
  refine lv_iload_n hx hb dX4_has_0 rfl (lv_at hl 1 rfl) ?_
  refine z_if_lt (tgt := 27) hx hb dX4_has_1 (by decide) ⟨by omega, by omega⟩ (fun c_1 => ?_) (fun c_1 => ?_)
  · refine lv_iconst (v := iI (0)) hx hb dX4_has_27 rfl ?_
    refine z_rretZ hx hb hr hlocks dX4_has_28 (by omega) ?_
    refine (bI_f ?_).symm
    unfold hasR; omega
  · refine lv_iload_n hx hb dX4_has_4 rfl (lv_at hl 1 rfl) ?_
    refine lv_bipush (v := iI (80)) hx hb dX4_has_5 (by decide) ?_
    refine z_icmp_ge (tgt := 27) hx hb dX4_has_7 (by decide) ⟨⟨by omega, by omega⟩, ⟨by omega, by omega⟩⟩ (fun c_2 => ?_) (fun c_2 => ?_)
    · refine lv_iconst (v := iI (0)) hx hb dX4_has_27 rfl ?_
      refine z_rretZ hx hb hr hlocks dX4_has_28 (by omega) ?_
      refine (bI_f ?_).symm
      unfold hasR; omega
    · refine lv_aload_n hx hb dX4_has_10 rfl (lv_at hl 0 rfl) ?_
      refine va_get (D := D) (ci := 4) (v := .ref (ad 2)) (C := RX4) (T := TX4) (N := 3) hx hb hts (fun _ h => List.mem_cons_of_mem _ (List.mem_append_right _ (h))) hown hK.1 hP 0 rfl rfl 0 (by decide) (hts (.fieldLink RX4 9 "ForeignKeyStore$Rows" "values" "[I") (List.mem_of_getElem? (i := 1) rfl)) (fun _ h9 => h9) rfl dX4_has_11 ?_
      refine lv_iload_n hx hb dX4_has_14 rfl (lv_at hl 1 rfl) ?_
      refine lv_iconst (v := iI (2)) hx hb dX4_has_15 rfl ?_
      refine z_imul hx hb dX4_has_16 ?_
      refine z_iald hx hb hK.1 hP 1 0 rfl rfl (by omega) (by decide) dX4_has_17 ?_
      have hb_3 := g_V ((r * 2)) (by omega) (by omega)
      refine lv_bipush (v := iI (-2)) hx hb dX4_has_18 (by decide) ?_
      refine z_icmp_eq (tgt := 27) hx hb dX4_has_20 (by decide) ⟨⟨by omega, by omega⟩, ⟨by omega, by omega⟩⟩ (fun c_4 => ?_) (fun c_4 => ?_)
      · refine lv_iconst (v := iI (0)) hx hb dX4_has_27 rfl ?_
        refine z_rretZ hx hb hr hlocks dX4_has_28 (by omega) ?_
        refine (bI_f ?_).symm
        unfold hasR; omega
      · refine lv_iconst (v := iI (1)) hx hb dX4_has_23 rfl ?_
        refine lv_goto (tgt := 28) hx hb dX4_has_24 (by decide) ?_
        refine z_rretZ hx hb hr hlocks dX4_has_28 (by omega) ?_
        refine (bI_t ?_).symm
        unfold hasR; omega

set_option maxHeartbeats 600000 in
set_option maxRecDepth 100000 in
theorem c_X4_valueOf (l : Launch) (D : va_G) (cI cZ cC : ClassId) (ad : Nat → Nat) (be : Nat) (n : Int) (V : Int → Int) (r c : Int) (g_r : ib r) (g_c : ib c) : zRo l yX4_valueOf wsX4_valueOf ({ frames := 0, cells := 0, slots := 0, locals := 0 }) D cI cZ cC [(ad 1, .inr (4, [.ref (ad 2), .ref (be), .int (iI (n))])), (ad 2, .inl (cI, 160, .inl (iA (V))))] [.ref (ad 1), .int (iI (r)), .int (iI (c))] (vOf V r c) := by
  refine z_ofRo (cc := cX4_valueOf) (maxL := 3) (ret := (some .int)) RX4 (by decide +kernel) rfl rfl (Nat.le_of_ble_eq_true rfl) ?_
  intro p0 en0 s0 m0 args0 below0 meth0 c0 ls hx hb hr hlocks hml hown hts hP hK hl
  have hl : lv_has ls 3 [(0, .ref (ad 1)), (1, .int (iI (r))), (2, .int (iI (c)))] := hl
  refine lv_iload_n hx hb dX4_valueOf_0 rfl (lv_at hl 1 rfl) ?_
  refine z_if_lt (tgt := 19) hx hb dX4_valueOf_1 (by decide) ⟨by omega, by omega⟩ (fun c_1 => ?_) (fun c_1 => ?_)
  · refine lv_bipush (v := iI (-2)) hx hb dX4_valueOf_19 (by decide) ?_
    refine z_rret hx hb hr hlocks dX4_valueOf_21 ?_
    unfold vOf; split <;> omega
  · refine lv_iload_n hx hb dX4_valueOf_4 rfl (lv_at hl 1 rfl) ?_
    refine lv_bipush (v := iI (80)) hx hb dX4_valueOf_5 (by decide) ?_
    refine z_icmp_ge (tgt := 19) hx hb dX4_valueOf_7 (by decide) ⟨⟨by omega, by omega⟩, ⟨by omega, by omega⟩⟩ (fun c_2 => ?_) (fun c_2 => ?_)
    · refine lv_bipush (v := iI (-2)) hx hb dX4_valueOf_19 (by decide) ?_
      refine z_rret hx hb hr hlocks dX4_valueOf_21 ?_
      unfold vOf; split <;> omega
    · refine lv_iload_n hx hb dX4_valueOf_10 rfl (lv_at hl 2 rfl) ?_
      refine z_if_lt (tgt := 19) hx hb dX4_valueOf_11 (by decide) ⟨by omega, by omega⟩ (fun c_3 => ?_) (fun c_3 => ?_)
      · refine lv_bipush (v := iI (-2)) hx hb dX4_valueOf_19 (by decide) ?_
        refine z_rret hx hb hr hlocks dX4_valueOf_21 ?_
        unfold vOf; split <;> omega
      · refine lv_iload_n hx hb dX4_valueOf_14 rfl (lv_at hl 2 rfl) ?_
        refine lv_iconst (v := iI (2)) hx hb dX4_valueOf_15 rfl ?_
        refine z_icmp_lt (tgt := 22) hx hb dX4_valueOf_16 (by decide) ⟨⟨by omega, by omega⟩, ⟨by omega, by omega⟩⟩ (fun c_4 => ?_) (fun c_4 => ?_)
        · refine lv_aload_n hx hb dX4_valueOf_22 rfl (lv_at hl 0 rfl) ?_
          refine va_get (D := D) (ci := 4) (v := .ref (ad 2)) (C := RX4) (T := TX4) (N := 3) hx hb hts (fun _ h => List.mem_cons_of_mem _ (List.mem_append_right _ (h))) hown hK.1 hP 0 rfl rfl 0 (by decide) (hts (.fieldLink RX4 9 "ForeignKeyStore$Rows" "values" "[I") (List.mem_of_getElem? (i := 1) rfl)) (fun _ h9 => h9) rfl dX4_valueOf_23 ?_
          refine lv_iload_n hx hb dX4_valueOf_26 rfl (lv_at hl 1 rfl) ?_
          refine lv_iconst (v := iI (2)) hx hb dX4_valueOf_27 rfl ?_
          refine z_imul hx hb dX4_valueOf_28 ?_
          refine lv_iload_n hx hb dX4_valueOf_29 rfl (lv_at hl 2 rfl) ?_
          refine z_iadd hx hb dX4_valueOf_30 ?_
          refine z_iald hx hb hK.1 hP 1 0 rfl rfl (by omega) (by decide) dX4_valueOf_31 ?_
          refine z_rret hx hb hr hlocks dX4_valueOf_32 ?_
          unfold vOf; split <;> omega
        · refine lv_bipush (v := iI (-2)) hx hb dX4_valueOf_19 (by decide) ?_
          refine z_rret hx hb hr hlocks dX4_valueOf_21 ?_
          unfold vOf; split <;> omega

set_option maxHeartbeats 600000 in
set_option maxRecDepth 100000 in
theorem c_X4_countIn (l : Launch) (D : va_G) (cI cZ cC : ClassId) (ad : Nat → Nat) (be : Nat) (n : Int) (V : Int → Int) (t : Int) (g_V : ∀ j : Int, 0 ≤ j → j < 160 → -2 ≤ V j ∧ V j ≤ 19) (g_t : 0 ≤ t ∧ t < 4) : zRo l yX4_countIn wsX4_countIn ({ frames := 1, cells := 0, slots := 0, locals := 21 }) D cI cZ cC [(ad 1, .inr (4, [.ref (ad 2), .ref (be), .int (iI (n))])), (ad 2, .inl (cI, 160, .inl (iA (V))))] [.ref (ad 1), .int (iI (t))] (sumN (fun k => bI (hasR V (t * 20 + k))) 20) := by
  refine z_ofRo (cc := cX4_countIn) (maxL := 4) (ret := (some .int)) RX4 (by decide +kernel) rfl rfl (Nat.le_of_ble_eq_true rfl) ?_
  intro p0 en0 s0 m0 args0 below0 meth0 c0 ls hx hb hr hlocks hml hown hts hP hK hl
  have hl : lv_has ls 4 [(0, .ref (ad 1)), (1, .int (iI (t)))] := hl
  refine lv_iconst (v := iI (0)) hx hb dX4_countIn_0 rfl ?_
  refine lv_istore_n (lv' := [(2, .int (iI (0))), (0, .ref (ad 1)), (1, .int (iI (t)))]) hx hb dX4_countIn_1 rfl hl (by decide) rfl (fun ls hl => ?_)
  refine lv_iconst (v := iI (0)) hx hb dX4_countIn_2 rfl ?_
  refine lv_istore_n (lv' := [(3, .int (iI (0))), (2, .int (iI (0))), (0, .ref (ad 1)), (1, .int (iI (t)))]) hx hb dX4_countIn_3 rfl hl (by decide) rfl (fun ls hl => ?_)
  have loop4 : ∀ (fu : Nat) (i : Nat) (cnt : Int), (g_i : i ≤ 20) → (g_n : 20 < i + fu) → (g_c : cnt = sumN (fun k => bI (hasR V (t * 20 + k))) i) → ∀ ls : Array Slot, lv_has ls 4 [(3, .int (iI ((i : Int)))), (2, .int (iI (cnt))), (0, .ref (ad 1)), (1, .int (iI (t)))] → W p0 l en0 (headSpec wsX4_countIn ({ frames := 1, cells := 0, slots := 0, locals := 21 })).room s0 m0 args0 below0 meth0 c0 s0.heap [] 0 0 (QRo below0 (sumN (fun k => bI (hasR V (t * 20 + k))) 20) args0 s0) (F0 m0 4 ls []) := by
    intro fu
    induction fu with
    | zero => intro i cnt g_i g_n g_c ls hl; exfalso; omega
    | succ fu ih4 =>
      intro i cnt g_i g_n g_c ls hl
      refine lv_iload_n hx hb dX4_countIn_4 rfl (lv_at hl 0 rfl) ?_
      refine lv_bipush (v := iI (20)) hx hb dX4_countIn_5 (by decide) ?_
      refine z_icmp_ge (tgt := 31) hx hb dX4_countIn_7 (by decide) ⟨⟨by omega, by omega⟩, ⟨by omega, by omega⟩⟩ (fun c_1 => ?_) (fun c_1 => ?_)
      · refine lv_iload_n hx hb dX4_countIn_31 rfl (lv_at hl 1 rfl) ?_
        refine z_rret hx hb hr hlocks dX4_countIn_32 ?_
        rw [g_c]; congr 1; omega
      · refine lv_aload_n hx hb dX4_countIn_10 rfl (lv_at hl 2 rfl) ?_
        refine lv_iload_n hx hb dX4_countIn_11 rfl (lv_at hl 3 rfl) ?_
        refine lv_iload_n hx hb dX4_countIn_12 rfl (lv_at hl 0 rfl) ?_
        refine z_roN (As := [.int (iI (t)), .int (iI ((i : Int)))]) (rest := [.ref (ad 1)]) ⟨hx, hb, hml, hown, hts⟩ (c_X7_rowNumber l D cI cZ cC (t) ((i : Int)) ) ⟨va_cnB (host := RX7) 2 hts gX4_countIn_X7_rowNumber_n22 rfl rfl rfl (hK.2 _ (List.mem_of_getElem? (i := 12) rfl)) (hts (.initialized RX7) (List.mem_of_getElem? (i := 2) rfl)) (by decide +kernel) ⟨Nat.le_of_ble_eq_true rfl, Nat.le_of_ble_eq_true rfl⟩, (hts (.static yX7_rowNumber) (List.mem_of_getElem? (i := 1) rfl)), trivial⟩ hP hK [] rfl rfl hl.1 rfl (Nat.le_of_ble_eq_true rfl) dX4_countIn_13 ⟨by omega, by omega⟩ ?_
        refine z_roV (As := [.int (iI ((t * 20 + ((i : Int)))))]) (rest := []) ⟨hx, hb, hml, hown, hts⟩ (c_X4_has l D cI cZ cC (ad) (be) (n) (V) ((t * 20 + ((i : Int)))) (by first | assumption | omega) (by first | assumption | omega)) (cwV 1 hts gX4_countIn_X4_has rfl rfl rfl (by decide +kernel) ⟨Nat.le_of_ble_eq_true rfl, Nat.le_of_ble_eq_true rfl⟩) hP hK [0, 1] rfl 0 4 rfl rfl rfl rfl hl.1 rfl (Nat.le_of_ble_eq_true rfl) dX4_countIn_16 ⟨by omega, by omega⟩ ?_
        refine z_b_eq (tgt := 25) hx hb dX4_countIn_19 (by decide) (fun c_2 => ?_) (fun c_2 => ?_)
        · refine lv_iinc (v := iI ((i : Int) + 1)) (lv' := [(3, .int (iI ((i : Int) + 1))), (2, .int (iI (cnt))), (0, .ref (ad 1)), (1, .int (iI (t)))]) hx hb dX4_countIn_25 hl (k := 0) rfl (iI_add ((i : Int)) (1)) (by decide) rfl (fun ls hl => ?_)
          refine lv_goto (tgt := 4) hx hb dX4_countIn_28 (by decide) ?_
          exact ih4 (i + 1) _ (by omega) (by omega) (sum_f g_c rfl c_2) _ (lv_sub hl [0, 1, 2, 3] rfl)
        · refine lv_iinc (v := iI (cnt + 1)) (lv' := [(2, .int (iI (cnt + 1))), (3, .int (iI ((i : Int)))), (0, .ref (ad 1)), (1, .int (iI (t)))]) hx hb dX4_countIn_22 hl (k := 1) rfl (iI_add (cnt) (1)) (by decide) rfl (fun ls hl => ?_)
          refine lv_iinc (v := iI ((i : Int) + 1)) (lv' := [(3, .int (iI ((i : Int) + 1))), (2, .int (iI (cnt + 1))), (0, .ref (ad 1)), (1, .int (iI (t)))]) hx hb dX4_countIn_25 hl (k := 1) rfl (iI_add ((i : Int)) (1)) (by decide) rfl (fun ls hl => ?_)
          refine lv_goto (tgt := 4) hx hb dX4_countIn_28 (by decide) ?_
          exact ih4 (i + 1) _ (by omega) (by omega) (sum_t g_c rfl c_2) _ (lv_sub hl [0, 1, 2, 3] rfl)
  exact loop4 21 0 0 (by omega) (by omega) rfl _ (lv_sub hl [0, 1, 2, 3] rfl)

set_option maxHeartbeats 600000 in
set_option maxRecDepth 100000 in
theorem c_X0_parentOf (l : Launch) (D : va_G) (cI cZ cC : ClassId) (ad : Nat → Nat) (P : Int → Int) (k : Int) (g_k : ib k) : zRo l yX0_parentOf wsX0_parentOf ({ frames := 0, cells := 0, slots := 0, locals := 0 }) D cI cZ cC [(ad 4, .inr (0, [.ref (ad 1), .ref (ad 5), .ref (ad 6), .ref (ad 7)])), (ad 5, .inl (cI, 8, .inl (iA (P))))] [.ref (ad 4), .int (iI (k))] (inP P k) := by
  refine z_ofRo (cc := cX0_parentOf) (maxL := 2) (ret := (some .int)) RX0 (by decide +kernel) rfl rfl (Nat.le_of_ble_eq_true rfl) ?_
  intro p0 en0 s0 m0 args0 below0 meth0 c0 ls hx hb hr hlocks hml hown hts hP hK hl
  have hl : lv_has ls 2 [(0, .ref (ad 4)), (1, .int (iI (k)))] := hl
  refine lv_iload_n hx hb dX0_parentOf_0 rfl (lv_at hl 1 rfl) ?_
  refine z_if_lt (tgt := 19) hx hb dX0_parentOf_1 (by decide) ⟨by omega, by omega⟩ (fun c_1 => ?_) (fun c_1 => ?_)
  · refine lv_bipush (v := iI (-2)) hx hb dX0_parentOf_19 (by decide) ?_
    refine z_rret hx hb hr hlocks dX0_parentOf_21 ?_
    unfold inP; split <;> omega
  · refine lv_iload_n hx hb dX0_parentOf_4 rfl (lv_at hl 1 rfl) ?_
    refine lv_bipush (v := iI (8)) hx hb dX0_parentOf_5 (by decide) ?_
    refine z_icmp_ge (tgt := 19) hx hb dX0_parentOf_7 (by decide) ⟨⟨by omega, by omega⟩, ⟨by omega, by omega⟩⟩ (fun c_2 => ?_) (fun c_2 => ?_)
    · refine lv_bipush (v := iI (-2)) hx hb dX0_parentOf_19 (by decide) ?_
      refine z_rret hx hb hr hlocks dX0_parentOf_21 ?_
      unfold inP; split <;> omega
    · refine lv_aload_n hx hb dX0_parentOf_10 rfl (lv_at hl 0 rfl) ?_
      refine va_get (D := D) (ci := 0) (v := .ref (ad 5)) (C := RX0) (T := TX0) (N := 4) hx hb hts (fun _ h => List.mem_cons_of_mem _ (List.mem_append_right _ (h))) hown hK.1 hP 0 rfl rfl 1 (by decide) (hts (.fieldLink RX0 9 "ForeignKeyStore$Constraints" "parents" "[I") (List.mem_of_getElem? (i := 1) rfl)) (fun _ h9 => h9) rfl dX0_parentOf_11 ?_
      refine lv_iload_n hx hb dX0_parentOf_14 rfl (lv_at hl 1 rfl) ?_
      refine z_iald hx hb hK.1 hP 1 0 rfl rfl (by omega) (by decide) dX0_parentOf_15 ?_
      refine lv_goto (tgt := 21) hx hb dX0_parentOf_16 (by decide) ?_
      refine z_rret hx hb hr hlocks dX0_parentOf_21 ?_
      unfold inP; split <;> omega

set_option maxHeartbeats 600000 in
set_option maxRecDepth 100000 in
theorem c_X0_actionOf (l : Launch) (D : va_G) (cI cZ cC : ClassId) (ad : Nat → Nat) (Ac : Int → Int) (k : Int) (g_k : ib k) : zRo l yX0_actionOf wsX0_actionOf ({ frames := 0, cells := 0, slots := 0, locals := 0 }) D cI cZ cC [(ad 4, .inr (0, [.ref (ad 1), .ref (ad 5), .ref (ad 6), .ref (ad 7)])), (ad 6, .inl (cI, 8, .inl (iA (Ac))))] [.ref (ad 4), .int (iI (k))] (inA Ac k) := by
  refine z_ofRo (cc := cX0_actionOf) (maxL := 2) (ret := (some .int)) RX0 (by decide +kernel) rfl rfl (Nat.le_of_ble_eq_true rfl) ?_
  intro p0 en0 s0 m0 args0 below0 meth0 c0 ls hx hb hr hlocks hml hown hts hP hK hl
  have hl : lv_has ls 2 [(0, .ref (ad 4)), (1, .int (iI (k)))] := hl
  refine lv_iload_n hx hb dX0_actionOf_0 rfl (lv_at hl 1 rfl) ?_
  refine z_if_lt (tgt := 19) hx hb dX0_actionOf_1 (by decide) ⟨by omega, by omega⟩ (fun c_1 => ?_) (fun c_1 => ?_)
  · refine lv_iconst (v := iI (1)) hx hb dX0_actionOf_19 rfl ?_
    refine z_rret hx hb hr hlocks dX0_actionOf_20 ?_
    unfold inA; split <;> omega
  · refine lv_iload_n hx hb dX0_actionOf_4 rfl (lv_at hl 1 rfl) ?_
    refine lv_bipush (v := iI (8)) hx hb dX0_actionOf_5 (by decide) ?_
    refine z_icmp_ge (tgt := 19) hx hb dX0_actionOf_7 (by decide) ⟨⟨by omega, by omega⟩, ⟨by omega, by omega⟩⟩ (fun c_2 => ?_) (fun c_2 => ?_)
    · refine lv_iconst (v := iI (1)) hx hb dX0_actionOf_19 rfl ?_
      refine z_rret hx hb hr hlocks dX0_actionOf_20 ?_
      unfold inA; split <;> omega
    · refine lv_aload_n hx hb dX0_actionOf_10 rfl (lv_at hl 0 rfl) ?_
      refine va_get (D := D) (ci := 0) (v := .ref (ad 6)) (C := RX0) (T := TX0) (N := 4) hx hb hts (fun _ h => List.mem_cons_of_mem _ (List.mem_append_right _ (h))) hown hK.1 hP 0 rfl rfl 2 (by decide) (hts (.fieldLink RX0 15 "ForeignKeyStore$Constraints" "actions" "[I") (List.mem_of_getElem? (i := 1) rfl)) (fun _ h9 => h9) rfl dX0_actionOf_11 ?_
      refine lv_iload_n hx hb dX0_actionOf_14 rfl (lv_at hl 1 rfl) ?_
      refine z_iald hx hb hK.1 hP 1 0 rfl rfl (by omega) (by decide) dX0_actionOf_15 ?_
      refine lv_goto (tgt := 20) hx hb dX0_actionOf_16 (by decide) ?_
      refine z_rret hx hb hr hlocks dX0_actionOf_20 ?_
      unfold inA; split <;> omega

set_option maxHeartbeats 600000 in
set_option maxRecDepth 100000 in
theorem c_X0_isDeferred (l : Launch) (D : va_G) (cI cZ cC : ClassId) (ad : Nat → Nat) (Mo : Int → Int) (k : Int) (g_Mo : ∀ j : Int, 0 ≤ j → j < 8 → Mo j = 0 ∨ Mo j = 1) (g_k : ib k) : zRo l yX0_isDeferred wsX0_isDeferred ({ frames := 0, cells := 0, slots := 0, locals := 0 }) D cI cZ cC [(ad 4, .inr (0, [.ref (ad 1), .ref (ad 5), .ref (ad 6), .ref (ad 7)])), (ad 7, .inl (cZ, 8, .inl (iA (Mo))))] [.ref (ad 4), .int (iI (k))] (bI (0 ≤ k ∧ k < 8 ∧ ¬ Mo k = 0)) := by
  refine z_ofRo (cc := cX0_isDeferred) (maxL := 2) (ret := (some .boolean)) RX0 (by decide +kernel) rfl rfl (Nat.le_of_ble_eq_true rfl) ?_
  intro p0 en0 s0 m0 args0 below0 meth0 c0 ls hx hb hr hlocks hml hown hts hP hK hl
  have hl : lv_has ls 2 [(0, .ref (ad 4)), (1, .int (iI (k)))] := hl
  refine lv_iload_n hx hb dX0_isDeferred_0 rfl (lv_at hl 1 rfl) ?_
  refine z_if_lt (tgt := 23) hx hb dX0_isDeferred_1 (by decide) ⟨by omega, by omega⟩ (fun c_1 => ?_) (fun c_1 => ?_)
  · refine lv_iconst (v := iI (0)) hx hb dX0_isDeferred_23 rfl ?_
    refine z_rretZ hx hb hr hlocks dX0_isDeferred_24 (by omega) ?_
    refine (bI_f ?_).symm
    omega
  · refine lv_iload_n hx hb dX0_isDeferred_4 rfl (lv_at hl 1 rfl) ?_
    refine lv_bipush (v := iI (8)) hx hb dX0_isDeferred_5 (by decide) ?_
    refine z_icmp_ge (tgt := 23) hx hb dX0_isDeferred_7 (by decide) ⟨⟨by omega, by omega⟩, ⟨by omega, by omega⟩⟩ (fun c_2 => ?_) (fun c_2 => ?_)
    · refine lv_iconst (v := iI (0)) hx hb dX0_isDeferred_23 rfl ?_
      refine z_rretZ hx hb hr hlocks dX0_isDeferred_24 (by omega) ?_
      refine (bI_f ?_).symm
      omega
    · refine lv_aload_n hx hb dX0_isDeferred_10 rfl (lv_at hl 0 rfl) ?_
      refine va_get (D := D) (ci := 0) (v := .ref (ad 7)) (C := RX0) (T := TX0) (N := 4) hx hb hts (fun _ h => List.mem_cons_of_mem _ (List.mem_append_right _ (h))) hown hK.1 hP 0 rfl rfl 3 (by decide) (hts (.fieldLink RX0 18 "ForeignKeyStore$Constraints" "modes" "[Z") (List.mem_of_getElem? (i := 1) rfl)) (fun _ h9 => h9) rfl dX0_isDeferred_11 ?_
      refine lv_iload_n hx hb dX0_isDeferred_14 rfl (lv_at hl 1 rfl) ?_
      refine z_zald hx hb hK.1 hP 1 1 rfl rfl (by omega) (by decide) dX0_isDeferred_15 ?_
      have hb_3 := g_Mo (k) (by omega) (by omega)
      refine z_if_eq (tgt := 23) hx hb dX0_isDeferred_16 (by decide) ⟨by omega, by omega⟩ (fun c_4 => ?_) (fun c_4 => ?_)
      · refine lv_iconst (v := iI (0)) hx hb dX0_isDeferred_23 rfl ?_
        refine z_rretZ hx hb hr hlocks dX0_isDeferred_24 (by omega) ?_
        refine (bI_f ?_).symm
        omega
      · refine lv_iconst (v := iI (1)) hx hb dX0_isDeferred_19 rfl ?_
        refine lv_goto (tgt := 24) hx hb dX0_isDeferred_20 (by decide) ?_
        refine z_rretZ hx hb hr hlocks dX0_isDeferred_24 (by omega) ?_
        refine (bI_t ?_).symm
        omega

set_option maxHeartbeats 600000 in
set_option maxRecDepth 100000 in
theorem c_X0_isDefined (l : Launch) (D : va_G) (cI cZ cC : ClassId) (ad : Nat → Nat) (P : Int → Int) (k : Int) (g_P : ∀ j : Int, 0 ≤ j → j < 8 → P j = -2 ∨ (0 ≤ P j ∧ P j < 4)) (g_k : ib k) : zRo l yX0_isDefined wsX0_isDefined ({ frames := 1, cells := 0, slots := 0, locals := 21 }) D cI cZ cC [(ad 4, .inr (0, [.ref (ad 1), .ref (ad 5), .ref (ad 6), .ref (ad 7)])), (ad 5, .inl (cI, 8, .inl (iA (P))))] [.ref (ad 4), .int (iI (k))] (bI (¬ inP P k = -2)) := by
  refine z_ofRo (cc := cX0_isDefined) (maxL := 2) (ret := (some .boolean)) RX0 (by decide +kernel) rfl rfl (Nat.le_of_ble_eq_true rfl) ?_
  intro p0 en0 s0 m0 args0 below0 meth0 c0 ls hx hb hr hlocks hml hown hts hP hK hl
  have hl : lv_has ls 2 [(0, .ref (ad 4)), (1, .int (iI (k)))] := hl
  refine lv_aload_n hx hb dX0_isDefined_0 rfl (lv_at hl 0 rfl) ?_
  refine lv_iload_n hx hb dX0_isDefined_1 rfl (lv_at hl 1 rfl) ?_
  refine z_roV (As := [.int (iI (k))]) (rest := []) ⟨hx, hb, hml, hown, hts⟩ (c_X0_parentOf l D cI cZ cC (ad) (P) (k) (by first | assumption | omega)) (cwV 1 hts gX0_isDefined_X0_parentOf rfl rfl rfl (by decide +kernel) ⟨Nat.le_of_ble_eq_true rfl, Nat.le_of_ble_eq_true rfl⟩) hP hK [0, 1] rfl 0 0 rfl rfl rfl rfl hl.1 rfl (Nat.le_of_ble_eq_true rfl) dX0_isDefined_2 ⟨by omega, by omega⟩ ?_
  have hf_1 := inP_b g_P (k)
  refine lv_bipush (v := iI (-2)) hx hb dX0_isDefined_5 (by decide) ?_
  refine z_icmp_eq (tgt := 14) hx hb dX0_isDefined_7 (by decide) ⟨⟨by omega, by omega⟩, ⟨by omega, by omega⟩⟩ (fun c_2 => ?_) (fun c_2 => ?_)
  · refine lv_iconst (v := iI (0)) hx hb dX0_isDefined_14 rfl ?_
    refine z_rretZ hx hb hr hlocks dX0_isDefined_15 (by omega) ?_
    refine (bI_f ?_).symm
    omega
  · refine lv_iconst (v := iI (1)) hx hb dX0_isDefined_10 rfl ?_
    refine lv_goto (tgt := 15) hx hb dX0_isDefined_11 (by decide) ?_
    refine z_rretZ hx hb hr hlocks dX0_isDefined_15 (by omega) ?_
    refine (bI_t ?_).symm
    omega

set_option maxHeartbeats 600000 in
set_option maxRecDepth 100000 in
theorem c_X0_count (l : Launch) (D : va_G) (cI cZ cC : ClassId) (ad : Nat → Nat) (P : Int → Int) (g_P : ∀ j : Int, 0 ≤ j → j < 8 → P j = -2 ∨ (0 ≤ P j ∧ P j < 4)) : zRo l yX0_count wsX0_count ({ frames := 2, cells := 0, slots := 0, locals := 42 }) D cI cZ cC [(ad 4, .inr (0, [.ref (ad 1), .ref (ad 5), .ref (ad 6), .ref (ad 7)])), (ad 5, .inl (cI, 8, .inl (iA (P))))] [.ref (ad 4)] (sumN (fun i => bI (¬ inP P i = -2)) 8) := by
  refine z_ofRo (cc := cX0_count) (maxL := 3) (ret := (some .int)) RX0 (by decide +kernel) rfl rfl (Nat.le_of_ble_eq_true rfl) ?_
  intro p0 en0 s0 m0 args0 below0 meth0 c0 ls hx hb hr hlocks hml hown hts hP hK hl
  have hl : lv_has ls 3 [(0, .ref (ad 4))] := hl
  refine lv_iconst (v := iI (0)) hx hb dX0_count_0 rfl ?_
  refine lv_istore_n (lv' := [(1, .int (iI (0))), (0, .ref (ad 4))]) hx hb dX0_count_1 rfl hl (by decide) rfl (fun ls hl => ?_)
  refine lv_iconst (v := iI (0)) hx hb dX0_count_2 rfl ?_
  refine lv_istore_n (lv' := [(2, .int (iI (0))), (1, .int (iI (0))), (0, .ref (ad 4))]) hx hb dX0_count_3 rfl hl (by decide) rfl (fun ls hl => ?_)
  have loop4 : ∀ (fu : Nat) (i : Nat) (cnt : Int), (g_i : i ≤ 8) → (g_n : 8 < i + fu) → (g_c : cnt = sumN (fun i => bI (¬ inP P i = -2)) i) → ∀ ls : Array Slot, lv_has ls 3 [(2, .int (iI ((i : Int)))), (1, .int (iI (cnt))), (0, .ref (ad 4))] → W p0 l en0 (headSpec wsX0_count ({ frames := 2, cells := 0, slots := 0, locals := 42 })).room s0 m0 args0 below0 meth0 c0 s0.heap [] 0 0 (QRo below0 (sumN (fun i => bI (¬ inP P i = -2)) 8) args0 s0) (F0 m0 4 ls []) := by
    intro fu
    induction fu with
    | zero => intro i cnt g_i g_n g_c ls hl; exfalso; omega
    | succ fu ih4 =>
      intro i cnt g_i g_n g_c ls hl
      refine lv_iload_n hx hb dX0_count_4 rfl (lv_at hl 0 rfl) ?_
      refine lv_bipush (v := iI (8)) hx hb dX0_count_5 (by decide) ?_
      refine z_icmp_ge (tgt := 27) hx hb dX0_count_7 (by decide) ⟨⟨by omega, by omega⟩, ⟨by omega, by omega⟩⟩ (fun c_1 => ?_) (fun c_1 => ?_)
      · refine lv_iload_n hx hb dX0_count_27 rfl (lv_at hl 1 rfl) ?_
        refine z_rret hx hb hr hlocks dX0_count_28 ?_
        rw [g_c]; congr 1; omega
      · refine lv_aload_n hx hb dX0_count_10 rfl (lv_at hl 2 rfl) ?_
        refine lv_iload_n hx hb dX0_count_11 rfl (lv_at hl 0 rfl) ?_
        refine z_roV (As := [.int (iI ((i : Int)))]) (rest := []) ⟨hx, hb, hml, hown, hts⟩ (c_X0_isDefined l D cI cZ cC (ad) (P) ((i : Int)) (by first | assumption | omega) (by first | assumption | omega)) (cwV 1 hts gX0_count_X0_isDefined rfl rfl rfl (by decide +kernel) ⟨Nat.le_of_ble_eq_true rfl, Nat.le_of_ble_eq_true rfl⟩) hP hK [0, 1] rfl 0 0 rfl rfl rfl rfl hl.1 rfl (Nat.le_of_ble_eq_true rfl) dX0_count_12 ⟨by omega, by omega⟩ ?_
        refine z_b_eq (tgt := 21) hx hb dX0_count_15 (by decide) (fun c_2 => ?_) (fun c_2 => ?_)
        · refine lv_iinc (v := iI ((i : Int) + 1)) (lv' := [(2, .int (iI ((i : Int) + 1))), (1, .int (iI (cnt))), (0, .ref (ad 4))]) hx hb dX0_count_21 hl (k := 0) rfl (iI_add ((i : Int)) (1)) (by decide) rfl (fun ls hl => ?_)
          refine lv_goto (tgt := 4) hx hb dX0_count_24 (by decide) ?_
          exact ih4 (i + 1) _ (by omega) (by omega) (sum_f g_c rfl c_2) _ (lv_sub hl [0, 1, 2] rfl)
        · refine lv_iinc (v := iI (cnt + 1)) (lv' := [(1, .int (iI (cnt + 1))), (2, .int (iI ((i : Int)))), (0, .ref (ad 4))]) hx hb dX0_count_18 hl (k := 1) rfl (iI_add (cnt) (1)) (by decide) rfl (fun ls hl => ?_)
          refine lv_iinc (v := iI ((i : Int) + 1)) (lv' := [(2, .int (iI ((i : Int) + 1))), (1, .int (iI (cnt + 1))), (0, .ref (ad 4))]) hx hb dX0_count_21 hl (k := 1) rfl (iI_add ((i : Int)) (1)) (by decide) rfl (fun ls hl => ?_)
          refine lv_goto (tgt := 4) hx hb dX0_count_24 (by decide) ?_
          exact ih4 (i + 1) _ (by omega) (by omega) (sum_t g_c rfl c_2) _ (lv_sub hl [0, 1, 2] rfl)
  exact loop4 9 0 0 (by omega) (by omega) rfl _ (lv_sub hl [0, 1, 2] rfl)

set_option maxHeartbeats 600000 in
set_option maxRecDepth 100000 in
theorem c_X0_targetOf (l : Launch) (D : va_G) (cI cZ cC : ClassId) (ad : Nat → Nat) (be : Nat) (n : Int) (P V : Int → Int) (k r : Int) (g_V : ∀ j : Int, 0 ≤ j → j < 160 → -2 ≤ V j ∧ V j ≤ 19) (g_P : ∀ j : Int, 0 ≤ j → j < 8 → P j = -2 ∨ (0 ≤ P j ∧ P j < 4)) (g_k : 0 ≤ k ∧ k < 8) (g_r : ib r) : zRo l yX0_targetOf wsX0_targetOf ({ frames := 1, cells := 0, slots := 0, locals := 22 }) D cI cZ cC [(ad 4, .inr (0, [.ref (ad 1), .ref (ad 5), .ref (ad 6), .ref (ad 7)])), (ad 5, .inl (cI, 8, .inl (iA (P)))), (ad 1, .inr (4, [.ref (ad 2), .ref (be), .int (iI (n))])), (ad 2, .inl (cI, 160, .inl (iA (V))))] [.ref (ad 4), .int (iI (k)), .int (iI (r))] (tgt P V k r) := by
  refine z_ofRo (cc := cX0_targetOf) (maxL := 5) (ret := (some .int)) RX0 (by decide +kernel) rfl rfl (Nat.le_of_ble_eq_true rfl) ?_
  intro p0 en0 s0 m0 args0 below0 meth0 c0 ls hx hb hr hlocks hml hown hts hP hK hl
  have hl : lv_has ls 5 [(0, .ref (ad 4)), (1, .int (iI (k))), (2, .int (iI (r)))] := hl
  refine lv_aload_n hx hb dX0_targetOf_0 rfl (lv_at hl 0 rfl) ?_
  refine lv_iload_n hx hb dX0_targetOf_1 rfl (lv_at hl 1 rfl) ?_
  refine z_roV (As := [.int (iI (k))]) (rest := []) ⟨hx, hb, hml, hown, hts⟩ (c_X0_parentOf l D cI cZ cC (ad) (P) (k) (by first | assumption | omega)) (cwV 1 hts gX0_targetOf_X0_parentOf rfl rfl rfl (by decide +kernel) ⟨Nat.le_of_ble_eq_true rfl, Nat.le_of_ble_eq_true rfl⟩) hP hK [0, 1] rfl 0 0 rfl rfl rfl rfl hl.1 rfl (Nat.le_of_ble_eq_true rfl) dX0_targetOf_2 ⟨by omega, by omega⟩ ?_
  have hf_1 := inP_b g_P (k)
  refine lv_istore_n (lv' := [(3, .int (iI ((inP P k)))), (0, .ref (ad 4)), (1, .int (iI (k))), (2, .int (iI (r)))]) hx hb dX0_targetOf_5 rfl hl (by decide) rfl (fun ls hl => ?_)
  refine lv_aload_n hx hb dX0_targetOf_6 rfl (lv_at hl 1 rfl) ?_
  refine va_get (D := D) (ci := 0) (v := .ref (ad 1)) (C := RX0) (T := TX0) (N := 4) hx hb hts (fun _ h => List.mem_cons_of_mem _ (List.mem_append_left _ (List.mem_append_right _ (h)))) hown hK.1 hP 0 rfl rfl 0 (by decide) (hts (.fieldLink RX0 22 "ForeignKeyStore$Constraints" "rows" "LForeignKeyStore$Rows;") (List.mem_of_getElem? (i := 1) rfl)) (fun _ h9 => h9) rfl dX0_targetOf_7 ?_
  refine lv_iload_n hx hb dX0_targetOf_10 rfl (lv_at hl 3 rfl) ?_
  refine lv_iload_n hx hb dX0_targetOf_11 rfl (lv_at hl 2 rfl) ?_
  refine z_roN (As := [.int (iI (k))]) (rest := [.int (iI (r)), .ref (ad 1)]) ⟨hx, hb, hml, hown, hts⟩ (c_X7_columnOfConstraint l D cI cZ cC (k) (by first | assumption | omega)) ⟨va_cnB (host := RX7) 1 hts gX0_targetOf_X7_columnOfConstraint_n38 rfl rfl rfl (hK.2 _ (List.mem_of_getElem? (i := 6) rfl)) (hts (.initialized RX7) (List.mem_of_getElem? (i := 9) rfl)) (by decide +kernel) ⟨Nat.le_of_ble_eq_true rfl, Nat.le_of_ble_eq_true rfl⟩, (hts (.static yX7_columnOfConstraint) (List.mem_of_getElem? (i := 8) rfl)), trivial⟩ hP hK [] rfl rfl hl.1 rfl (Nat.le_of_ble_eq_true rfl) dX0_targetOf_12 ⟨by omega, by omega⟩ ?_
  refine z_roV (As := [.int (iI (r)), .int (iI ((k % 2)))]) (rest := []) ⟨hx, hb, hml, hown, hts⟩ (c_X4_valueOf l D cI cZ cC (ad) (be) (n) (V) (r) ((k % 2)) (by first | assumption | omega) (by first | assumption | omega)) (cwV 2 hts gX0_targetOf_X4_valueOf rfl rfl rfl (by decide +kernel) ⟨Nat.le_of_ble_eq_true rfl, Nat.le_of_ble_eq_true rfl⟩) hP hK [2, 3] rfl 2 4 rfl rfl rfl rfl hl.1 rfl (Nat.le_of_ble_eq_true rfl) dX0_targetOf_15 ⟨by omega, by omega⟩ ?_
  have hf_2 := vOf_b g_V (r) (((k % 2)))
  refine lv_istore (lv' := [(4, .int (iI ((vOf V r ((k % 2)))))), (3, .int (iI ((inP P k)))), (0, .ref (ad 4)), (1, .int (iI (k))), (2, .int (iI (r)))]) hx hb dX0_targetOf_18 hl (by decide) rfl (fun ls hl => ?_)
  refine lv_iload_n hx hb dX0_targetOf_20 rfl (lv_at hl 1 rfl) ?_
  refine lv_bipush (v := iI (-2)) hx hb dX0_targetOf_21 (by decide) ?_
  refine z_icmp_eq (tgt := 31) hx hb dX0_targetOf_23 (by decide) ⟨⟨by omega, by omega⟩, ⟨by omega, by omega⟩⟩ (fun c_3 => ?_) (fun c_3 => ?_)
  · refine lv_bipush (v := iI (-2)) hx hb dX0_targetOf_31 (by decide) ?_
    refine lv_goto (tgt := 42) hx hb dX0_targetOf_33 (by decide) ?_
    refine z_rret hx hb hr hlocks dX0_targetOf_42 ?_
    unfold tgt; split <;> omega
  · refine lv_iload hx hb dX0_targetOf_26 (lv_at hl 0 rfl) ?_
    refine z_if_ge (tgt := 36) hx hb dX0_targetOf_28 (by decide) ⟨by omega, by omega⟩ (fun c_4 => ?_) (fun c_4 => ?_)
    · refine lv_iload_n hx hb dX0_targetOf_36 rfl (lv_at hl 1 rfl) ?_
      refine lv_iload hx hb dX0_targetOf_37 (lv_at hl 0 rfl) ?_
      refine z_roN (As := [.int (iI ((inP P k))), .int (iI ((vOf V r ((k % 2)))))]) (rest := []) ⟨hx, hb, hml, hown, hts⟩ (c_X7_rowNumber l D cI cZ cC ((inP P k)) ((vOf V r ((k % 2)))) ) ⟨va_cnB (host := RX7) 2 hts gX0_targetOf_X7_rowNumber_n47 rfl rfl rfl (hK.2 _ (List.mem_of_getElem? (i := 5) rfl)) (hts (.initialized RX7) (List.mem_of_getElem? (i := 9) rfl)) (by decide +kernel) ⟨Nat.le_of_ble_eq_true rfl, Nat.le_of_ble_eq_true rfl⟩, (hts (.static yX7_rowNumber) (List.mem_of_getElem? (i := 17) rfl)), trivial⟩ hP hK [] rfl rfl hl.1 rfl (Nat.le_of_ble_eq_true rfl) dX0_targetOf_39 ⟨by omega, by omega⟩ ?_
      refine z_rret hx hb hr hlocks dX0_targetOf_42 ?_
      unfold tgt; split <;> omega
    · refine lv_bipush (v := iI (-2)) hx hb dX0_targetOf_31 (by decide) ?_
      refine lv_goto (tgt := 42) hx hb dX0_targetOf_33 (by decide) ?_
      refine z_rret hx hb hr hlocks dX0_targetOf_42 ?_
      unfold tgt; split <;> omega

set_option maxHeartbeats 600000 in
set_option maxRecDepth 100000 in
theorem c_X0_countViolations (l : Launch) (D : va_G) (cI cZ cC : ClassId) (ad : Nat → Nat) (be : Nat) (n : Int) (V : Int → Int) (k par : Int) (g_V : ∀ j : Int, 0 ≤ j → j < 160 → -2 ≤ V j ∧ V j ≤ 19) (g_k : 0 ≤ k ∧ k < 8) (g_par : par = -2 ∨ (0 ≤ par ∧ par < 4)) : zRo l yX0_countViolations wsX0_countViolations ({ frames := 1, cells := 0, slots := 0, locals := 22 }) D cI cZ cC [(ad 4, .inr (0, [.ref (ad 1), .ref (ad 5), .ref (ad 6), .ref (ad 7)])), (ad 1, .inr (4, [.ref (ad 2), .ref (be), .int (iI (n))])), (ad 2, .inl (cI, 160, .inl (iA (V))))] [.ref (ad 4), .int (iI (k)), .int (iI (par))] (vio V k par) := by
  refine z_ofRo (cc := cX0_countViolations) (maxL := 7) (ret := (some .int)) RX0 (by decide +kernel) rfl rfl (Nat.le_of_ble_eq_true rfl) ?_
  intro p0 en0 s0 m0 args0 below0 meth0 c0 ls hx hb hr hlocks hml hown hts hP hK hl
  have hl : lv_has ls 7 [(0, .ref (ad 4)), (1, .int (iI (k))), (2, .int (iI (par)))] := hl
  refine lv_iload_n hx hb dX0_countViolations_0 rfl (lv_at hl 2 rfl) ?_
  refine lv_bipush (v := iI (-2)) hx hb dX0_countViolations_1 (by decide) ?_
  refine z_icmp_ne (tgt := 8) hx hb dX0_countViolations_3 (by decide) ⟨⟨by omega, by omega⟩, ⟨by omega, by omega⟩⟩ (fun c_1 => ?_) (fun c_1 => ?_)
  · refine lv_iconst (v := iI (0)) hx hb dX0_countViolations_8 rfl ?_
    refine lv_istore_n (lv' := [(3, .int (iI (0))), (0, .ref (ad 4)), (1, .int (iI (k))), (2, .int (iI (par)))]) hx hb dX0_countViolations_9 rfl hl (by decide) rfl (fun ls hl => ?_)
    refine lv_iconst (v := iI (0)) hx hb dX0_countViolations_10 rfl ?_
    refine lv_istore (lv' := [(4, .int (iI (0))), (3, .int (iI (0))), (0, .ref (ad 4)), (1, .int (iI (k))), (2, .int (iI (par)))]) hx hb dX0_countViolations_11 hl (by decide) rfl (fun ls hl => ?_)
    have loop13 : ∀ (fu : Nat) (i : Nat) (cnt : Int), (g_i : i ≤ 20) → (g_n : 20 < i + fu) → (g_c : cnt = sumN (fun i => bI (0 ≤ vOf V (k / 2 * 20 + i) (k % 2) ∧ ¬ hasR V (par * 20 + vOf V (k / 2 * 20 + i) (k % 2)))) i) → ∀ ls : Array Slot, lv_has ls 7 [(4, .int (iI ((i : Int)))), (3, .int (iI (cnt))), (0, .ref (ad 4)), (1, .int (iI (k))), (2, .int (iI (par)))] → W p0 l en0 (headSpec wsX0_countViolations ({ frames := 1, cells := 0, slots := 0, locals := 22 })).room s0 m0 args0 below0 meth0 c0 s0.heap [] 0 0 (QRo below0 (vio V k par) args0 s0) (F0 m0 13 ls []) := by
      intro fu
      induction fu with
      | zero => intro i cnt g_i g_n g_c ls hl; exfalso; omega
      | succ fu ih13 =>
        intro i cnt g_i g_n g_c ls hl
        refine lv_iload hx hb dX0_countViolations_13 (lv_at hl 0 rfl) ?_
        refine lv_bipush (v := iI (20)) hx hb dX0_countViolations_15 (by decide) ?_
        refine z_icmp_ge (tgt := 76) hx hb dX0_countViolations_17 (by decide) ⟨⟨by omega, by omega⟩, ⟨by omega, by omega⟩⟩ (fun c_2 => ?_) (fun c_2 => ?_)
        · refine lv_iload_n hx hb dX0_countViolations_76 rfl (lv_at hl 1 rfl) ?_
          refine z_rret hx hb hr hlocks dX0_countViolations_77 ?_
          unfold vio; rw [if_neg (by omega), g_c]; congr 1; omega
        · refine lv_iload_n hx hb dX0_countViolations_20 rfl (lv_at hl 3 rfl) ?_
          refine z_roN (As := [.int (iI (k))]) (rest := []) ⟨hx, hb, hml, hown, hts⟩ (c_X7_tableOfConstraint l D cI cZ cC (k) (by first | assumption | omega)) ⟨va_cnB (host := RX7) 1 hts gX0_countViolations_X7_tableOfConstraint_n50 rfl rfl rfl (hK.2 _ (List.mem_of_getElem? (i := 4) rfl)) (hts (.initialized RX7) (List.mem_of_getElem? (i := 3) rfl)) (by decide +kernel) ⟨Nat.le_of_ble_eq_true rfl, Nat.le_of_ble_eq_true rfl⟩, (hts (.static yX7_tableOfConstraint) (List.mem_of_getElem? (i := 2) rfl)), trivial⟩ hP hK [] rfl rfl hl.1 rfl (Nat.le_of_ble_eq_true rfl) dX0_countViolations_21 ⟨by omega, by omega⟩ ?_
          refine lv_iload hx hb dX0_countViolations_24 (lv_at hl 0 rfl) ?_
          refine z_roN (As := [.int (iI ((k / 2))), .int (iI ((i : Int)))]) (rest := []) ⟨hx, hb, hml, hown, hts⟩ (c_X7_rowNumber l D cI cZ cC ((k / 2)) ((i : Int)) ) ⟨va_cnB (host := RX7) 2 hts gX0_countViolations_X7_rowNumber_n47 rfl rfl rfl (hK.2 _ (List.mem_of_getElem? (i := 5) rfl)) (hts (.initialized RX7) (List.mem_of_getElem? (i := 3) rfl)) (by decide +kernel) ⟨Nat.le_of_ble_eq_true rfl, Nat.le_of_ble_eq_true rfl⟩, (hts (.static yX7_rowNumber) (List.mem_of_getElem? (i := 5) rfl)), trivial⟩ hP hK [] rfl rfl hl.1 rfl (Nat.le_of_ble_eq_true rfl) dX0_countViolations_26 ⟨by omega, by omega⟩ ?_
          refine lv_istore (lv' := [(5, .int (iI ((((k / 2)) * 20 + ((i : Int)))))), (4, .int (iI ((i : Int)))), (3, .int (iI (cnt))), (0, .ref (ad 4)), (1, .int (iI (k))), (2, .int (iI (par)))]) hx hb dX0_countViolations_29 hl (by decide) rfl (fun ls hl => ?_)
          refine lv_aload_n hx hb dX0_countViolations_31 rfl (lv_at hl 3 rfl) ?_
          refine va_get (D := D) (ci := 0) (v := .ref (ad 1)) (C := RX0) (T := TX0) (N := 4) hx hb hts (fun _ h => List.mem_cons_of_mem _ (List.mem_append_left _ (List.mem_append_right _ (h)))) hown hK.1 hP 0 rfl rfl 0 (by decide) (hts (.fieldLink RX0 22 "ForeignKeyStore$Constraints" "rows" "LForeignKeyStore$Rows;") (List.mem_of_getElem? (i := 1) rfl)) (fun _ h9 => h9) rfl dX0_countViolations_32 ?_
          refine lv_iload hx hb dX0_countViolations_35 (lv_at hl 0 rfl) ?_
          refine lv_iload_n hx hb dX0_countViolations_37 rfl (lv_at hl 4 rfl) ?_
          refine z_roN (As := [.int (iI (k))]) (rest := [.int (iI ((((k / 2)) * 20 + ((i : Int))))), .ref (ad 1)]) ⟨hx, hb, hml, hown, hts⟩ (c_X7_columnOfConstraint l D cI cZ cC (k) (by first | assumption | omega)) ⟨va_cnB (host := RX7) 1 hts gX0_countViolations_X7_columnOfConstraint_n38 rfl rfl rfl (hK.2 _ (List.mem_of_getElem? (i := 6) rfl)) (hts (.initialized RX7) (List.mem_of_getElem? (i := 3) rfl)) (by decide +kernel) ⟨Nat.le_of_ble_eq_true rfl, Nat.le_of_ble_eq_true rfl⟩, (hts (.static yX7_columnOfConstraint) (List.mem_of_getElem? (i := 7) rfl)), trivial⟩ hP hK [] rfl rfl hl.1 rfl (Nat.le_of_ble_eq_true rfl) dX0_countViolations_38 ⟨by omega, by omega⟩ ?_
          refine z_roV (As := [.int (iI ((((k / 2)) * 20 + ((i : Int))))), .int (iI ((k % 2)))]) (rest := []) ⟨hx, hb, hml, hown, hts⟩ (c_X4_valueOf l D cI cZ cC (ad) (be) (n) (V) ((((k / 2)) * 20 + ((i : Int)))) ((k % 2)) (by first | assumption | omega) (by first | assumption | omega)) (cwV 2 hts gX0_countViolations_X4_valueOf rfl rfl rfl (by decide +kernel) ⟨Nat.le_of_ble_eq_true rfl, Nat.le_of_ble_eq_true rfl⟩) hP hK [1, 2] rfl 1 4 rfl rfl rfl rfl hl.1 rfl (Nat.le_of_ble_eq_true rfl) dX0_countViolations_41 ⟨by omega, by omega⟩ ?_
          have hf_3 := vOf_b g_V (((((k / 2)) * 20 + ((i : Int))))) (((k % 2)))
          refine lv_istore (lv' := [(6, .int (iI ((vOf V ((((k / 2)) * 20 + ((i : Int)))) ((k % 2)))))), (5, .int (iI ((((k / 2)) * 20 + ((i : Int)))))), (4, .int (iI ((i : Int)))), (3, .int (iI (cnt))), (0, .ref (ad 4)), (1, .int (iI (k))), (2, .int (iI (par)))]) hx hb dX0_countViolations_44 hl (by decide) rfl (fun ls hl => ?_)
          refine lv_iload hx hb dX0_countViolations_46 (lv_at hl 0 rfl) ?_
          refine z_if_lt (tgt := 70) hx hb dX0_countViolations_48 (by decide) ⟨by omega, by omega⟩ (fun c_4 => ?_) (fun c_4 => ?_)
          · refine lv_iinc (v := iI ((i : Int) + 1)) (lv' := [(4, .int (iI ((i : Int) + 1))), (6, .int (iI ((vOf V ((((k / 2)) * 20 + ((i : Int)))) ((k % 2)))))), (5, .int (iI ((((k / 2)) * 20 + ((i : Int)))))), (3, .int (iI (cnt))), (0, .ref (ad 4)), (1, .int (iI (k))), (2, .int (iI (par)))]) hx hb dX0_countViolations_70 hl (k := 2) rfl (iI_add ((i : Int)) (1)) (by decide) rfl (fun ls hl => ?_)
            refine lv_goto (tgt := 13) hx hb dX0_countViolations_73 (by decide) ?_
            exact ih13 (i + 1) _ (by omega) (by omega) (sum_f g_c rfl (fun q => absurd q.1 (by omega))) _ (lv_sub hl [0, 3, 4, 5, 6] rfl)
          · refine lv_aload_n hx hb dX0_countViolations_51 rfl (lv_at hl 4 rfl) ?_
            refine va_get (D := D) (ci := 0) (v := .ref (ad 1)) (C := RX0) (T := TX0) (N := 4) hx hb hts (fun _ h => List.mem_cons_of_mem _ (List.mem_append_left _ (List.mem_append_right _ (h)))) hown hK.1 hP 0 rfl rfl 0 (by decide) (hts (.fieldLink RX0 22 "ForeignKeyStore$Constraints" "rows" "LForeignKeyStore$Rows;") (List.mem_of_getElem? (i := 1) rfl)) (fun _ h9 => h9) rfl dX0_countViolations_52 ?_
            refine lv_iload_n hx hb dX0_countViolations_55 rfl (lv_at hl 6 rfl) ?_
            refine lv_iload hx hb dX0_countViolations_56 (lv_at hl 0 rfl) ?_
            refine z_roN (As := [.int (iI (par)), .int (iI ((vOf V ((((k / 2)) * 20 + ((i : Int)))) ((k % 2)))))]) (rest := [.ref (ad 1)]) ⟨hx, hb, hml, hown, hts⟩ (c_X7_rowNumber l D cI cZ cC (par) ((vOf V ((((k / 2)) * 20 + ((i : Int)))) ((k % 2)))) ) ⟨va_cnB (host := RX7) 2 hts gX0_countViolations_X7_rowNumber_n47 rfl rfl rfl (hK.2 _ (List.mem_of_getElem? (i := 5) rfl)) (hts (.initialized RX7) (List.mem_of_getElem? (i := 3) rfl)) (by decide +kernel) ⟨Nat.le_of_ble_eq_true rfl, Nat.le_of_ble_eq_true rfl⟩, (hts (.static yX7_rowNumber) (List.mem_of_getElem? (i := 5) rfl)), trivial⟩ hP hK [] rfl rfl hl.1 rfl (Nat.le_of_ble_eq_true rfl) dX0_countViolations_58 ⟨by omega, by omega⟩ ?_
            refine z_roV (As := [.int (iI ((par * 20 + ((vOf V ((((k / 2)) * 20 + ((i : Int)))) ((k % 2)))))))]) (rest := []) ⟨hx, hb, hml, hown, hts⟩ (c_X4_has l D cI cZ cC (ad) (be) (n) (V) ((par * 20 + ((vOf V ((((k / 2)) * 20 + ((i : Int)))) ((k % 2)))))) (by first | assumption | omega) (by first | assumption | omega)) (cwV 1 hts gX0_countViolations_X4_has rfl rfl rfl (by decide +kernel) ⟨Nat.le_of_ble_eq_true rfl, Nat.le_of_ble_eq_true rfl⟩) hP hK [1, 2] rfl 1 4 rfl rfl rfl rfl hl.1 rfl (Nat.le_of_ble_eq_true rfl) dX0_countViolations_61 ⟨by omega, by omega⟩ ?_
            refine z_b_ne (tgt := 70) hx hb dX0_countViolations_64 (by decide) (fun c_5 => ?_) (fun c_5 => ?_)
            · refine lv_iinc (v := iI ((i : Int) + 1)) (lv' := [(4, .int (iI ((i : Int) + 1))), (6, .int (iI ((vOf V ((((k / 2)) * 20 + ((i : Int)))) ((k % 2)))))), (5, .int (iI ((((k / 2)) * 20 + ((i : Int)))))), (3, .int (iI (cnt))), (0, .ref (ad 4)), (1, .int (iI (k))), (2, .int (iI (par)))]) hx hb dX0_countViolations_70 hl (k := 2) rfl (iI_add ((i : Int)) (1)) (by decide) rfl (fun ls hl => ?_)
              refine lv_goto (tgt := 13) hx hb dX0_countViolations_73 (by decide) ?_
              exact ih13 (i + 1) _ (by omega) (by omega) (sum_f g_c rfl (fun q => q.2 c_5)) _ (lv_sub hl [0, 3, 4, 5, 6] rfl)
            · refine lv_iinc (v := iI (cnt + 1)) (lv' := [(3, .int (iI (cnt + 1))), (6, .int (iI ((vOf V ((((k / 2)) * 20 + ((i : Int)))) ((k % 2)))))), (5, .int (iI ((((k / 2)) * 20 + ((i : Int)))))), (4, .int (iI ((i : Int)))), (0, .ref (ad 4)), (1, .int (iI (k))), (2, .int (iI (par)))]) hx hb dX0_countViolations_67 hl (k := 3) rfl (iI_add (cnt) (1)) (by decide) rfl (fun ls hl => ?_)
              refine lv_iinc (v := iI ((i : Int) + 1)) (lv' := [(4, .int (iI ((i : Int) + 1))), (3, .int (iI (cnt + 1))), (6, .int (iI ((vOf V ((((k / 2)) * 20 + ((i : Int)))) ((k % 2)))))), (5, .int (iI ((((k / 2)) * 20 + ((i : Int)))))), (0, .ref (ad 4)), (1, .int (iI (k))), (2, .int (iI (par)))]) hx hb dX0_countViolations_70 hl (k := 3) rfl (iI_add ((i : Int)) (1)) (by decide) rfl (fun ls hl => ?_)
              refine lv_goto (tgt := 13) hx hb dX0_countViolations_73 (by decide) ?_
              exact ih13 (i + 1) _ (by omega) (by omega) (sum_t g_c rfl ⟨by omega, c_5⟩) _ (lv_sub hl [0, 1, 4, 5, 6] rfl)
    exact loop13 21 0 0 (by omega) (by omega) rfl _ (lv_sub hl [0, 1, 2, 3, 4] rfl)
  · refine lv_iconst (v := iI (0)) hx hb dX0_countViolations_6 rfl ?_
    refine z_rret hx hb hr hlocks dX0_countViolations_7 ?_
    unfold vio; rw [if_pos (by omega)]

set_option maxHeartbeats 600000 in
set_option maxRecDepth 100000 in
theorem c_X0_firstRefusal (l : Launch) (D : va_G) (cI cZ cC : ClassId) (ad : Nat → Nat) (be : Nat) (n : Int) (P Mo V : Int → Int) (d : Int) (g_V : ∀ j : Int, 0 ≤ j → j < 160 → -2 ≤ V j ∧ V j ≤ 19) (g_P : ∀ j : Int, 0 ≤ j → j < 8 → P j = -2 ∨ (0 ≤ P j ∧ P j < 4)) (g_Mo : ∀ j : Int, 0 ≤ j → j < 8 → Mo j = 0 ∨ Mo j = 1) (g_d : d = 0 ∨ d = 1) : zRo l yX0_firstRefusal wsX0_firstRefusal ({ frames := 2, cells := 0, slots := 0, locals := 48 }) D cI cZ cC [(ad 4, .inr (0, [.ref (ad 1), .ref (ad 5), .ref (ad 6), .ref (ad 7)])), (ad 5, .inl (cI, 8, .inl (iA (P)))), (ad 7, .inl (cZ, 8, .inl (iA (Mo)))), (ad 1, .inr (4, [.ref (ad 2), .ref (be), .int (iI (n))])), (ad 2, .inl (cI, 160, .inl (iA (V))))] [.ref (ad 4), .int (iI (d))] (fR (badC d Mo P V) 8 0) := by
  refine z_ofRo (cc := cX0_firstRefusal) (maxL := 4) (ret := (some .int)) RX0 (by decide +kernel) rfl rfl (Nat.le_of_ble_eq_true rfl) ?_
  intro p0 en0 s0 m0 args0 below0 meth0 c0 ls hx hb hr hlocks hml hown hts hP hK hl
  have hl : lv_has ls 4 [(0, .ref (ad 4)), (1, .int (iI (d)))] := hl
  refine lv_iconst (v := iI (0)) hx hb dX0_firstRefusal_0 rfl ?_
  refine lv_istore_n (lv' := [(2, .int (iI (0))), (0, .ref (ad 4)), (1, .int (iI (d)))]) hx hb dX0_firstRefusal_1 rfl hl (by decide) rfl (fun ls hl => ?_)
  have loop2 : ∀ (fu : Nat) (i : Nat), (g_i : i ≤ 8) → (g_n : 8 < i + fu) → (g_c : fR (badC d Mo P V) 8 0 = fR (badC d Mo P V) (8 - i) i) → ∀ ls : Array Slot, lv_has ls 4 [(2, .int (iI ((i : Int)))), (0, .ref (ad 4)), (1, .int (iI (d)))] → W p0 l en0 (headSpec wsX0_firstRefusal ({ frames := 2, cells := 0, slots := 0, locals := 48 })).room s0 m0 args0 below0 meth0 c0 s0.heap [] 0 0 (QRo below0 (fR (badC d Mo P V) 8 0) args0 s0) (F0 m0 2 ls []) := by
    intro fu
    induction fu with
    | zero => intro i g_i g_n g_c ls hl; exfalso; omega
    | succ fu ih2 =>
      intro i g_i g_n g_c ls hl
      refine lv_iload_n hx hb dX0_firstRefusal_2 rfl (lv_at hl 0 rfl) ?_
      refine lv_bipush (v := iI (8)) hx hb dX0_firstRefusal_3 (by decide) ?_
      refine z_icmp_ge (tgt := 54) hx hb dX0_firstRefusal_5 (by decide) ⟨⟨by omega, by omega⟩, ⟨by omega, by omega⟩⟩ (fun c_1 => ?_) (fun c_1 => ?_)
      · refine lv_iconst (v := iI (0)) hx hb dX0_firstRefusal_54 rfl ?_
        refine z_rret hx hb hr hlocks dX0_firstRefusal_55 ?_
        rw [g_c, show 8 - i = 0 by omega]; rfl
      · refine lv_iload_n hx hb dX0_firstRefusal_8 rfl (lv_at hl 2 rfl) ?_
        refine z_if_ne (tgt := 20) hx hb dX0_firstRefusal_9 (by decide) ⟨by omega, by omega⟩ (fun c_2 => ?_) (fun c_2 => ?_)
        · refine lv_iconst (v := iI (1)) hx hb dX0_firstRefusal_20 rfl ?_
          refine lv_goto (tgt := 25) hx hb dX0_firstRefusal_21 (by decide) ?_
          refine lv_istore_n (lv' := [(3, .int (iI (1))), (2, .int (iI ((i : Int)))), (0, .ref (ad 4)), (1, .int (iI (d)))]) hx hb dX0_firstRefusal_25 rfl hl (by decide) rfl (fun ls hl => ?_)
          refine lv_iload_n hx hb dX0_firstRefusal_26 rfl (lv_at hl 0 rfl) ?_
          refine z_if_eq (tgt := 48) hx hb dX0_firstRefusal_27 (by decide) ⟨by omega, by omega⟩ (fun c_3 => ?_) (fun c_3 => ?_)
          · exfalso
            omega
          · refine lv_aload_n hx hb dX0_firstRefusal_30 rfl (lv_at hl 2 rfl) ?_
            refine lv_iload_n hx hb dX0_firstRefusal_31 rfl (lv_at hl 1 rfl) ?_
            refine lv_aload_n hx hb dX0_firstRefusal_32 rfl (lv_at hl 2 rfl) ?_
            refine lv_iload_n hx hb dX0_firstRefusal_33 rfl (lv_at hl 1 rfl) ?_
            refine z_roV (As := [.int (iI ((i : Int)))]) (rest := [.int (iI ((i : Int))), .ref (ad 4)]) ⟨hx, hb, hml, hown, hts⟩ (c_X0_parentOf l D cI cZ cC (ad) (P) ((i : Int)) (by first | assumption | omega)) (cwV 1 hts gX0_firstRefusal_X0_parentOf rfl rfl rfl (by decide +kernel) ⟨Nat.le_of_ble_eq_true rfl, Nat.le_of_ble_eq_true rfl⟩) hP hK [0, 1] rfl 0 0 rfl rfl rfl rfl hl.1 rfl (Nat.le_of_ble_eq_true rfl) dX0_firstRefusal_34 ⟨by omega, by omega⟩ ?_
            have hf_4 := inP_b g_P (((i : Int)))
            refine z_roV (As := [.int (iI ((i : Int))), .int (iI ((inP P ((i : Int)))))]) (rest := []) ⟨hx, hb, hml, hown, hts⟩ (c_X0_countViolations l D cI cZ cC (ad) (be) (n) (V) ((i : Int)) ((inP P ((i : Int)))) (by first | assumption | omega) (by first | assumption | omega) (by first | assumption | omega)) (cwV 2 hts gX0_firstRefusal_X0_countViolations rfl rfl rfl (by decide +kernel) ⟨Nat.le_of_ble_eq_true rfl, Nat.le_of_ble_eq_true rfl⟩) hP hK [0, 3, 4] rfl 0 0 rfl rfl rfl rfl hl.1 rfl (Nat.le_of_ble_eq_true rfl) dX0_firstRefusal_37 ⟨by omega, by omega⟩ ?_
            have hf_5 := vio_b V (((i : Int))) (((inP P ((i : Int)))))
            refine z_if_le (tgt := 48) hx hb dX0_firstRefusal_40 (by decide) ⟨by omega, by omega⟩ (fun c_6 => ?_) (fun c_6 => ?_)
            · refine lv_iinc (v := iI ((i : Int) + 1)) (lv' := [(2, .int (iI ((i : Int) + 1))), (3, .int (iI (1))), (0, .ref (ad 4)), (1, .int (iI (d)))]) hx hb dX0_firstRefusal_48 hl (k := 1) rfl (iI_add ((i : Int)) (1)) (by decide) rfl (fun ls hl => ?_)
              refine lv_goto (tgt := 2) hx hb dX0_firstRefusal_51 (by decide) ?_
              exact ih2 (i + 1) (by omega) (by omega) (by rw [g_c, show 8 - i = (8 - (i + 1)) + 1 by omega, fR_f (by unfold badC; omega)]; rfl) _ (lv_sub hl [0, 2, 3] rfl)
            · refine lv_iload_n hx hb dX0_firstRefusal_43 rfl (lv_at hl 1 rfl) ?_
              refine z_roN (As := [.int (iI ((i : Int)))]) (rest := []) ⟨hx, hb, hml, hown, hts⟩ (c_X7_refusalBecauseOf l D cI cZ cC ((i : Int)) ) ⟨va_cnB (host := RX7) 1 hts gX0_firstRefusal_X7_refusalBecauseOf_n62 rfl rfl rfl (hK.2 _ (List.mem_of_getElem? (i := 7) rfl)) (hts (.initialized RX7) (List.mem_of_getElem? (i := 18) rfl)) (by decide +kernel) ⟨Nat.le_of_ble_eq_true rfl, Nat.le_of_ble_eq_true rfl⟩, (hts (.static yX7_refusalBecauseOf) (List.mem_of_getElem? (i := 34) rfl)), trivial⟩ hP hK [] rfl rfl hl.1 rfl (Nat.le_of_ble_eq_true rfl) dX0_firstRefusal_44 ⟨by omega, by omega⟩ ?_
              refine z_rret hx hb hr hlocks dX0_firstRefusal_47 ?_
              rw [g_c, show 8 - i = (7 - i) + 1 by omega, fR_t (by unfold badC; omega)]
        · refine lv_aload_n hx hb dX0_firstRefusal_12 rfl (lv_at hl 1 rfl) ?_
          refine lv_iload_n hx hb dX0_firstRefusal_13 rfl (lv_at hl 0 rfl) ?_
          refine z_roV (As := [.int (iI ((i : Int)))]) (rest := []) ⟨hx, hb, hml, hown, hts⟩ (c_X0_isDeferred l D cI cZ cC (ad) (Mo) ((i : Int)) (by first | assumption | omega) (by first | assumption | omega)) (cwV 1 hts gX0_firstRefusal_X0_isDeferred rfl rfl rfl (by decide +kernel) ⟨Nat.le_of_ble_eq_true rfl, Nat.le_of_ble_eq_true rfl⟩) hP hK [0, 2] rfl 0 0 rfl rfl rfl rfl hl.1 rfl (Nat.le_of_ble_eq_true rfl) dX0_firstRefusal_14 ⟨by omega, by omega⟩ ?_
          refine z_b_ne (tgt := 24) hx hb dX0_firstRefusal_17 (by decide) (fun c_7 => ?_) (fun c_7 => ?_)
          · refine lv_iconst (v := iI (0)) hx hb dX0_firstRefusal_24 rfl ?_
            refine lv_istore_n (lv' := [(3, .int (iI (0))), (2, .int (iI ((i : Int)))), (0, .ref (ad 4)), (1, .int (iI (d)))]) hx hb dX0_firstRefusal_25 rfl hl (by decide) rfl (fun ls hl => ?_)
            refine lv_iload_n hx hb dX0_firstRefusal_26 rfl (lv_at hl 0 rfl) ?_
            refine z_if_eq (tgt := 48) hx hb dX0_firstRefusal_27 (by decide) ⟨by omega, by omega⟩ (fun c_8 => ?_) (fun c_8 => ?_)
            · refine lv_iinc (v := iI ((i : Int) + 1)) (lv' := [(2, .int (iI ((i : Int) + 1))), (3, .int (iI (0))), (0, .ref (ad 4)), (1, .int (iI (d)))]) hx hb dX0_firstRefusal_48 hl (k := 1) rfl (iI_add ((i : Int)) (1)) (by decide) rfl (fun ls hl => ?_)
              refine lv_goto (tgt := 2) hx hb dX0_firstRefusal_51 (by decide) ?_
              exact ih2 (i + 1) (by omega) (by omega) (by rw [g_c, show 8 - i = (8 - (i + 1)) + 1 by omega, fR_f (by unfold badC; omega)]; rfl) _ (lv_sub hl [0, 2, 3] rfl)
            · exfalso
              omega
          · refine lv_iconst (v := iI (1)) hx hb dX0_firstRefusal_20 rfl ?_
            refine lv_goto (tgt := 25) hx hb dX0_firstRefusal_21 (by decide) ?_
            refine lv_istore_n (lv' := [(3, .int (iI (1))), (2, .int (iI ((i : Int)))), (0, .ref (ad 4)), (1, .int (iI (d)))]) hx hb dX0_firstRefusal_25 rfl hl (by decide) rfl (fun ls hl => ?_)
            refine lv_iload_n hx hb dX0_firstRefusal_26 rfl (lv_at hl 0 rfl) ?_
            refine z_if_eq (tgt := 48) hx hb dX0_firstRefusal_27 (by decide) ⟨by omega, by omega⟩ (fun c_9 => ?_) (fun c_9 => ?_)
            · exfalso
              omega
            · refine lv_aload_n hx hb dX0_firstRefusal_30 rfl (lv_at hl 2 rfl) ?_
              refine lv_iload_n hx hb dX0_firstRefusal_31 rfl (lv_at hl 1 rfl) ?_
              refine lv_aload_n hx hb dX0_firstRefusal_32 rfl (lv_at hl 2 rfl) ?_
              refine lv_iload_n hx hb dX0_firstRefusal_33 rfl (lv_at hl 1 rfl) ?_
              refine z_roV (As := [.int (iI ((i : Int)))]) (rest := [.int (iI ((i : Int))), .ref (ad 4)]) ⟨hx, hb, hml, hown, hts⟩ (c_X0_parentOf l D cI cZ cC (ad) (P) ((i : Int)) (by first | assumption | omega)) (cwV 1 hts gX0_firstRefusal_X0_parentOf rfl rfl rfl (by decide +kernel) ⟨Nat.le_of_ble_eq_true rfl, Nat.le_of_ble_eq_true rfl⟩) hP hK [0, 1] rfl 0 0 rfl rfl rfl rfl hl.1 rfl (Nat.le_of_ble_eq_true rfl) dX0_firstRefusal_34 ⟨by omega, by omega⟩ ?_
              have hf_10 := inP_b g_P (((i : Int)))
              refine z_roV (As := [.int (iI ((i : Int))), .int (iI ((inP P ((i : Int)))))]) (rest := []) ⟨hx, hb, hml, hown, hts⟩ (c_X0_countViolations l D cI cZ cC (ad) (be) (n) (V) ((i : Int)) ((inP P ((i : Int)))) (by first | assumption | omega) (by first | assumption | omega) (by first | assumption | omega)) (cwV 2 hts gX0_firstRefusal_X0_countViolations rfl rfl rfl (by decide +kernel) ⟨Nat.le_of_ble_eq_true rfl, Nat.le_of_ble_eq_true rfl⟩) hP hK [0, 3, 4] rfl 0 0 rfl rfl rfl rfl hl.1 rfl (Nat.le_of_ble_eq_true rfl) dX0_firstRefusal_37 ⟨by omega, by omega⟩ ?_
              have hf_11 := vio_b V (((i : Int))) (((inP P ((i : Int)))))
              refine z_if_le (tgt := 48) hx hb dX0_firstRefusal_40 (by decide) ⟨by omega, by omega⟩ (fun c_12 => ?_) (fun c_12 => ?_)
              · refine lv_iinc (v := iI ((i : Int) + 1)) (lv' := [(2, .int (iI ((i : Int) + 1))), (3, .int (iI (1))), (0, .ref (ad 4)), (1, .int (iI (d)))]) hx hb dX0_firstRefusal_48 hl (k := 1) rfl (iI_add ((i : Int)) (1)) (by decide) rfl (fun ls hl => ?_)
                refine lv_goto (tgt := 2) hx hb dX0_firstRefusal_51 (by decide) ?_
                exact ih2 (i + 1) (by omega) (by omega) (by rw [g_c, show 8 - i = (8 - (i + 1)) + 1 by omega, fR_f (by unfold badC; omega)]; rfl) _ (lv_sub hl [0, 2, 3] rfl)
              · refine lv_iload_n hx hb dX0_firstRefusal_43 rfl (lv_at hl 1 rfl) ?_
                refine z_roN (As := [.int (iI ((i : Int)))]) (rest := []) ⟨hx, hb, hml, hown, hts⟩ (c_X7_refusalBecauseOf l D cI cZ cC ((i : Int)) ) ⟨va_cnB (host := RX7) 1 hts gX0_firstRefusal_X7_refusalBecauseOf_n62 rfl rfl rfl (hK.2 _ (List.mem_of_getElem? (i := 7) rfl)) (hts (.initialized RX7) (List.mem_of_getElem? (i := 18) rfl)) (by decide +kernel) ⟨Nat.le_of_ble_eq_true rfl, Nat.le_of_ble_eq_true rfl⟩, (hts (.static yX7_refusalBecauseOf) (List.mem_of_getElem? (i := 34) rfl)), trivial⟩ hP hK [] rfl rfl hl.1 rfl (Nat.le_of_ble_eq_true rfl) dX0_firstRefusal_44 ⟨by omega, by omega⟩ ?_
                refine z_rret hx hb hr hlocks dX0_firstRefusal_47 ?_
                rw [g_c, show 8 - i = (7 - i) + 1 by omega, fR_t (by unfold badC; omega)]
  exact loop2 9 0 (by omega) (by omega) rfl _ (lv_sub hl [0, 1, 2] rfl)

