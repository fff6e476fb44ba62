/-- the model's rows are the store's -/
def rV (Ir Vm V : Int → Int) : Prop := ∀ r : Int, 0 ≤ r → r < 80 → (-1 ≤ Vm (2 * r) ∧ Vm (2 * r) ≤ 19 ∧ -1 ≤ Vm (2 * r + 1) ∧ Vm (2 * r + 1) ≤ 19) ∧ ((Ir r = 1 ∧ V (r * 2) = Vm (2 * r) ∧ V (r * 2 + 1) = Vm (2 * r + 1)) ∨ (Ir r = 0 ∧ V (r * 2) = -2 ∧ V (r * 2 + 1) = -2))
/-- the model's constraints are the store's -/
def rC8 (Ic Pm Am Dm P Ac Mo : Int → Int) : Prop := ∀ k : Int, 0 ≤ k → k < 8 → (0 ≤ Pm k ∧ Pm k ≤ 3 ∧ 0 ≤ Am k ∧ Am k ≤ 3 ∧ (Dm k = 0 ∨ Dm k = 1)) ∧ ((Ic k = 1 ∧ P k = Pm k ∧ Ac k = Am k ∧ Mo k = Dm k) ∨ (Ic k = 0 ∧ P k = -2))
theorem rV_01 {Ir Vm V : Int → Int} (h : rV Ir Vm V) : ∀ j : Int, 0 ≤ j → j < 80 → Ir j = 0 ∨ Ir j = 1 := fun j h1 h2 => by have := h j h1 h2; omega
theorem rV_c {Ir Vm V : Int → Int} (h : rV Ir Vm V) {r c : Int} (h1 : 0 ≤ r ∧ r < 80) (hc : 0 ≤ c ∧ c < 2) : (-1 ≤ Vm (2 * r + c) ∧ Vm (2 * r + c) ≤ 19) ∧ ((Ir r = 1 ∧ vOf V r c = Vm (2 * r + c)) ∨ (Ir r = 0 ∧ vOf V r c = -2)) := by
  have h2 := h r h1.1 h1.2
  rw [vOf_at ⟨h1.1, h1.2, hc.1, hc.2⟩]
  have h3 : c = 0 ∨ c = 1 := by omega
  rcases h3 with rfl | rfl
  · rw [Int.add_zero, Int.add_zero]
    omega
  · omega
theorem rV_has {Ir Vm V : Int → Int} (h : rV Ir Vm V) {r : Int} (h1 : 0 ≤ r ∧ r < 80) : hasR V r ↔ Ir r = 1 := by
  have h2 := h r h1.1 h1.2
  unfold hasR
  omega
theorem rV_all {Ir Vm V : Int → Int} (h : rV Ir Vm V) : ∀ j : Int, 0 ≤ j → j < 160 → -1 ≤ Vm j ∧ Vm j ≤ 19 := fun j h1 h2 => by
  have h3 := (rV_c h (r := j / 2) (c := j % 2) (by omega) (by omega)).1
  rwa [show 2 * (j / 2) + j % 2 = j by omega] at h3
theorem rC_i {Ic Pm Am Dm P Ac Mo : Int → Int} (h : rC8 Ic Pm Am Dm P Ac Mo) : ∀ j : Int, 0 ≤ j → j < 8 → Ic j = 0 ∨ Ic j = 1 := fun j h1 h2 => by have := h j h1 h2; omega
theorem rC_p {Ic Pm Am Dm P Ac Mo : Int → Int} (h : rC8 Ic Pm Am Dm P Ac Mo) : ∀ j : Int, 0 ≤ j → j < 8 → 0 ≤ Pm j ∧ Pm j ≤ 3 := fun j h1 h2 => by have := h j h1 h2; omega
theorem rC_a {Ic Pm Am Dm P Ac Mo : Int → Int} (h : rC8 Ic Pm Am Dm P Ac Mo) : ∀ j : Int, 0 ≤ j → j < 8 → 0 ≤ Am j ∧ Am j ≤ 3 := fun j h1 h2 => by have := h j h1 h2; omega
theorem rC_d {Ic Pm Am Dm P Ac Mo : Int → Int} (h : rC8 Ic Pm Am Dm P Ac Mo) : ∀ j : Int, 0 ≤ j → j < 8 → Dm j = 0 ∨ Dm j = 1 := fun j h1 h2 => by have := h j h1 h2; omega
theorem rC_k {Ic Pm Am Dm P Ac Mo : Int → Int} (h : rC8 Ic Pm Am Dm P Ac Mo) {k : Int} (h1 : 0 ≤ k ∧ k < 8) : (Ic k = 1 ∧ inP P k = Pm k ∧ inA Ac k = Am k ∧ Mo k = Dm k ∧ 0 ≤ Pm k ∧ Pm k ≤ 3 ∧ 0 ≤ Am k ∧ Am k ≤ 3) ∨ (Ic k = 0 ∧ inP P k = -2 ∧ 0 ≤ Pm k ∧ Pm k ≤ 3 ∧ 0 ≤ Am k ∧ Am k ≤ 3) := by
  have h2 := h k h1.1 h1.2
  unfold inP inA
  rw [if_pos h1, if_pos h1]
  omega
/-- the target of a row by a constraint, none where the constraint is another table's -/
def tgm (P V : Int → Int) (k r : Int) : Int := if r / 20 = k / 2 then tgt P V k r else -2
theorem tgm_b {Ir Vm V Ic Pm Am Dm P Ac Mo : Int → Int} (hV : rV Ir Vm V) (hC : rC8 Ic Pm Am Dm P Ac Mo) (k r : Int) (hk : 0 ≤ k ∧ k < 8) (hr : 0 ≤ r ∧ r < 80) : tgm P V k r = -2 ∨ (0 ≤ tgm P V k r ∧ tgm P V k r < 80) := by
  have h1 := rV_c hV (c := k % 2) hr (by omega)
  have h2 := rC_k hC hk
  unfold tgm tgt
  split
  · split <;> omega
  · omega
theorem sumN_add (f : Int → Int) (m : Nat) : ∀ n : Nat, sumN f (m + n) = sumN f m + sumN (fun i => f ((m : Int) + i)) n
  | 0 => by show sumN f m = _; rw [sumN]; omega
  | n + 1 => by
    show sumN f (m + n + 1) = _
    rw [sumN, sumN_add f m n, sumN, show ((m + n : Nat) : Int) = (m : Int) + (n : Int) by omega]
    omega
theorem sumN_z {f : Int → Int} : ∀ n : Nat, (∀ i : Int, 0 ≤ i → i < (n : Int) → f i = 0) → sumN f n = 0
  | 0, _ => rfl
  | n + 1, h => by rw [sumN, sumN_z n (fun i h1 h2 => h i h1 (by omega)), h n (by omega) (by omega)]; rfl
theorem sumN_cg {f g : Int → Int} : ∀ n : Nat, (∀ i : Int, 0 ≤ i → i < (n : Int) → f i = g i) → sumN f n = sumN g n
  | 0, _ => rfl
  | n + 1, h => by rw [sumN, sumN, sumN_cg n (fun i h1 h2 => h i h1 (by omega)), h n (by omega) (by omega)]
theorem sumN_blk {f : Int → Int} {b : Int} (hb : 0 ≤ b ∧ b < 4) (h : ∀ r : Int, 0 ≤ r → r < 80 → ¬ r / 20 = b → f r = 0) : sumN f 80 = sumN (fun i => f (b * 20 + i)) 20 := by
  have e1 := sumN_add f 60 20
  have e2 := sumN_add f 40 20
  have e3 := sumN_add f 20 20
  rw [show (60 + 20 : Nat) = 80 from rfl] at e1
  rw [show (40 + 20 : Nat) = 60 from rfl] at e2
  rw [show (20 + 20 : Nat) = 40 from rfl] at e3
  have hz : ∀ c : Int, 0 ≤ c → c < 4 → ¬ c = b → sumN (fun i => f (c * 20 + i)) 20 = 0 := fun c h1 h2 h3 => sumN_z 20 (fun i h4 h5 => h _ (by omega) (by omega) (by omega))
  have z0 := hz 0
  have z1 := hz 1
  have z2 := hz 2
  have z3 := hz 3
  have f0 : sumN f 20 = sumN (fun i => f (0 * 20 + i)) 20 := sumN_cg 20 (fun i _ _ => by rw [show (0 : Int) * 20 + i = i by omega])
  have f1 : sumN (fun i => f (((20 : Nat) : Int) + i)) 20 = sumN (fun i => f (1 * 20 + i)) 20 := rfl
  have f2 : sumN (fun i => f (((40 : Nat) : Int) + i)) 20 = sumN (fun i => f (2 * 20 + i)) 20 := rfl
  have f3 : sumN (fun i => f (((60 : Nat) : Int) + i)) 20 = sumN (fun i => f (3 * 20 + i)) 20 := rfl
  have hb4 : b = 0 ∨ b = 1 ∨ b = 2 ∨ b = 3 := by omega
  rcases hb4 with rfl | rfl | rfl | rfl
  · rw [e1, e2, e3, f0, f1, f2, f3, z1 (by omega) (by omega) (by omega), z2 (by omega) (by omega) (by omega), z3 (by omega) (by omega) (by omega)]; omega
  · rw [e1, e2, e3, f0, f1, f2, f3, z0 (by omega) (by omega) (by omega), z2 (by omega) (by omega) (by omega), z3 (by omega) (by omega) (by omega)]; omega
  · rw [e1, e2, e3, f0, f1, f2, f3, z0 (by omega) (by omega) (by omega), z1 (by omega) (by omega) (by omega), z3 (by omega) (by omega) (by omega)]; omega
  · rw [e1, e2, e3, f0, f1, f2, f3, z0 (by omega) (by omega) (by omega), z1 (by omega) (by omega) (by omega), z2 (by omega) (by omega) (by omega)]; omega
theorem vio_m (P V : Int → Int) {k : Int} (hk : 0 ≤ k ∧ k < 8) (hP : inP P k = -2 ∨ 0 ≤ inP P k) : sumN (fun r => bI (¬ tgm P V k r = -2 ∧ ¬ hasR V (tgm P V k r))) 80 = vio V k (inP P k) := by
  rw [sumN_blk (b := k / 2) (by omega) (fun r _ _ h => bI_f (fun q => q.1 (if_neg h)))]
  unfold vio
  by_cases hp : inP P k = -2
  · rw [if_pos hp]
    refine sumN_z 20 (fun i h1 h2 => bI_f (fun q => q.1 ?_))
    unfold tgm tgt
    rw [if_pos (by omega), if_pos (Or.inl hp)]
  · rw [if_neg hp]
    refine sumN_cg 20 (fun i h1 h2 => bI_c ?_)
    have e : tgm P V k (k / 2 * 20 + i) = tgt P V k (k / 2 * 20 + i) := if_pos (by omega)
    rw [e]
    unfold tgt
    by_cases hv : vOf V (k / 2 * 20 + i) (k % 2) < 0
    · rw [if_pos (Or.inr hv)]
      exact ⟨fun q => absurd rfl q.1, fun q => absurd hv (by omega)⟩
    · rw [if_neg (by omega)]
      exact ⟨fun q => ⟨by omega, q.2⟩, fun q => ⟨by omega, q.2⟩⟩
def gkI (a b c : Int) : Int := if a = 0 then 1 else if b = 0 then 2 else if c = 0 then 3 else 0
theorem gkI_b (a b c : Int) : 0 ≤ gkI a b c ∧ gkI a b c ≤ 3 := by
  unfold gkI
  repeat' split
  all_goals omega

set_option maxHeartbeats 600000 in
set_option maxRecDepth 100000 in
theorem c_X8_in (l : Launch) (D : va_G) (cI cZ cC : ClassId) (v a b : Int) (g_v : ib v) (g_a : ib a) (g_b : ib b) : zRo l yX8_in wsX8_in ({ frames := 0, cells := 0, slots := 0, locals := 0 }) D cI cZ cC [] [.int (iI (v)), .int (iI (a)), .int (iI (b))] (bI (a ≤ v ∧ v ≤ b)) := by
  refine z_ofRo (cc := cX8_in) (maxL := 3) (ret := (some .boolean)) RX8 (by decide +kernel) rfl rfl (Nat.le_of_ble_eq_true rfl) ?_
  intro p0 en0 s0 m0 args0 below0 meth0 c0 ls hx hb hr hlocks hml hown hts hP hK hl
  have hl : lv_has ls 3 [(0, .int (iI (v))), (1, .int (iI (a))), (2, .int (iI (b)))] := hl
  refine lv_iload_n hx hb dX8_in_0 rfl (lv_at hl 0 rfl) ?_
  refine lv_iload_n hx hb dX8_in_1 rfl (lv_at hl 1 rfl) ?_
  refine z_icmp_lt (tgt := 14) hx hb dX8_in_2 (by decide) ⟨⟨by omega, by omega⟩, ⟨by omega, by omega⟩⟩ (fun c_1 => ?_) (fun c_1 => ?_)
  · refine lv_iconst (v := iI (0)) hx hb dX8_in_14 rfl ?_
    refine z_rretZ hx hb hr hlocks dX8_in_15 (by omega) ?_
    refine (bI_f ?_).symm
    omega
  · refine lv_iload_n hx hb dX8_in_5 rfl (lv_at hl 0 rfl) ?_
    refine lv_iload_n hx hb dX8_in_6 rfl (lv_at hl 2 rfl) ?_
    refine z_icmp_gt (tgt := 14) hx hb dX8_in_7 (by decide) ⟨⟨by omega, by omega⟩, ⟨by omega, by omega⟩⟩ (fun c_2 => ?_) (fun c_2 => ?_)
    · refine lv_iconst (v := iI (0)) hx hb dX8_in_14 rfl ?_
      refine z_rretZ hx hb hr hlocks dX8_in_15 (by omega) ?_
      refine (bI_f ?_).symm
      omega
    · refine lv_iconst (v := iI (1)) hx hb dX8_in_10 rfl ?_
      refine lv_goto (tgt := 15) hx hb dX8_in_11 (by decide) ?_
      refine z_rretZ hx hb hr hlocks dX8_in_15 (by omega) ?_
      refine (bI_t ?_).symm
      omega

set_option maxHeartbeats 600000 in
set_option maxRecDepth 100000 in
theorem c_X8_isTable (l : Launch) (D : va_G) (cI cZ cC : ClassId) (t : Int) (g_t : ib t) : zRo l yX8_isTable wsX8_isTable ({ frames := 1, cells := 0, slots := 0, locals := 22 }) D cI cZ cC [] [.int (iI (t))] (bI (0 ≤ t ∧ t ≤ 3)) := by
  refine z_ofRo (cc := cX8_isTable) (maxL := 1) (ret := (some .boolean)) RX8 (by decide +kernel) rfl rfl (Nat.le_of_ble_eq_true rfl) ?_
  intro p0 en0 s0 m0 args0 below0 meth0 c0 ls hx hb hr hlocks hml hown hts hP hK hl
  have hl : lv_has ls 1 [(0, .int (iI (t)))] := hl
  refine lv_iload_n hx hb dX8_isTable_0 rfl (lv_at hl 0 rfl) ?_
  refine lv_iconst (v := iI (0)) hx hb dX8_isTable_1 rfl ?_
  refine lv_iconst (v := iI (3)) hx hb dX8_isTable_2 rfl ?_
  refine z_roS (As := [.int (iI (t)), .int (iI (0)), .int (iI (3))]) (rest := []) ⟨hx, hb, hml, hown, hts⟩ (c_X8_in l D cI cZ cC (t) (0) (3) (by first | assumption | omega) (by first | assumption | omega) (by first | assumption | omega)) (va_cwS 3 hts gX8_isTable_X8_in rfl rfl rfl (by decide +kernel) ⟨Nat.le_of_ble_eq_true rfl, Nat.le_of_ble_eq_true rfl⟩) hP hK [] rfl rfl hl.1 rfl (Nat.le_of_ble_eq_true rfl) dX8_isTable_3 ⟨by omega, by omega⟩ ?_
  exact z_rretZ hx hb hr hlocks dX8_isTable_6 (bI_01 _) (by omega)

set_option maxHeartbeats 600000 in
set_option maxRecDepth 100000 in
theorem c_X8_isKey (l : Launch) (D : va_G) (cI cZ cC : ClassId) (t : Int) (g_t : ib t) : zRo l yX8_isKey wsX8_isKey ({ frames := 1, cells := 0, slots := 0, locals := 22 }) D cI cZ cC [] [.int (iI (t))] (bI (0 ≤ t ∧ t ≤ 19)) := by
  refine z_ofRo (cc := cX8_isKey) (maxL := 1) (ret := (some .boolean)) RX8 (by decide +kernel) rfl rfl (Nat.le_of_ble_eq_true rfl) ?_
  intro p0 en0 s0 m0 args0 below0 meth0 c0 ls hx hb hr hlocks hml hown hts hP hK hl
  have hl : lv_has ls 1 [(0, .int (iI (t)))] := hl
  refine lv_iload_n hx hb dX8_isKey_0 rfl (lv_at hl 0 rfl) ?_
  refine lv_iconst (v := iI (0)) hx hb dX8_isKey_1 rfl ?_
  refine lv_bipush (v := iI (19)) hx hb dX8_isKey_2 (by decide) ?_
  refine z_roS (As := [.int (iI (t)), .int (iI (0)), .int (iI (19))]) (rest := []) ⟨hx, hb, hml, hown, hts⟩ (c_X8_in l D cI cZ cC (t) (0) (19) (by first | assumption | omega) (by first | assumption | omega) (by first | assumption | omega)) (va_cwS 3 hts gX8_isKey_X8_in rfl rfl rfl (by decide +kernel) ⟨Nat.le_of_ble_eq_true rfl, Nat.le_of_ble_eq_true rfl⟩) hP hK [] rfl rfl hl.1 rfl (Nat.le_of_ble_eq_true rfl) dX8_isKey_4 ⟨by omega, by omega⟩ ?_
  exact z_rretZ hx hb hr hlocks dX8_isKey_7 (bI_01 _) (by omega)

set_option maxHeartbeats 600000 in
set_option maxRecDepth 100000 in
theorem c_X8_isColumn (l : Launch) (D : va_G) (cI cZ cC : ClassId) (t : Int) (g_t : ib t) : zRo l yX8_isColumn wsX8_isColumn ({ frames := 0, cells := 0, slots := 0, locals := 0 }) D cI cZ cC [] [.int (iI (t))] (bI (t = 0 ∨ t = 1)) := by
  refine z_ofRo (cc := cX8_isColumn) (maxL := 1) (ret := (some .boolean)) RX8 (by decide +kernel) rfl rfl (Nat.le_of_ble_eq_true rfl) ?_
  intro p0 en0 s0 m0 args0 below0 meth0 c0 ls hx hb hr hlocks hml hown hts hP hK hl
  have hl : lv_has ls 1 [(0, .int (iI (t)))] := hl
  refine lv_iload_n hx hb dX8_isColumn_0 rfl (lv_at hl 0 rfl) ?_
  refine z_if_eq (tgt := 9) hx hb dX8_isColumn_1 (by decide) ⟨by omega, by omega⟩ (fun c_1 => ?_) (fun c_1 => ?_)
  · refine lv_iconst (v := iI (1)) hx hb dX8_isColumn_9 rfl ?_
    refine lv_goto (tgt := 14) hx hb dX8_isColumn_10 (by decide) ?_
    refine z_rretZ hx hb hr hlocks dX8_isColumn_14 (by omega) ?_
    refine (bI_t ?_).symm
    omega
  · refine lv_iload_n hx hb dX8_isColumn_4 rfl (lv_at hl 0 rfl) ?_
    refine lv_iconst (v := iI (1)) hx hb dX8_isColumn_5 rfl ?_
    refine z_icmp_ne (tgt := 13) hx hb dX8_isColumn_6 (by decide) ⟨⟨by omega, by omega⟩, ⟨by omega, by omega⟩⟩ (fun c_2 => ?_) (fun c_2 => ?_)
    · refine lv_iconst (v := iI (0)) hx hb dX8_isColumn_13 rfl ?_
      refine z_rretZ hx hb hr hlocks dX8_isColumn_14 (by omega) ?_
      refine (bI_f ?_).symm
      omega
    · refine lv_iconst (v := iI (1)) hx hb dX8_isColumn_9 rfl ?_
      refine lv_goto (tgt := 14) hx hb dX8_isColumn_10 (by decide) ?_
      refine z_rretZ hx hb hr hlocks dX8_isColumn_14 (by omega) ?_
      refine (bI_t ?_).symm
      omega

set_option maxHeartbeats 600000 in
set_option maxRecDepth 100000 in
theorem c_X8_isValue (l : Launch) (D : va_G) (cI cZ cC : ClassId) (t : Int) (g_t : ib t) : zRo l yX8_isValue wsX8_isValue ({ frames := 1, cells := 0, slots := 0, locals := 22 }) D cI cZ cC [] [.int (iI (t))] (bI (-1 ≤ t ∧ t ≤ 19)) := by
  refine z_ofRo (cc := cX8_isValue) (maxL := 1) (ret := (some .boolean)) RX8 (by decide +kernel) rfl rfl (Nat.le_of_ble_eq_true rfl) ?_
  intro p0 en0 s0 m0 args0 below0 meth0 c0 ls hx hb hr hlocks hml hown hts hP hK hl
  have hl : lv_has ls 1 [(0, .int (iI (t)))] := hl
  refine lv_iload_n hx hb dX8_isValue_0 rfl (lv_at hl 0 rfl) ?_
  refine lv_iconst (v := iI (-1)) hx hb dX8_isValue_1 rfl ?_
  refine lv_bipush (v := iI (19)) hx hb dX8_isValue_2 (by decide) ?_
  refine z_roS (As := [.int (iI (t)), .int (iI ((-1))), .int (iI (19))]) (rest := []) ⟨hx, hb, hml, hown, hts⟩ (c_X8_in l D cI cZ cC (t) ((-1)) (19) (by first | assumption | omega) (by first | assumption | omega) (by first | assumption | omega)) (va_cwS 3 hts gX8_isValue_X8_in rfl rfl rfl (by decide +kernel) ⟨Nat.le_of_ble_eq_true rfl, Nat.le_of_ble_eq_true rfl⟩) hP hK [] rfl rfl hl.1 rfl (Nat.le_of_ble_eq_true rfl) dX8_isValue_4 ⟨by omega, by omega⟩ ?_
  exact z_rretZ hx hb hr hlocks dX8_isValue_7 (bI_01 _) (by omega)

set_option maxHeartbeats 600000 in
set_option maxRecDepth 100000 in
theorem c_X8_row (l : Launch) (D : va_G) (cI cZ cC : ClassId) (t k : Int) : zRo l yX8_row wsX8_row ({ frames := 0, cells := 0, slots := 0, locals := 0 }) D cI cZ cC [] [.int (iI (t)), .int (iI (k))] (20 * t + k) := by
  refine z_ofRo (cc := cX8_row) (maxL := 2) (ret := (some .int)) RX8 (by decide +kernel) rfl rfl (Nat.le_of_ble_eq_true rfl) ?_
  intro p0 en0 s0 m0 args0 below0 meth0 c0 ls hx hb hr hlocks hml hown hts hP hK hl
  have hl : lv_has ls 2 [(0, .int (iI (t))), (1, .int (iI (k)))] := hl
  refine lv_bipush (v := iI (20)) hx hb dX8_row_0 (by decide) ?_
  refine lv_iload_n hx hb dX8_row_2 rfl (lv_at hl 0 rfl) ?_
  refine z_imul hx hb dX8_row_3 ?_
  refine lv_iload_n hx hb dX8_row_4 rfl (lv_at hl 1 rfl) ?_
  refine z_iadd hx hb dX8_row_5 ?_
  refine z_rret hx hb hr hlocks dX8_row_6 ?_
  rfl

set_option maxHeartbeats 600000 in
set_option maxRecDepth 100000 in
theorem c_X8_code (l : Launch) (D : va_G) (cI cZ cC : ClassId) (k : Int) : zRo l yX8_code wsX8_code ({ frames := 0, cells := 0, slots := 0, locals := 0 }) D cI cZ cC [] [.int (iI (k))] (-10 - k) := by
  refine z_ofRo (cc := cX8_code) (maxL := 1) (ret := (some .int)) RX8 (by decide +kernel) rfl rfl (Nat.le_of_ble_eq_true rfl) ?_
  intro p0 en0 s0 m0 args0 below0 meth0 c0 ls hx hb hr hlocks hml hown hts hP hK hl
  have hl : lv_has ls 1 [(0, .int (iI (k)))] := hl
  refine lv_bipush (v := iI (-10)) hx hb dX8_code_0 (by decide) ?_
  refine lv_iload_n hx hb dX8_code_2 rfl (lv_at hl 0 rfl) ?_
  refine z_isub hx hb dX8_code_3 ?_
  refine z_rret hx hb hr hlocks dX8_code_4 ?_
  rfl

set_option maxHeartbeats 600000 in
set_option maxRecDepth 100000 in
theorem c_X8_thrown (l : Launch) (D : va_G) (cI cZ cC : ClassId) (bd : Nat → Nat) (cn mp ty th sp ta ke on tw : Int) : zRo l yX8_thrown wsX8_thrown ({ frames := 0, cells := 0, slots := 0, locals := 0 }) D cI cZ cC [(bd 0, .inr (8, [.ref (bd 1), .ref (bd 2), .ref (bd 3), .ref (bd 4), .ref (bd 5), .ref (bd 6), .ref (bd 7), .int (iI (cn)), .ref (bd 8), .int (iI (mp)), .ref (bd 9), .int (iI (ty)), .int (iI (th)), .ref (bd 10), .ref (bd 11), .int (iI (sp)), .int (iI (ta)), .int (iI (ke)), .int (iI (on)), .int (iI (tw))]))] [.ref (bd 0)] (th) := by
  refine z_ofRo (cc := cX8_thrown) (maxL := 1) (ret := (some .int)) RX8 (by decide +kernel) rfl rfl (Nat.le_of_ble_eq_true rfl) ?_
  intro p0 en0 s0 m0 args0 below0 meth0 c0 ls hx hb hr hlocks hml hown hts hP hK hl
  have hl : lv_has ls 1 [(0, .ref (bd 0))] := hl
  refine lv_aload_n hx hb dX8_thrown_0 rfl (lv_at hl 0 rfl) ?_
  refine va_get (D := D) (ci := 8) (v := .int (iI (th))) (C := RX8) (T := TX8) (N := 20) hx hb hts (fun _ h => List.mem_cons_of_mem _ (List.mem_append_right _ (h))) hown hK.1 hP 0 rfl rfl 12 (by decide) (hts (.fieldLink RX8 45 "ForeignKeyStoreModel" "thrown" "I") (List.mem_of_getElem? (i := 1) rfl)) (fun _ h9 => h9) rfl dX8_thrown_1 ?_
  refine z_rret hx hb hr hlocks dX8_thrown_4 ?_
  rfl

set_option maxHeartbeats 600000 in
set_option maxRecDepth 100000 in
theorem c_X8_target (l : Launch) (D : va_G) (cI cZ cC : ClassId) (bd : Nat → Nat) (cn mp ty th sp ta ke on tw : Int) (Ir Vm V : Int → Int) (Ic Pm Am Dm P Ac Mo : Int → Int) (r k : Int) (g_R : rV Ir Vm V) (g_C : rC8 Ic Pm Am Dm P Ac Mo) (g_r : 0 ≤ r ∧ r < 80) (g_k : 0 ≤ k ∧ k < 8) : zRo l yX8_target wsX8_target ({ frames := 1, cells := 0, slots := 0, locals := 21 }) D cI cZ cC [(bd 0, .inr (8, [.ref (bd 1), .ref (bd 2), .ref (bd 3), .ref (bd 4), .ref (bd 5), .ref (bd 6), .ref (bd 7), .int (iI (cn)), .ref (bd 8), .int (iI (mp)), .ref (bd 9), .int (iI (ty)), .int (iI (th)), .ref (bd 10), .ref (bd 11), .int (iI (sp)), .int (iI (ta)), .int (iI (ke)), .int (iI (on)), .int (iI (tw))])), (bd 1, .inl (cZ, 80, .inl (iA (Ir)))), (bd 2, .inl (cI, 160, .inl (iA (Vm)))), (bd 3, .inl (cZ, 8, .inl (iA (Ic)))), (bd 4, .inl (cI, 8, .inl (iA (Pm))))] [.ref (bd 0), .int (iI (r)), .int (iI (k))] (tgm P V k r) := by
  refine z_ofRo (cc := cX8_target) (maxL := 5) (ret := (some .int)) RX8 (by decide +kernel) rfl rfl (Nat.le_of_ble_eq_true rfl) ?_
  intro p0 en0 s0 m0 args0 below0 meth0 c0 ls hx hb hr hlocks hml hown hts hP hK hl
  have hl : lv_has ls 5 [(0, .ref (bd 0)), (1, .int (iI (r))), (2, .int (iI (k)))] := hl
  have g_Ir := rV_01 g_R
  have g_Vm := rV_all g_R
  have g_Ic := rC_i g_C
  have g_Pm := rC_p g_C
  have g_Am := rC_a g_C
  have g_Dm := rC_d g_C
  have g_f := rV_c g_R (c := k % 2) g_r (by omega)
  have g_h := rC_k g_C g_k
  refine lv_aload_n hx hb dX8_target_0 rfl (lv_at hl 0 rfl) ?_
  refine va_get (D := D) (ci := 8) (v := .ref (bd 1)) (C := RX8) (T := TX8) (N := 20) hx hb hts (fun _ h => List.mem_cons_of_mem _ (List.mem_append_right _ (h))) hown hK.1 hP 0 rfl rfl 0 (by decide) (hts (.fieldLink RX8 7 "ForeignKeyStoreModel" "isRow" "[Z") (List.mem_of_getElem? (i := 1) rfl)) (fun _ h9 => h9) rfl dX8_target_1 ?_
  refine lv_iload_n hx hb dX8_target_4 rfl (lv_at hl 1 rfl) ?_
  refine z_zald hx hb hK.1 hP 1 1 rfl rfl (by omega) (by decide) dX8_target_5 ?_
  have hb_1 := g_Ir (r) (by omega) (by omega)
  refine z_if_eq (tgt := 32) hx hb dX8_target_6 (by decide) ⟨by omega, by omega⟩ (fun c_2 => ?_) (fun c_2 => ?_)
  · refine lv_iconst (v := iI (0)) hx hb dX8_target_32 rfl ?_
    refine lv_istore_n (lv' := [(3, .int (iI (0))), (0, .ref (bd 0)), (1, .int (iI (r))), (2, .int (iI (k)))]) hx hb dX8_target_33 rfl hl (by decide) rfl (fun ls hl => ?_)
    refine lv_iload_n hx hb dX8_target_34 rfl (lv_at hl 0 rfl) ?_
    refine z_if_eq (tgt := 53) hx hb dX8_target_35 (by decide) ⟨by omega, by omega⟩ (fun c_3 => ?_) (fun c_3 => ?_)
    · refine lv_iconst (v := iI (-1)) hx hb dX8_target_53 rfl ?_
      refine lv_istore (lv' := [(4, .int (iI ((-1)))), (3, .int (iI (0))), (0, .ref (bd 0)), (1, .int (iI (r))), (2, .int (iI (k)))]) hx hb dX8_target_54 hl (by decide) rfl (fun ls hl => ?_)
      refine lv_iload hx hb dX8_target_56 (lv_at hl 0 rfl) ?_
      refine lv_iconst (v := iI (-1)) hx hb dX8_target_58 rfl ?_
      refine z_icmp_ne (tgt := 67) hx hb dX8_target_59 (by decide) ⟨⟨by omega, by omega⟩, ⟨by omega, by omega⟩⟩ (fun c_4 => ?_) (fun c_4 => ?_)
      · exfalso
        omega
      · refine lv_bipush (v := iI (-2)) hx hb dX8_target_62 (by decide) ?_
        refine lv_goto (tgt := 78) hx hb dX8_target_64 (by decide) ?_
        refine z_rret hx hb hr hlocks dX8_target_78 ?_
        unfold tgm tgt; split <;> (try split) <;> omega
    · exfalso
      omega
  · refine lv_aload_n hx hb dX8_target_9 rfl (lv_at hl 0 rfl) ?_
    refine va_get (D := D) (ci := 8) (v := .ref (bd 3)) (C := RX8) (T := TX8) (N := 20) hx hb hts (fun _ h => List.mem_cons_of_mem _ (List.mem_append_right _ (h))) hown hK.1 hP 0 rfl rfl 2 (by decide) (hts (.fieldLink RX8 17 "ForeignKeyStoreModel" "isConstraint" "[Z") (List.mem_of_getElem? (i := 2) rfl)) (fun _ h9 => h9) rfl dX8_target_10 ?_
    refine lv_iload_n hx hb dX8_target_13 rfl (lv_at hl 2 rfl) ?_
    refine z_zald hx hb hK.1 hP 3 1 rfl rfl (by omega) (by decide) dX8_target_14 ?_
    have hb_5 := g_Ic (k) (by omega) (by omega)
    refine z_if_eq (tgt := 32) hx hb dX8_target_15 (by decide) ⟨by omega, by omega⟩ (fun c_6 => ?_) (fun c_6 => ?_)
    · refine lv_iconst (v := iI (0)) hx hb dX8_target_32 rfl ?_
      refine lv_istore_n (lv' := [(3, .int (iI (0))), (0, .ref (bd 0)), (1, .int (iI (r))), (2, .int (iI (k)))]) hx hb dX8_target_33 rfl hl (by decide) rfl (fun ls hl => ?_)
      refine lv_iload_n hx hb dX8_target_34 rfl (lv_at hl 0 rfl) ?_
      refine z_if_eq (tgt := 53) hx hb dX8_target_35 (by decide) ⟨by omega, by omega⟩ (fun c_7 => ?_) (fun c_7 => ?_)
      · refine lv_iconst (v := iI (-1)) hx hb dX8_target_53 rfl ?_
        refine lv_istore (lv' := [(4, .int (iI ((-1)))), (3, .int (iI (0))), (0, .ref (bd 0)), (1, .int (iI (r))), (2, .int (iI (k)))]) hx hb dX8_target_54 hl (by decide) rfl (fun ls hl => ?_)
        refine lv_iload hx hb dX8_target_56 (lv_at hl 0 rfl) ?_
        refine lv_iconst (v := iI (-1)) hx hb dX8_target_58 rfl ?_
        refine z_icmp_ne (tgt := 67) hx hb dX8_target_59 (by decide) ⟨⟨by omega, by omega⟩, ⟨by omega, by omega⟩⟩ (fun c_8 => ?_) (fun c_8 => ?_)
        · exfalso
          omega
        · refine lv_bipush (v := iI (-2)) hx hb dX8_target_62 (by decide) ?_
          refine lv_goto (tgt := 78) hx hb dX8_target_64 (by decide) ?_
          refine z_rret hx hb hr hlocks dX8_target_78 ?_
          unfold tgm tgt; split <;> (try split) <;> omega
      · exfalso
        omega
    · refine lv_iload_n hx hb dX8_target_18 rfl (lv_at hl 1 rfl) ?_
      refine lv_bipush (v := iI (20)) hx hb dX8_target_19 (by decide) ?_
      refine z_idiv hx hb dX8_target_21 (by omega) (by omega) ?_
      refine lv_iload_n hx hb dX8_target_22 rfl (lv_at hl 2 rfl) ?_
      refine lv_iconst (v := iI (2)) hx hb dX8_target_23 rfl ?_
      refine z_idiv hx hb dX8_target_24 (by omega) (by omega) ?_
      refine z_icmp_ne (tgt := 32) hx hb dX8_target_25 (by decide) ⟨⟨by omega, by omega⟩, ⟨by omega, by omega⟩⟩ (fun c_9 => ?_) (fun c_9 => ?_)
      · refine lv_iconst (v := iI (0)) hx hb dX8_target_32 rfl ?_
        refine lv_istore_n (lv' := [(3, .int (iI (0))), (0, .ref (bd 0)), (1, .int (iI (r))), (2, .int (iI (k)))]) hx hb dX8_target_33 rfl hl (by decide) rfl (fun ls hl => ?_)
        refine lv_iload_n hx hb dX8_target_34 rfl (lv_at hl 0 rfl) ?_
        refine z_if_eq (tgt := 53) hx hb dX8_target_35 (by decide) ⟨by omega, by omega⟩ (fun c_10 => ?_) (fun c_10 => ?_)
        · refine lv_iconst (v := iI (-1)) hx hb dX8_target_53 rfl ?_
          refine lv_istore (lv' := [(4, .int (iI ((-1)))), (3, .int (iI (0))), (0, .ref (bd 0)), (1, .int (iI (r))), (2, .int (iI (k)))]) hx hb dX8_target_54 hl (by decide) rfl (fun ls hl => ?_)
          refine lv_iload hx hb dX8_target_56 (lv_at hl 0 rfl) ?_
          refine lv_iconst (v := iI (-1)) hx hb dX8_target_58 rfl ?_
          refine z_icmp_ne (tgt := 67) hx hb dX8_target_59 (by decide) ⟨⟨by omega, by omega⟩, ⟨by omega, by omega⟩⟩ (fun c_11 => ?_) (fun c_11 => ?_)
          · exfalso
            omega
          · refine lv_bipush (v := iI (-2)) hx hb dX8_target_62 (by decide) ?_
            refine lv_goto (tgt := 78) hx hb dX8_target_64 (by decide) ?_
            refine z_rret hx hb hr hlocks dX8_target_78 ?_
            unfold tgm tgt; split <;> (try split) <;> omega
        · exfalso
          omega
      · refine lv_iconst (v := iI (1)) hx hb dX8_target_28 rfl ?_
        refine lv_goto (tgt := 33) hx hb dX8_target_29 (by decide) ?_
        refine lv_istore_n (lv' := [(3, .int (iI (1))), (0, .ref (bd 0)), (1, .int (iI (r))), (2, .int (iI (k)))]) hx hb dX8_target_33 rfl hl (by decide) rfl (fun ls hl => ?_)
        refine lv_iload_n hx hb dX8_target_34 rfl (lv_at hl 0 rfl) ?_
        refine z_if_eq (tgt := 53) hx hb dX8_target_35 (by decide) ⟨by omega, by omega⟩ (fun c_12 => ?_) (fun c_12 => ?_)
        · exfalso
          omega
        · refine lv_aload_n hx hb dX8_target_38 rfl (lv_at hl 1 rfl) ?_
          refine va_get (D := D) (ci := 8) (v := .ref (bd 2)) (C := RX8) (T := TX8) (N := 20) hx hb hts (fun _ h => List.mem_cons_of_mem _ (List.mem_append_right _ (h))) hown hK.1 hP 0 rfl rfl 1 (by decide) (hts (.fieldLink RX8 13 "ForeignKeyStoreModel" "values" "[I") (List.mem_of_getElem? (i := 3) rfl)) (fun _ h9 => h9) rfl dX8_target_39 ?_
          refine lv_iconst (v := iI (2)) hx hb dX8_target_42 rfl ?_
          refine lv_iload_n hx hb dX8_target_43 rfl (lv_at hl 2 rfl) ?_
          refine z_imul hx hb dX8_target_44 ?_
          refine lv_iload_n hx hb dX8_target_45 rfl (lv_at hl 3 rfl) ?_
          refine lv_iconst (v := iI (2)) hx hb dX8_target_46 rfl ?_
          refine z_irem hx hb dX8_target_47 (by omega) (by omega) ?_
          refine z_iadd hx hb dX8_target_48 ?_
          refine z_iald hx hb hK.1 hP 2 0 rfl rfl (by omega) (by decide) dX8_target_49 ?_
          have hb_13 := g_Vm (((2 * r) + (k % 2))) (by omega) (by omega)
          refine lv_goto (tgt := 54) hx hb dX8_target_50 (by decide) ?_
          refine lv_istore (lv' := [(4, .int (iI ((Vm (((2 * r) + (k % 2))))))), (3, .int (iI (1))), (0, .ref (bd 0)), (1, .int (iI (r))), (2, .int (iI (k)))]) hx hb dX8_target_54 hl (by decide) rfl (fun ls hl => ?_)
          refine lv_iload hx hb dX8_target_56 (lv_at hl 0 rfl) ?_
          refine lv_iconst (v := iI (-1)) hx hb dX8_target_58 rfl ?_
          refine z_icmp_ne (tgt := 67) hx hb dX8_target_59 (by decide) ⟨⟨by omega, by omega⟩, ⟨by omega, by omega⟩⟩ (fun c_14 => ?_) (fun c_14 => ?_)
          · refine lv_aload_n hx hb dX8_target_67 rfl (lv_at hl 2 rfl) ?_
            refine va_get (D := D) (ci := 8) (v := .ref (bd 4)) (C := RX8) (T := TX8) (N := 20) hx hb hts (fun _ h => List.mem_cons_of_mem _ (List.mem_append_right _ (h))) hown hK.1 hP 0 rfl rfl 3 (by decide) (hts (.fieldLink RX8 20 "ForeignKeyStoreModel" "parents" "[I") (List.mem_of_getElem? (i := 4) rfl)) (fun _ h9 => h9) rfl dX8_target_68 ?_
            refine lv_iload_n hx hb dX8_target_71 rfl (lv_at hl 4 rfl) ?_
            refine z_iald hx hb hK.1 hP 4 0 rfl rfl (by omega) (by decide) dX8_target_72 ?_
            have hb_15 := g_Pm (k) (by omega) (by omega)
            refine lv_iload hx hb dX8_target_73 (lv_at hl 0 rfl) ?_
            refine z_roS (As := [.int (iI ((Pm (k)))), .int (iI ((Vm (((2 * r) + (k % 2))))))]) (rest := []) ⟨hx, hb, hml, hown, hts⟩ (c_X8_row l D cI cZ cC ((Pm (k))) ((Vm (((2 * r) + (k % 2))))) ) (va_cwS 2 hts gX8_target_X8_row rfl rfl rfl (by decide +kernel) ⟨Nat.le_of_ble_eq_true rfl, Nat.le_of_ble_eq_true rfl⟩) hP hK [] rfl rfl hl.1 rfl (Nat.le_of_ble_eq_true rfl) dX8_target_75 ⟨by omega, by omega⟩ ?_
            refine z_rret hx hb hr hlocks dX8_target_78 ?_
            unfold tgm tgt; split <;> (try split) <;> omega
          · refine lv_bipush (v := iI (-2)) hx hb dX8_target_62 (by decide) ?_
            refine lv_goto (tgt := 78) hx hb dX8_target_64 (by decide) ?_
            refine z_rret hx hb hr hlocks dX8_target_78 ?_
            unfold tgm tgt; split <;> (try split) <;> omega

set_option maxHeartbeats 600000 in
set_option maxRecDepth 100000 in
theorem c_X8_violations (l : Launch) (D : va_G) (cI cZ cC : ClassId) (bd : Nat → Nat) (cn mp ty th sp ta ke on tw : Int) (Ir Vm V : Int → Int) (Ic Pm Am Dm P Ac Mo : Int → Int) (k : Int) (g_R : rV Ir Vm V) (g_C : rC8 Ic Pm Am Dm P Ac Mo) (g_k : 0 ≤ k ∧ k < 8) : zRo l yX8_violations wsX8_violations ({ frames := 2, cells := 0, slots := 0, locals := 45 }) D cI cZ cC [(bd 0, .inr (8, [.ref (bd 1), .ref (bd 2), .ref (bd 3), .ref (bd 4), .ref (bd 5), .ref (bd 6), .ref (bd 7), .int (iI (cn)), .ref (bd 8), .int (iI (mp)), .ref (bd 9), .int (iI (ty)), .int (iI (th)), .ref (bd 10), .ref (bd 11), .int (iI (sp)), .int (iI (ta)), .int (iI (ke)), .int (iI (on)), .int (iI (tw))])), (bd 1, .inl (cZ, 80, .inl (iA (Ir)))), (bd 2, .inl (cI, 160, .inl (iA (Vm)))), (bd 3, .inl (cZ, 8, .inl (iA (Ic)))), (bd 4, .inl (cI, 8, .inl (iA (Pm))))] [.ref (bd 0), .int (iI (k))] (vio V k (inP P k)) := by
  refine z_ofRo (cc := cX8_violations) (maxL := 5) (ret := (some .int)) RX8 (by decide +kernel) rfl rfl (Nat.le_of_ble_eq_true rfl) ?_
  intro p0 en0 s0 m0 args0 below0 meth0 c0 ls hx hb hr hlocks hml hown hts hP hK hl
  have hl : lv_has ls 5 [(0, .ref (bd 0)), (1, .int (iI (k)))] := hl
  have g_Ir := rV_01 g_R
  have g_Vm := rV_all g_R
  have g_Ic := rC_i g_C
  have g_Pm := rC_p g_C
  have g_Am := rC_a g_C
  have g_Dm := rC_d g_C
  have g_h := rC_k g_C g_k
  refine lv_iconst (v := iI (0)) hx hb dX8_violations_0 rfl ?_
  refine lv_istore_n (lv' := [(2, .int (iI (0))), (0, .ref (bd 0)), (1, .int (iI (k)))]) hx hb dX8_violations_1 rfl hl (by decide) rfl (fun ls hl => ?_)
  refine lv_iconst (v := iI (0)) hx hb dX8_violations_2 rfl ?_
  refine lv_istore_n (lv' := [(3, .int (iI (0))), (2, .int (iI (0))), (0, .ref (bd 0)), (1, .int (iI (k)))]) hx hb dX8_violations_3 rfl hl (by decide) rfl (fun ls hl => ?_)
  have loop4 : ∀ (fu : Nat) (i : Nat) (cnt : Int), (g_i : i ≤ 80) → (g_n : 80 < i + fu) → (g_c : cnt = sumN (fun r => bI (¬ tgm P V k r = -2 ∧ ¬ hasR V (tgm P V k r))) i) → ∀ ls : Array Slot, lv_has ls 5 [(3, .int (iI ((i : Int)))), (2, .int (iI (cnt))), (0, .ref (bd 0)), (1, .int (iI (k)))] → W p0 l en0 (headSpec wsX8_violations ({ frames := 2, cells := 0, slots := 0, locals := 45 })).room s0 m0 args0 below0 meth0 c0 s0.heap [] 0 0 (QRo below0 (vio V k (inP P k)) args0 s0) (F0 m0 4 ls []) := by
    intro fu
    induction fu with
    | zero => intro i cnt g_i g_n g_c ls hl; exfalso; omega
    | succ fu ih4 =>
      intro i cnt g_i g_n g_c ls hl
      refine lv_iload_n hx hb dX8_violations_4 rfl (lv_at hl 0 rfl) ?_
      refine lv_bipush (v := iI (80)) hx hb dX8_violations_5 (by decide) ?_
      refine z_icmp_ge (tgt := 49) hx hb dX8_violations_7 (by decide) ⟨⟨by omega, by omega⟩, ⟨by omega, by omega⟩⟩ (fun c_1 => ?_) (fun c_1 => ?_)
      · refine lv_iload_n hx hb dX8_violations_49 rfl (lv_at hl 1 rfl) ?_
        refine z_rret hx hb hr hlocks dX8_violations_50 ?_
        rw [← vio_m P V g_k (by omega), g_c]; congr 1; omega
      · refine lv_aload_n hx hb dX8_violations_10 rfl (lv_at hl 2 rfl) ?_
        refine lv_iload_n hx hb dX8_violations_11 rfl (lv_at hl 0 rfl) ?_
        refine lv_iload_n hx hb dX8_violations_12 rfl (lv_at hl 3 rfl) ?_
        refine z_roV (As := [.int (iI ((i : Int))), .int (iI (k))]) (rest := []) ⟨hx, hb, hml, hown, hts⟩ (c_X8_target l D cI cZ cC (bd) (cn) (mp) (ty) (th) (sp) (ta) (ke) (on) (tw) (Ir) (Vm) (V) (Ic) (Pm) (Am) (Dm) (P) (Ac) (Mo) ((i : Int)) (k) (by first | assumption | omega) (by first | assumption | omega) (by first | assumption | omega) (by first | assumption | omega)) (cwV 2 hts gX8_violations_X8_target rfl rfl rfl (by decide +kernel) ⟨Nat.le_of_ble_eq_true rfl, Nat.le_of_ble_eq_true rfl⟩) hP hK [0, 1, 2, 3, 4] rfl 0 8 rfl rfl rfl rfl hl.1 rfl (Nat.le_of_ble_eq_true rfl) dX8_violations_13 ⟨by omega, by omega⟩ ?_
        have hf_2 := tgm_b g_R g_C (k) (((i : Int))) (by omega) (by omega)
        refine lv_istore (lv' := [(4, .int (iI ((tgm P V k ((i : Int)))))), (3, .int (iI ((i : Int)))), (2, .int (iI (cnt))), (0, .ref (bd 0)), (1, .int (iI (k)))]) hx hb dX8_violations_16 hl (by decide) rfl (fun ls hl => ?_)
        refine lv_iload_n hx hb dX8_violations_18 rfl (lv_at hl 2 rfl) ?_
        refine lv_iload hx hb dX8_violations_19 (lv_at hl 0 rfl) ?_
        refine lv_bipush (v := iI (-2)) hx hb dX8_violations_21 (by decide) ?_
        refine z_icmp_eq (tgt := 40) hx hb dX8_violations_23 (by decide) ⟨⟨by omega, by omega⟩, ⟨by omega, by omega⟩⟩ (fun c_3 => ?_) (fun c_3 => ?_)
        · refine lv_iconst (v := iI (0)) hx hb dX8_violations_40 rfl ?_
          refine z_iadd hx hb dX8_violations_41 ?_
          refine lv_istore_n (lv' := [(2, .int (iI ((cnt + 0)))), (4, .int (iI ((tgm P V k ((i : Int)))))), (3, .int (iI ((i : Int)))), (0, .ref (bd 0)), (1, .int (iI (k)))]) hx hb dX8_violations_42 rfl hl (by decide) rfl (fun ls hl => ?_)
          refine lv_iinc (v := iI ((i : Int) + 1)) (lv' := [(3, .int (iI ((i : Int) + 1))), (2, .int (iI ((cnt + 0)))), (4, .int (iI ((tgm P V k ((i : Int)))))), (0, .ref (bd 0)), (1, .int (iI (k)))]) hx hb dX8_violations_43 hl (k := 2) rfl (iI_add ((i : Int)) (1)) (by decide) rfl (fun ls hl => ?_)
          refine lv_goto (tgt := 4) hx hb dX8_violations_46 (by decide) ?_
          exact ih4 (i + 1) _ (by omega) (by omega) (by rw [sumN, ← g_c, bI_f (fun q => q.1 (by omega))]; try omega) _ (lv_sub hl [0, 1, 3, 4] rfl)
        · have h_q := rV_has g_R (r := tgm P V k (i : Int)) (by omega)
          refine lv_aload_n hx hb dX8_violations_26 rfl (lv_at hl 3 rfl) ?_
          refine va_get (D := D) (ci := 8) (v := .ref (bd 1)) (C := RX8) (T := TX8) (N := 20) hx hb hts (fun _ h => List.mem_cons_of_mem _ (List.mem_append_right _ (h))) hown hK.1 hP 0 rfl rfl 0 (by decide) (hts (.fieldLink RX8 7 "ForeignKeyStoreModel" "isRow" "[Z") (List.mem_of_getElem? (i := 1) rfl)) (fun _ h9 => h9) rfl dX8_violations_27 ?_
          refine lv_iload hx hb dX8_violations_30 (lv_at hl 0 rfl) ?_
          refine z_zald hx hb hK.1 hP 1 1 rfl rfl (by omega) (by decide) dX8_violations_32 ?_
          have hb_4 := g_Ir ((tgm P V k ((i : Int)))) (by omega) (by omega)
          refine z_if_ne (tgt := 40) hx hb dX8_violations_33 (by decide) ⟨by omega, by omega⟩ (fun c_5 => ?_) (fun c_5 => ?_)
          · refine lv_iconst (v := iI (0)) hx hb dX8_violations_40 rfl ?_
            refine z_iadd hx hb dX8_violations_41 ?_
            refine lv_istore_n (lv' := [(2, .int (iI ((cnt + 0)))), (4, .int (iI ((tgm P V k ((i : Int)))))), (3, .int (iI ((i : Int)))), (0, .ref (bd 0)), (1, .int (iI (k)))]) hx hb dX8_violations_42 rfl hl (by decide) rfl (fun ls hl => ?_)
            refine lv_iinc (v := iI ((i : Int) + 1)) (lv' := [(3, .int (iI ((i : Int) + 1))), (2, .int (iI ((cnt + 0)))), (4, .int (iI ((tgm P V k ((i : Int)))))), (0, .ref (bd 0)), (1, .int (iI (k)))]) hx hb dX8_violations_43 hl (k := 2) rfl (iI_add ((i : Int)) (1)) (by decide) rfl (fun ls hl => ?_)
            refine lv_goto (tgt := 4) hx hb dX8_violations_46 (by decide) ?_
            exact ih4 (i + 1) _ (by omega) (by omega) (by rw [sumN, ← g_c, bI_f (fun q => q.2 (h_q.2 (by omega)))]; try omega) _ (lv_sub hl [0, 1, 3, 4] rfl)
          · refine lv_iconst (v := iI (1)) hx hb dX8_violations_36 rfl ?_
            refine lv_goto (tgt := 41) hx hb dX8_violations_37 (by decide) ?_
            refine z_iadd hx hb dX8_violations_41 ?_
            refine lv_istore_n (lv' := [(2, .int (iI ((cnt + 1)))), (4, .int (iI ((tgm P V k ((i : Int)))))), (3, .int (iI ((i : Int)))), (0, .ref (bd 0)), (1, .int (iI (k)))]) hx hb dX8_violations_42 rfl hl (by decide) rfl (fun ls hl => ?_)
            refine lv_iinc (v := iI ((i : Int) + 1)) (lv' := [(3, .int (iI ((i : Int) + 1))), (2, .int (iI ((cnt + 1)))), (4, .int (iI ((tgm P V k ((i : Int)))))), (0, .ref (bd 0)), (1, .int (iI (k)))]) hx hb dX8_violations_43 hl (k := 2) rfl (iI_add ((i : Int)) (1)) (by decide) rfl (fun ls hl => ?_)
            refine lv_goto (tgt := 4) hx hb dX8_violations_46 (by decide) ?_
            exact ih4 (i + 1) _ (by omega) (by omega) (by rw [sumN, ← g_c, bI_t ⟨by omega, fun q => by have := h_q.1 q; omega⟩]; try omega) _ (lv_sub hl [0, 1, 3, 4] rfl)
  exact loop4 81 0 0 (by omega) (by omega) rfl _ (lv_sub hl [0, 1, 2, 3] rfl)

set_option maxHeartbeats 600000 in
set_option maxRecDepth 100000 in
theorem c_X8_violated (l : Launch) (D : va_G) (cI cZ cC : ClassId) (bd : Nat → Nat) (cn mp ty th sp ta ke on tw : Int) (Ir Vm V : Int → Int) (Ic Pm Am Dm P Ac Mo : Int → Int) (d : Int) (g_R : rV Ir Vm V) (g_C : rC8 Ic Pm Am Dm P Ac Mo) (g_d : d = 0 ∨ d = 1) : zRo l yX8_violated wsX8_violated ({ frames := 3, cells := 0, slots := 0, locals := 69 }) D cI cZ cC [(bd 0, .inr (8, [.ref (bd 1), .ref (bd 2), .ref (bd 3), .ref (bd 4), .ref (bd 5), .ref (bd 6), .ref (bd 7), .int (iI (cn)), .ref (bd 8), .int (iI (mp)), .ref (bd 9), .int (iI (ty)), .int (iI (th)), .ref (bd 10), .ref (bd 11), .int (iI (sp)), .int (iI (ta)), .int (iI (ke)), .int (iI (on)), .int (iI (tw))])), (bd 1, .inl (cZ, 80, .inl (iA (Ir)))), (bd 2, .inl (cI, 160, .inl (iA (Vm)))), (bd 3, .inl (cZ, 8, .inl (iA (Ic)))), (bd 4, .inl (cI, 8, .inl (iA (Pm)))), (bd 6, .inl (cZ, 8, .inl (iA (Dm))))] [.ref (bd 0), .int (iI (d))] (fR (badC d Mo P V) 8 0) := by
  refine z_ofRo (cc := cX8_violated) (maxL := 3) (ret := (some .int)) RX8 (by decide +kernel) rfl rfl (Nat.le_of_ble_eq_true rfl) ?_
  intro p0 en0 s0 m0 args0 below0 meth0 c0 ls hx hb hr hlocks hml hown hts hP hK hl
  have hl : lv_has ls 3 [(0, .ref (bd 0)), (1, .int (iI (d)))] := hl
  have g_Ir := rV_01 g_R
  have g_Vm := rV_all g_R
  have g_Ic := rC_i g_C
  have g_Pm := rC_p g_C
  have g_Am := rC_a g_C
  have g_Dm := rC_d g_C
  refine lv_iconst (v := iI (0)) hx hb dX8_violated_0 rfl ?_
  refine lv_istore_n (lv' := [(2, .int (iI (0))), (0, .ref (bd 0)), (1, .int (iI (d)))]) hx hb dX8_violated_1 rfl hl (by decide) rfl (fun ls hl => ?_)
  have loop2 : ∀ (fu : Nat) (i : Nat), (g_i : i ≤ 8) → (g_n : 8 < i + fu) → (g_c : fR (badC d Mo P V) 8 0 = fR (badC d Mo P V) (8 - i) i) → ∀ ls : Array Slot, lv_has ls 3 [(2, .int (iI ((i : Int)))), (0, .ref (bd 0)), (1, .int (iI (d)))] → W p0 l en0 (headSpec wsX8_violated ({ frames := 3, cells := 0, slots := 0, locals := 69 })).room s0 m0 args0 below0 meth0 c0 s0.heap [] 0 0 (QRo below0 (fR (badC d Mo P V) 8 0) args0 s0) (F0 m0 2 ls []) := by
    intro fu
    induction fu with
    | zero => intro i g_i g_n g_c ls hl; exfalso; omega
    | succ fu ih2 =>
      intro i g_i g_n g_c ls hl
      refine lv_iload_n hx hb dX8_violated_2 rfl (lv_at hl 0 rfl) ?_
      refine lv_bipush (v := iI (8)) hx hb dX8_violated_3 (by decide) ?_
      have h_k := fun q : (i : Int) < 8 => rC_k g_C (k := (i : Int)) ⟨by omega, q⟩
      have h_v := vio_b V (i : Int) (inP P (i : Int))
      have h_z : inP P (i : Int) = -2 → vio V (i : Int) (inP P (i : Int)) = 0 := fun q => by unfold vio; rw [if_pos q]
      refine z_icmp_ge (tgt := 40) hx hb dX8_violated_5 (by decide) ⟨⟨by omega, by omega⟩, ⟨by omega, by omega⟩⟩ (fun c_1 => ?_) (fun c_1 => ?_)
      · refine lv_iconst (v := iI (0)) hx hb dX8_violated_40 rfl ?_
        refine z_rret hx hb hr hlocks dX8_violated_41 ?_
        first | (rw [g_c, show 8 - i = (7 - i) + 1 by omega, fR_t (by have := h_k (by omega); unfold badC; omega)]; done) | (rw [g_c, show 8 - i = 0 by omega]; rfl)
      · refine lv_iload_n hx hb dX8_violated_8 rfl (lv_at hl 2 rfl) ?_
        refine z_if_ne (tgt := 21) hx hb dX8_violated_9 (by decide) ⟨by omega, by omega⟩ (fun c_2 => ?_) (fun c_2 => ?_)
        · refine lv_aload_n hx hb dX8_violated_21 rfl (lv_at hl 1 rfl) ?_
          refine lv_iload_n hx hb dX8_violated_22 rfl (lv_at hl 0 rfl) ?_
          refine z_roV (As := [.int (iI ((i : Int)))]) (rest := []) ⟨hx, hb, hml, hown, hts⟩ (c_X8_violations l D cI cZ cC (bd) (cn) (mp) (ty) (th) (sp) (ta) (ke) (on) (tw) (Ir) (Vm) (V) (Ic) (Pm) (Am) (Dm) (P) (Ac) (Mo) ((i : Int)) (by first | assumption | omega) (by first | assumption | omega) (by first | assumption | omega)) (cwV 1 hts gX8_violated_X8_violations rfl rfl rfl (by decide +kernel) ⟨Nat.le_of_ble_eq_true rfl, Nat.le_of_ble_eq_true rfl⟩) hP hK [0, 1, 2, 3, 4] rfl 0 8 rfl rfl rfl rfl hl.1 rfl (Nat.le_of_ble_eq_true rfl) dX8_violated_23 ⟨by omega, by omega⟩ ?_
          have hf_3 := vio_b V (((i : Int))) (inP P (((i : Int))))
          refine z_if_le (tgt := 34) hx hb dX8_violated_26 (by decide) ⟨by omega, by omega⟩ (fun c_4 => ?_) (fun c_4 => ?_)
          · refine lv_iinc (v := iI ((i : Int) + 1)) (lv' := [(2, .int (iI ((i : Int) + 1))), (0, .ref (bd 0)), (1, .int (iI (d)))]) hx hb dX8_violated_34 hl (k := 0) rfl (iI_add ((i : Int)) (1)) (by decide) rfl (fun ls hl => ?_)
            refine lv_goto (tgt := 2) hx hb dX8_violated_37 (by decide) ?_
            exact ih2 (i + 1) (by omega) (by omega) (by rw [g_c, show 8 - i = (8 - (i + 1)) + 1 by omega, fR_f (by have := h_k (by omega); unfold badC; omega)]; rfl) _ (lv_sub hl [0, 1, 2] rfl)
          · refine lv_iload_n hx hb dX8_violated_29 rfl (lv_at hl 0 rfl) ?_
            refine z_roS (As := [.int (iI ((i : Int)))]) (rest := []) ⟨hx, hb, hml, hown, hts⟩ (c_X8_code l D cI cZ cC ((i : Int)) ) (va_cwS 1 hts gX8_violated_X8_code rfl rfl rfl (by decide +kernel) ⟨Nat.le_of_ble_eq_true rfl, Nat.le_of_ble_eq_true rfl⟩) hP hK [] rfl rfl hl.1 rfl (Nat.le_of_ble_eq_true rfl) dX8_violated_30 ⟨by omega, by omega⟩ ?_
            refine z_rret hx hb hr hlocks dX8_violated_33 ?_
            first | (rw [g_c, show 8 - i = (7 - i) + 1 by omega, fR_t (by have := h_k (by omega); unfold badC; omega)]; done) | (rw [g_c, show 8 - i = 0 by omega]; rfl)
        · refine lv_aload_n hx hb dX8_violated_12 rfl (lv_at hl 1 rfl) ?_
          refine va_get (D := D) (ci := 8) (v := .ref (bd 6)) (C := RX8) (T := TX8) (N := 20) hx hb hts (fun _ h => List.mem_cons_of_mem _ (List.mem_append_right _ (h))) hown hK.1 hP 0 rfl rfl 5 (by decide) (hts (.fieldLink RX8 26 "ForeignKeyStoreModel" "isDeferred" "[Z") (List.mem_of_getElem? (i := 1) rfl)) (fun _ h9 => h9) rfl dX8_violated_13 ?_
          refine lv_iload_n hx hb dX8_violated_16 rfl (lv_at hl 0 rfl) ?_
          refine z_zald hx hb hK.1 hP 5 1 rfl rfl (by omega) (by decide) dX8_violated_17 ?_
          have hb_5 := g_Dm ((i : Int)) (by omega) (by omega)
          refine z_if_ne (tgt := 34) hx hb dX8_violated_18 (by decide) ⟨by omega, by omega⟩ (fun c_6 => ?_) (fun c_6 => ?_)
          · refine lv_iinc (v := iI ((i : Int) + 1)) (lv' := [(2, .int (iI ((i : Int) + 1))), (0, .ref (bd 0)), (1, .int (iI (d)))]) hx hb dX8_violated_34 hl (k := 0) rfl (iI_add ((i : Int)) (1)) (by decide) rfl (fun ls hl => ?_)
            refine lv_goto (tgt := 2) hx hb dX8_violated_37 (by decide) ?_
            exact ih2 (i + 1) (by omega) (by omega) (by rw [g_c, show 8 - i = (8 - (i + 1)) + 1 by omega, fR_f (by have := h_k (by omega); unfold badC; omega)]; rfl) _ (lv_sub hl [0, 1, 2] rfl)
          · refine lv_aload_n hx hb dX8_violated_21 rfl (lv_at hl 1 rfl) ?_
            refine lv_iload_n hx hb dX8_violated_22 rfl (lv_at hl 0 rfl) ?_
            refine z_roV (As := [.int (iI ((i : Int)))]) (rest := []) ⟨hx, hb, hml, hown, hts⟩ (c_X8_violations l D cI cZ cC (bd) (cn) (mp) (ty) (th) (sp) (ta) (ke) (on) (tw) (Ir) (Vm) (V) (Ic) (Pm) (Am) (Dm) (P) (Ac) (Mo) ((i : Int)) (by first | assumption | omega) (by first | assumption | omega) (by first | assumption | omega)) (cwV 1 hts gX8_violated_X8_violations rfl rfl rfl (by decide +kernel) ⟨Nat.le_of_ble_eq_true rfl, Nat.le_of_ble_eq_true rfl⟩) hP hK [0, 1, 2, 3, 4] rfl 0 8 rfl rfl rfl rfl hl.1 rfl (Nat.le_of_ble_eq_true rfl) dX8_violated_23 ⟨by omega, by omega⟩ ?_
            have hf_7 := vio_b V (((i : Int))) (inP P (((i : Int))))
            refine z_if_le (tgt := 34) hx hb dX8_violated_26 (by decide) ⟨by omega, by omega⟩ (fun c_8 => ?_) (fun c_8 => ?_)
            · refine lv_iinc (v := iI ((i : Int) + 1)) (lv' := [(2, .int (iI ((i : Int) + 1))), (0, .ref (bd 0)), (1, .int (iI (d)))]) hx hb dX8_violated_34 hl (k := 0) rfl (iI_add ((i : Int)) (1)) (by decide) rfl (fun ls hl => ?_)
              refine lv_goto (tgt := 2) hx hb dX8_violated_37 (by decide) ?_
              exact ih2 (i + 1) (by omega) (by omega) (by rw [g_c, show 8 - i = (8 - (i + 1)) + 1 by omega, fR_f (by have := h_k (by omega); unfold badC; omega)]; rfl) _ (lv_sub hl [0, 1, 2] rfl)
            · refine lv_iload_n hx hb dX8_violated_29 rfl (lv_at hl 0 rfl) ?_
              refine z_roS (As := [.int (iI ((i : Int)))]) (rest := []) ⟨hx, hb, hml, hown, hts⟩ (c_X8_code l D cI cZ cC ((i : Int)) ) (va_cwS 1 hts gX8_violated_X8_code rfl rfl rfl (by decide +kernel) ⟨Nat.le_of_ble_eq_true rfl, Nat.le_of_ble_eq_true rfl⟩) hP hK [] rfl rfl hl.1 rfl (Nat.le_of_ble_eq_true rfl) dX8_violated_30 ⟨by omega, by omega⟩ ?_
              refine z_rret hx hb hr hlocks dX8_violated_33 ?_
              first | (rw [g_c, show 8 - i = (7 - i) + 1 by omega, fR_t (by have := h_k (by omega); unfold badC; omega)]; done) | (rw [g_c, show 8 - i = 0 by omega]; rfl)
  exact loop2 9 0 (by omega) (by omega) rfl _ (lv_sub hl [0, 1, 2] rfl)

set_option maxHeartbeats 600000 in
set_option maxRecDepth 100000 in
theorem c_X8_manyConstraints (l : Launch) (D : va_G) (cI cZ cC : ClassId) (bd : Nat → Nat) (cn mp ty th sp ta ke on tw : Int) (Ic Pm Am Dm P Ac Mo : Int → Int) (g_C : rC8 Ic Pm Am Dm P Ac Mo) : zRo l yX8_manyConstraints wsX8_manyConstraints ({ frames := 0, cells := 0, slots := 0, locals := 0 }) D cI cZ cC [(bd 0, .inr (8, [.ref (bd 1), .ref (bd 2), .ref (bd 3), .ref (bd 4), .ref (bd 5), .ref (bd 6), .ref (bd 7), .int (iI (cn)), .ref (bd 8), .int (iI (mp)), .ref (bd 9), .int (iI (ty)), .int (iI (th)), .ref (bd 10), .ref (bd 11), .int (iI (sp)), .int (iI (ta)), .int (iI (ke)), .int (iI (on)), .int (iI (tw))])), (bd 3, .inl (cZ, 8, .inl (iA (Ic))))] [.ref (bd 0)] (sumN (fun i => bI (¬ inP P i = -2)) 8) := by
  refine z_ofRo (cc := cX8_manyConstraints) (maxL := 3) (ret := (some .int)) RX8 (by decide +kernel) rfl rfl (Nat.le_of_ble_eq_true rfl) ?_
  intro p0 en0 s0 m0 args0 below0 meth0 c0 ls hx hb hr hlocks hml hown hts hP hK hl
  have hl : lv_has ls 3 [(0, .ref (bd 0))] := hl
  have g_Ic := rC_i g_C
  refine lv_iconst (v := iI (0)) hx hb dX8_manyConstraints_0 rfl ?_
  refine lv_istore_n (lv' := [(1, .int (iI (0))), (0, .ref (bd 0))]) hx hb dX8_manyConstraints_1 rfl hl (by decide) rfl (fun ls hl => ?_)
  refine lv_iconst (v := iI (0)) hx hb dX8_manyConstraints_2 rfl ?_
  refine lv_istore_n (lv' := [(2, .int (iI (0))), (1, .int (iI (0))), (0, .ref (bd 0))]) hx hb dX8_manyConstraints_3 rfl hl (by decide) rfl (fun ls hl => ?_)
  have loop4 : ∀ (fu : Nat) (i : Nat) (cnt : Int), (g_i : i ≤ 8) → (g_n : 8 < i + fu) → (g_c : cnt = sumN (fun i => bI (¬ inP P i = -2)) i) → ∀ ls : Array Slot, lv_has ls 3 [(2, .int (iI ((i : Int)))), (1, .int (iI (cnt))), (0, .ref (bd 0))] → W p0 l en0 (headSpec wsX8_manyConstraints ({ frames := 0, cells := 0, slots := 0, locals := 0 })).room s0 m0 args0 below0 meth0 c0 s0.heap [] 0 0 (QRo below0 (sumN (fun i => bI (¬ inP P i = -2)) 8) args0 s0) (F0 m0 4 ls []) := by
    intro fu
    induction fu with
    | zero => intro i cnt g_i g_n g_c ls hl; exfalso; omega
    | succ fu ih4 =>
      intro i cnt g_i g_n g_c ls hl
      refine lv_iload_n hx hb dX8_manyConstraints_4 rfl (lv_at hl 0 rfl) ?_
      have h_k := fun q : (i : Int) < 8 => rC_k g_C (k := (i : Int)) ⟨by omega, q⟩
      refine lv_bipush (v := iI (8)) hx hb dX8_manyConstraints_5 (by decide) ?_
      refine z_icmp_ge (tgt := 33) hx hb dX8_manyConstraints_7 (by decide) ⟨⟨by omega, by omega⟩, ⟨by omega, by omega⟩⟩ (fun c_1 => ?_) (fun c_1 => ?_)
      · refine lv_iload_n hx hb dX8_manyConstraints_33 rfl (lv_at hl 1 rfl) ?_
        refine z_rret hx hb hr hlocks dX8_manyConstraints_34 ?_
        rw [g_c]; congr 1; omega
      · refine lv_iload_n hx hb dX8_manyConstraints_10 rfl (lv_at hl 1 rfl) ?_
        refine lv_aload_n hx hb dX8_manyConstraints_11 rfl (lv_at hl 2 rfl) ?_
        refine va_get (D := D) (ci := 8) (v := .ref (bd 3)) (C := RX8) (T := TX8) (N := 20) hx hb hts (fun _ h => List.mem_cons_of_mem _ (List.mem_append_right _ (h))) hown hK.1 hP 0 rfl rfl 2 (by decide) (hts (.fieldLink RX8 17 "ForeignKeyStoreModel" "isConstraint" "[Z") (List.mem_of_getElem? (i := 1) rfl)) (fun _ h9 => h9) rfl dX8_manyConstraints_12 ?_
        refine lv_iload_n hx hb dX8_manyConstraints_15 rfl (lv_at hl 0 rfl) ?_
        refine z_zald hx hb hK.1 hP 1 1 rfl rfl (by omega) (by decide) dX8_manyConstraints_16 ?_
        have hb_2 := g_Ic ((i : Int)) (by omega) (by omega)
        refine z_if_eq (tgt := 24) hx hb dX8_manyConstraints_17 (by decide) ⟨by omega, by omega⟩ (fun c_3 => ?_) (fun c_3 => ?_)
        · refine lv_iconst (v := iI (0)) hx hb dX8_manyConstraints_24 rfl ?_
          refine z_iadd hx hb dX8_manyConstraints_25 ?_
          refine lv_istore_n (lv' := [(1, .int (iI ((cnt + 0)))), (2, .int (iI ((i : Int)))), (0, .ref (bd 0))]) hx hb dX8_manyConstraints_26 rfl hl (by decide) rfl (fun ls hl => ?_)
          refine lv_iinc (v := iI ((i : Int) + 1)) (lv' := [(2, .int (iI ((i : Int) + 1))), (1, .int (iI ((cnt + 0)))), (0, .ref (bd 0))]) hx hb dX8_manyConstraints_27 hl (k := 1) rfl (iI_add ((i : Int)) (1)) (by decide) rfl (fun ls hl => ?_)
          refine lv_goto (tgt := 4) hx hb dX8_manyConstraints_30 (by decide) ?_
          exact ih4 (i + 1) _ (by omega) (by omega) (by have := h_k (by omega); rw [sumN, ← g_c, bI_f (by omega)]; try omega) _ (lv_sub hl [0, 1, 2] rfl)
        · refine lv_iconst (v := iI (1)) hx hb dX8_manyConstraints_20 rfl ?_
          refine lv_goto (tgt := 25) hx hb dX8_manyConstraints_21 (by decide) ?_
          refine z_iadd hx hb dX8_manyConstraints_25 ?_
          refine lv_istore_n (lv' := [(1, .int (iI ((cnt + 1)))), (2, .int (iI ((i : Int)))), (0, .ref (bd 0))]) hx hb dX8_manyConstraints_26 rfl hl (by decide) rfl (fun ls hl => ?_)
          refine lv_iinc (v := iI ((i : Int) + 1)) (lv' := [(2, .int (iI ((i : Int) + 1))), (1, .int (iI ((cnt + 1)))), (0, .ref (bd 0))]) hx hb dX8_manyConstraints_27 hl (k := 1) rfl (iI_add ((i : Int)) (1)) (by decide) rfl (fun ls hl => ?_)
          refine lv_goto (tgt := 4) hx hb dX8_manyConstraints_30 (by decide) ?_
          exact ih4 (i + 1) _ (by omega) (by omega) (by have := h_k (by omega); rw [sumN, ← g_c, bI_t (by omega)]; try omega) _ (lv_sub hl [0, 1, 2] rfl)
  exact loop4 9 0 0 (by omega) (by omega) rfl _ (lv_sub hl [0, 1, 2] rfl)

set_option maxHeartbeats 600000 in
set_option maxRecDepth 100000 in
theorem c_X8_has (l : Launch) (D : va_G) (cI cZ cC : ClassId) (bd : Nat → Nat) (cn mp ty th sp ta ke on tw : Int) (Ic Pm Am Dm P Ac Mo : Int → Int) (t k : Int) (g_C : rC8 Ic Pm Am Dm P Ac Mo) (g_t : ib t) (g_k : ib k) : zRo l yX8_has wsX8_has ({ frames := 2, cells := 0, slots := 0, locals := 42 }) D cI cZ cC [(bd 0, .inr (8, [.ref (bd 1), .ref (bd 2), .ref (bd 3), .ref (bd 4), .ref (bd 5), .ref (bd 6), .ref (bd 7), .int (iI (cn)), .ref (bd 8), .int (iI (mp)), .ref (bd 9), .int (iI (ty)), .int (iI (th)), .ref (bd 10), .ref (bd 11), .int (iI (sp)), .int (iI (ta)), .int (iI (ke)), .int (iI (on)), .int (iI (tw))])), (bd 3, .inl (cZ, 8, .inl (iA (Ic))))] [.ref (bd 0), .int (iI (t)), .int (iI (k))] (bI ((0 ≤ t ∧ t ≤ 3 ∧ (k = 0 ∨ k = 1)) ∧ ¬ inP P (2 * t + k) = -2)) := by
  refine z_ofRo (cc := cX8_has) (maxL := 3) (ret := (some .boolean)) RX8 (by decide +kernel) rfl rfl (Nat.le_of_ble_eq_true rfl) ?_
  intro p0 en0 s0 m0 args0 below0 meth0 c0 ls hx hb hr hlocks hml hown hts hP hK hl
  have hl : lv_has ls 3 [(0, .ref (bd 0)), (1, .int (iI (t))), (2, .int (iI (k)))] := hl
  have g_Ic := rC_i g_C
  have h_k := fun q : 0 ≤ t ∧ t ≤ 3 ∧ (k = 0 ∨ k = 1) => rC_k g_C (k := 2 * t + k) (by omega)
  refine lv_iload_n hx hb dX8_has_0 rfl (lv_at hl 1 rfl) ?_
  refine z_roS (As := [.int (iI (t))]) (rest := []) ⟨hx, hb, hml, hown, hts⟩ (c_X8_isTable l D cI cZ cC (t) (by first | assumption | omega)) (va_cwS 1 hts gX8_has_X8_isTable rfl rfl rfl (by decide +kernel) ⟨Nat.le_of_ble_eq_true rfl, Nat.le_of_ble_eq_true rfl⟩) hP hK [] rfl rfl hl.1 rfl (Nat.le_of_ble_eq_true rfl) dX8_has_1 ⟨by omega, by omega⟩ ?_
  refine z_b_eq (tgt := 31) hx hb dX8_has_4 (by decide) (fun c_1 => ?_) (fun c_1 => ?_)
  · refine lv_iconst (v := iI (0)) hx hb dX8_has_31 rfl ?_
    refine z_rretZ hx hb hr hlocks dX8_has_32 (by omega) ?_
    refine (bI_f ?_).symm
    have h9 := fun q => h_k q; omega
  · refine lv_iload_n hx hb dX8_has_7 rfl (lv_at hl 2 rfl) ?_
    refine z_roS (As := [.int (iI (k))]) (rest := []) ⟨hx, hb, hml, hown, hts⟩ (c_X8_isColumn l D cI cZ cC (k) (by first | assumption | omega)) (va_cwS 1 hts gX8_has_X8_isColumn rfl rfl rfl (by decide +kernel) ⟨Nat.le_of_ble_eq_true rfl, Nat.le_of_ble_eq_true rfl⟩) hP hK [] rfl rfl hl.1 rfl (Nat.le_of_ble_eq_true rfl) dX8_has_8 ⟨by omega, by omega⟩ ?_
    refine z_b_eq (tgt := 31) hx hb dX8_has_11 (by decide) (fun c_2 => ?_) (fun c_2 => ?_)
    · refine lv_iconst (v := iI (0)) hx hb dX8_has_31 rfl ?_
      refine z_rretZ hx hb hr hlocks dX8_has_32 (by omega) ?_
      refine (bI_f ?_).symm
      have h9 := fun q => h_k q; omega
    · refine lv_aload_n hx hb dX8_has_14 rfl (lv_at hl 0 rfl) ?_
      refine va_get (D := D) (ci := 8) (v := .ref (bd 3)) (C := RX8) (T := TX8) (N := 20) hx hb hts (fun _ h => List.mem_cons_of_mem _ (List.mem_append_right _ (h))) hown hK.1 hP 0 rfl rfl 2 (by decide) (hts (.fieldLink RX8 17 "ForeignKeyStoreModel" "isConstraint" "[Z") (List.mem_of_getElem? (i := 1) rfl)) (fun _ h9 => h9) rfl dX8_has_15 ?_
      refine lv_iconst (v := iI (2)) hx hb dX8_has_18 rfl ?_
      refine lv_iload_n hx hb dX8_has_19 rfl (lv_at hl 1 rfl) ?_
      refine z_imul hx hb dX8_has_20 ?_
      refine lv_iload_n hx hb dX8_has_21 rfl (lv_at hl 2 rfl) ?_
      refine z_iadd hx hb dX8_has_22 ?_
      refine z_zald hx hb hK.1 hP 1 1 rfl rfl (by omega) (by decide) dX8_has_23 ?_
      have hb_3 := g_Ic (((2 * t) + k)) (by omega) (by omega)
      refine z_if_eq (tgt := 31) hx hb dX8_has_24 (by decide) ⟨by omega, by omega⟩ (fun c_4 => ?_) (fun c_4 => ?_)
      · refine lv_iconst (v := iI (0)) hx hb dX8_has_31 rfl ?_
        refine z_rretZ hx hb hr hlocks dX8_has_32 (by omega) ?_
        refine (bI_f ?_).symm
        have h9 := fun q => h_k q; omega
      · refine lv_iconst (v := iI (1)) hx hb dX8_has_27 rfl ?_
        refine lv_goto (tgt := 32) hx hb dX8_has_28 (by decide) ?_
        refine z_rretZ hx hb hr hlocks dX8_has_32 (by omega) ?_
        refine (bI_t ?_).symm
        have h9 := fun q => h_k q; omega

set_option maxHeartbeats 600000 in
set_option maxRecDepth 100000 in
theorem c_X8_goes (l : Launch) (D : va_G) (cI cZ cC : ClassId) (sz : Nat) (bd : Nat → Nat) (cn mp ty th sp ta ke on tw : Int) (a b c : Int) (g_a : a = 0 ∨ a = 1) (g_b : b = 0 ∨ b = 1) (g_c : c = 0 ∨ c = 1) : zMi l yX8_goes wsX8_goes ({ frames := 0, cells := 0, slots := 0, locals := 0 }) D cI cZ cC [(bd 0, .inr (8, [.ref (bd 1), .ref (bd 2), .ref (bd 3), .ref (bd 4), .ref (bd 5), .ref (bd 6), .ref (bd 7), .int (iI (cn)), .ref (bd 8), .int (iI (mp)), .ref (bd 9), .int (iI (ty)), .int (iI (th)), .ref (bd 10), .ref (bd 11), .int (iI (sp)), .int (iI (ta)), .int (iI (ke)), .int (iI (on)), .int (iI (tw))]))] sz [.ref (bd 0), .int (iI (a)), .int (iI (b)), .int (iI (c))] (0) (0) (fun (u : Unit) => [(bd 0, .inr (8, [.ref (bd 1), .ref (bd 2), .ref (bd 3), .ref (bd 4), .ref (bd 5), .ref (bd 6), .ref (bd 7), .int (iI (cn)), .ref (bd 8), .int (iI (mp)), .ref (bd 9), .int (iI (ty)), .int (iI (gkI a b c)), .ref (bd 10), .ref (bd 11), .int (iI (sp)), .int (iI (ta)), .int (iI (ke)), .int (iI (on)), .int (iI (tw))]))]) (fun v _ => v = bI (gkI a b c = 0) ∧ True) := by
  refine z_ofMi (cc := cX8_goes) (maxL := 4) (ret := (some .boolean)) RX8 (by decide +kernel) rfl rfl (Nat.le_of_ble_eq_true rfl) ?_
  intro p0 en0 s0 m0 args0 below0 meth0 c0 ls AA hx hb hr hlocks hml hown hts hP hD hS hA hK hl
  have hl : lv_has ls 4 [(0, .ref (bd 0)), (1, .int (iI (a))), (2, .int (iI (b))), (3, .int (iI (c)))] := hl
  obtain ⟨H, hH⟩ : ∃ H, H = s0.heap := ⟨_, rfl⟩
  obtain ⟨locs, hlo⟩ : ∃ locs : List Loc, locs = [] := ⟨_, rfl⟩
  have hP : va_P D vwCl [(bd 0, .inr (8, [.ref (bd 1), .ref (bd 2), .ref (bd 3), .ref (bd 4), .ref (bd 5), .ref (bd 6), .ref (bd 7), .int (iI (cn)), .ref (bd 8), .int (iI (mp)), .ref (bd 9), .int (iI (ty)), .int (iI (th)), .ref (bd 10), .ref (bd 11), .int (iI (sp)), .int (iI (ta)), .int (iI (ke)), .int (iI (on)), .int (iI (tw))]))] H := by rw [hH]; exact hP
  have hS : va_S AA s0.heap H locs := by rw [hH, hlo]; exact hS
  suffices hW : W p0 l en0 (headSpec wsX8_goes ({ frames := 0, cells := 0, slots := 0, locals := 0 })).room s0 m0 args0 below0 meth0 c0 H locs 0 0 (QMi below0 D ((fun (u : Unit) => [(bd 0, .inr (8, [.ref (bd 1), .ref (bd 2), .ref (bd 3), .ref (bd 4), .ref (bd 5), .ref (bd 6), .ref (bd 7), .int (iI (cn)), .ref (bd 8), .int (iI (mp)), .ref (bd 9), .int (iI (ty)), .int (iI (gkI a b c)), .ref (bd 10), .ref (bd 11), .int (iI (sp)), .int (iI (ta)), .int (iI (ke)), .int (iI (on)), .int (iI (tw))]))])) (fun v _ => v = bI (gkI a b c = 0) ∧ True) AA args0 s0 (0) (0)) (F0 m0 0 ls []) by rw [hH, hlo] at hW; exact hW
  refine lv_aload_n hx hb dX8_goes_0 rfl (lv_at hl 0 rfl) ?_
  refine lv_iload_n hx hb dX8_goes_1 rfl (lv_at hl 1 rfl) ?_
  refine z_if_ne (tgt := 9) hx hb dX8_goes_2 (by decide) ⟨by omega, by omega⟩ (fun c_1 => ?_) (fun c_1 => ?_)
  · refine lv_iload_n hx hb dX8_goes_9 rfl (lv_at hl 2 rfl) ?_
    refine z_if_ne (tgt := 17) hx hb dX8_goes_10 (by decide) ⟨by omega, by omega⟩ (fun c_2 => ?_) (fun c_2 => ?_)
    · refine lv_iload_n hx hb dX8_goes_17 rfl (lv_at hl 3 rfl) ?_
      refine z_if_ne (tgt := 25) hx hb dX8_goes_18 (by decide) ⟨by omega, by omega⟩ (fun c_3 => ?_) (fun c_3 => ?_)
      · refine lv_iconst (v := iI (0)) hx hb dX8_goes_25 rfl ?_
        refine va_put (D := D) (ci := 8) (v := .int (iI (0))) (ty := .int) (C := RX8) (T := TX8) (N := 20) hx hb hts (fun _ h => List.mem_cons_of_mem _ (List.mem_append_right _ (h))) tyX8 tyX8_ok nmX8 hown hK.1 hP hD hS 0 rfl rfl 12 (by decide) (hts (.fieldLink RX8 45 "ForeignKeyStoreModel" "thrown" "I") (List.mem_of_getElem? (i := 1) rfl)) (fun _ h9 => h9) rfl (by decide +kernel) rfl rfl (Nat.le_of_ble_eq_true rfl) dX8_goes_26 (fun H locs hP hD hS => ?_)
        have hP : va_P D vwCl [(bd 0, .inr (8, [.ref (bd 1), .ref (bd 2), .ref (bd 3), .ref (bd 4), .ref (bd 5), .ref (bd 6), .ref (bd 7), .int (iI (cn)), .ref (bd 8), .int (iI (mp)), .ref (bd 9), .int (iI (ty)), .int (iI (0)), .ref (bd 10), .ref (bd 11), .int (iI (sp)), .int (iI (ta)), .int (iI (ke)), .int (iI (on)), .int (iI (tw))]))] H := hP
        have hD : va_D AA [(bd 0, .inr (8, [.ref (bd 1), .ref (bd 2), .ref (bd 3), .ref (bd 4), .ref (bd 5), .ref (bd 6), .ref (bd 7), .int (iI (cn)), .ref (bd 8), .int (iI (mp)), .ref (bd 9), .int (iI (ty)), .int (iI (0)), .ref (bd 10), .ref (bd 11), .int (iI (sp)), .int (iI (ta)), .int (iI (ke)), .int (iI (on)), .int (iI (tw))]))] := hD
        refine lv_aload_n hx hb dX8_goes_29 rfl (lv_at hl 0 rfl) ?_
        refine va_get (D := D) (ci := 8) (v := .int (iI (0))) (C := RX8) (T := TX8) (N := 20) hx hb hts (fun _ h => List.mem_cons_of_mem _ (List.mem_append_right _ (h))) hown hK.1 hP 0 rfl rfl 12 (by decide) (hts (.fieldLink RX8 45 "ForeignKeyStoreModel" "thrown" "I") (List.mem_of_getElem? (i := 1) rfl)) (fun _ h9 => h9) rfl dX8_goes_30 ?_
        refine z_if_ne (tgt := 40) hx hb dX8_goes_33 (by decide) ⟨by omega, by omega⟩ (fun c_4 => ?_) (fun c_4 => ?_)
        · exfalso
          omega
        · refine lv_iconst (v := iI (1)) hx hb dX8_goes_36 rfl ?_
          refine lv_goto (tgt := 41) hx hb dX8_goes_37 (by decide) ?_
          have hz : 0 = gkI a b c := by
            unfold gkI
            repeat' split
            all_goals omega
          rw [hz] at hP hD
          refine z_mretZ (()) hx hb hr hlocks dX8_goes_41 (by omega) hP hD hS ?_
          exact ⟨(by rw [← hz]; exact (bI_t (by omega)).symm), trivial⟩
      · refine lv_iconst (v := iI (3)) hx hb dX8_goes_21 rfl ?_
        refine lv_goto (tgt := 26) hx hb dX8_goes_22 (by decide) ?_
        refine va_put (D := D) (ci := 8) (v := .int (iI (3))) (ty := .int) (C := RX8) (T := TX8) (N := 20) hx hb hts (fun _ h => List.mem_cons_of_mem _ (List.mem_append_right _ (h))) tyX8 tyX8_ok nmX8 hown hK.1 hP hD hS 0 rfl rfl 12 (by decide) (hts (.fieldLink RX8 45 "ForeignKeyStoreModel" "thrown" "I") (List.mem_of_getElem? (i := 1) rfl)) (fun _ h9 => h9) rfl (by decide +kernel) rfl rfl (Nat.le_of_ble_eq_true rfl) dX8_goes_26 (fun H locs hP hD hS => ?_)
        have hP : va_P D vwCl [(bd 0, .inr (8, [.ref (bd 1), .ref (bd 2), .ref (bd 3), .ref (bd 4), .ref (bd 5), .ref (bd 6), .ref (bd 7), .int (iI (cn)), .ref (bd 8), .int (iI (mp)), .ref (bd 9), .int (iI (ty)), .int (iI (3)), .ref (bd 10), .ref (bd 11), .int (iI (sp)), .int (iI (ta)), .int (iI (ke)), .int (iI (on)), .int (iI (tw))]))] H := hP
        have hD : va_D AA [(bd 0, .inr (8, [.ref (bd 1), .ref (bd 2), .ref (bd 3), .ref (bd 4), .ref (bd 5), .ref (bd 6), .ref (bd 7), .int (iI (cn)), .ref (bd 8), .int (iI (mp)), .ref (bd 9), .int (iI (ty)), .int (iI (3)), .ref (bd 10), .ref (bd 11), .int (iI (sp)), .int (iI (ta)), .int (iI (ke)), .int (iI (on)), .int (iI (tw))]))] := hD
        refine lv_aload_n hx hb dX8_goes_29 rfl (lv_at hl 0 rfl) ?_
        refine va_get (D := D) (ci := 8) (v := .int (iI (3))) (C := RX8) (T := TX8) (N := 20) hx hb hts (fun _ h => List.mem_cons_of_mem _ (List.mem_append_right _ (h))) hown hK.1 hP 0 rfl rfl 12 (by decide) (hts (.fieldLink RX8 45 "ForeignKeyStoreModel" "thrown" "I") (List.mem_of_getElem? (i := 1) rfl)) (fun _ h9 => h9) rfl dX8_goes_30 ?_
        refine z_if_ne (tgt := 40) hx hb dX8_goes_33 (by decide) ⟨by omega, by omega⟩ (fun c_5 => ?_) (fun c_5 => ?_)
        · refine lv_iconst (v := iI (0)) hx hb dX8_goes_40 rfl ?_
          have hz : 3 = gkI a b c := by
            unfold gkI
            repeat' split
            all_goals omega
          rw [hz] at hP hD
          refine z_mretZ (()) hx hb hr hlocks dX8_goes_41 (by omega) hP hD hS ?_
          exact ⟨(by rw [← hz]; exact (bI_f (by omega)).symm), trivial⟩
        · exfalso
          omega
    · refine lv_iconst (v := iI (2)) hx hb dX8_goes_13 rfl ?_
      refine lv_goto (tgt := 26) hx hb dX8_goes_14 (by decide) ?_
      refine va_put (D := D) (ci := 8) (v := .int (iI (2))) (ty := .int) (C := RX8) (T := TX8) (N := 20) hx hb hts (fun _ h => List.mem_cons_of_mem _ (List.mem_append_right _ (h))) tyX8 tyX8_ok nmX8 hown hK.1 hP hD hS 0 rfl rfl 12 (by decide) (hts (.fieldLink RX8 45 "ForeignKeyStoreModel" "thrown" "I") (List.mem_of_getElem? (i := 1) rfl)) (fun _ h9 => h9) rfl (by decide +kernel) rfl rfl (Nat.le_of_ble_eq_true rfl) dX8_goes_26 (fun H locs hP hD hS => ?_)
      have hP : va_P D vwCl [(bd 0, .inr (8, [.ref (bd 1), .ref (bd 2), .ref (bd 3), .ref (bd 4), .ref (bd 5), .ref (bd 6), .ref (bd 7), .int (iI (cn)), .ref (bd 8), .int (iI (mp)), .ref (bd 9), .int (iI (ty)), .int (iI (2)), .ref (bd 10), .ref (bd 11), .int (iI (sp)), .int (iI (ta)), .int (iI (ke)), .int (iI (on)), .int (iI (tw))]))] H := hP
      have hD : va_D AA [(bd 0, .inr (8, [.ref (bd 1), .ref (bd 2), .ref (bd 3), .ref (bd 4), .ref (bd 5), .ref (bd 6), .ref (bd 7), .int (iI (cn)), .ref (bd 8), .int (iI (mp)), .ref (bd 9), .int (iI (ty)), .int (iI (2)), .ref (bd 10), .ref (bd 11), .int (iI (sp)), .int (iI (ta)), .int (iI (ke)), .int (iI (on)), .int (iI (tw))]))] := hD
      refine lv_aload_n hx hb dX8_goes_29 rfl (lv_at hl 0 rfl) ?_
      refine va_get (D := D) (ci := 8) (v := .int (iI (2))) (C := RX8) (T := TX8) (N := 20) hx hb hts (fun _ h => List.mem_cons_of_mem _ (List.mem_append_right _ (h))) hown hK.1 hP 0 rfl rfl 12 (by decide) (hts (.fieldLink RX8 45 "ForeignKeyStoreModel" "thrown" "I") (List.mem_of_getElem? (i := 1) rfl)) (fun _ h9 => h9) rfl dX8_goes_30 ?_
      refine z_if_ne (tgt := 40) hx hb dX8_goes_33 (by decide) ⟨by omega, by omega⟩ (fun c_6 => ?_) (fun c_6 => ?_)
      · refine lv_iconst (v := iI (0)) hx hb dX8_goes_40 rfl ?_
        have hz : 2 = gkI a b c := by
          unfold gkI
          repeat' split
          all_goals omega
        rw [hz] at hP hD
        refine z_mretZ (()) hx hb hr hlocks dX8_goes_41 (by omega) hP hD hS ?_
        exact ⟨(by rw [← hz]; exact (bI_f (by omega)).symm), trivial⟩
      · exfalso
        omega
  · refine lv_iconst (v := iI (1)) hx hb dX8_goes_5 rfl ?_
    refine lv_goto (tgt := 26) hx hb dX8_goes_6 (by decide) ?_
    refine va_put (D := D) (ci := 8) (v := .int (iI (1))) (ty := .int) (C := RX8) (T := TX8) (N := 20) hx hb hts (fun _ h => List.mem_cons_of_mem _ (List.mem_append_right _ (h))) tyX8 tyX8_ok nmX8 hown hK.1 hP hD hS 0 rfl rfl 12 (by decide) (hts (.fieldLink RX8 45 "ForeignKeyStoreModel" "thrown" "I") (List.mem_of_getElem? (i := 1) rfl)) (fun _ h9 => h9) rfl (by decide +kernel) rfl rfl (Nat.le_of_ble_eq_true rfl) dX8_goes_26 (fun H locs hP hD hS => ?_)
    have hP : va_P D vwCl [(bd 0, .inr (8, [.ref (bd 1), .ref (bd 2), .ref (bd 3), .ref (bd 4), .ref (bd 5), .ref (bd 6), .ref (bd 7), .int (iI (cn)), .ref (bd 8), .int (iI (mp)), .ref (bd 9), .int (iI (ty)), .int (iI (1)), .ref (bd 10), .ref (bd 11), .int (iI (sp)), .int (iI (ta)), .int (iI (ke)), .int (iI (on)), .int (iI (tw))]))] H := hP
    have hD : va_D AA [(bd 0, .inr (8, [.ref (bd 1), .ref (bd 2), .ref (bd 3), .ref (bd 4), .ref (bd 5), .ref (bd 6), .ref (bd 7), .int (iI (cn)), .ref (bd 8), .int (iI (mp)), .ref (bd 9), .int (iI (ty)), .int (iI (1)), .ref (bd 10), .ref (bd 11), .int (iI (sp)), .int (iI (ta)), .int (iI (ke)), .int (iI (on)), .int (iI (tw))]))] := hD
    refine lv_aload_n hx hb dX8_goes_29 rfl (lv_at hl 0 rfl) ?_
    refine va_get (D := D) (ci := 8) (v := .int (iI (1))) (C := RX8) (T := TX8) (N := 20) hx hb hts (fun _ h => List.mem_cons_of_mem _ (List.mem_append_right _ (h))) hown hK.1 hP 0 rfl rfl 12 (by decide) (hts (.fieldLink RX8 45 "ForeignKeyStoreModel" "thrown" "I") (List.mem_of_getElem? (i := 1) rfl)) (fun _ h9 => h9) rfl dX8_goes_30 ?_
    refine z_if_ne (tgt := 40) hx hb dX8_goes_33 (by decide) ⟨by omega, by omega⟩ (fun c_7 => ?_) (fun c_7 => ?_)
    · refine lv_iconst (v := iI (0)) hx hb dX8_goes_40 rfl ?_
      have hz : 1 = gkI a b c := by
        unfold gkI
        repeat' split
        all_goals omega
      rw [hz] at hP hD
      refine z_mretZ (()) hx hb hr hlocks dX8_goes_41 (by omega) hP hD hS ?_
      exact ⟨(by rw [← hz]; exact (bI_f (by omega)).symm), trivial⟩
    · exfalso
      omega

