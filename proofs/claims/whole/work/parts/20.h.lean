/-- where a sign stands in a constant: its first place from k on, -1 if none -/
def ixF (i : Nat) (ch : Int) : Nat → Nat → Int
  | 0, _ => -1
  | f + 1, k => if chr i (k : Int) = ch then (k : Int) else ixF i ch f (k + 1)
theorem ixF_b (i : Nat) (ch : Int) : ∀ (f k : Nat), -1 ≤ ixF i ch f k ∧ ixF i ch f k < (k : Int) + f + 1
  | 0, k => by unfold ixF; omega
  | f + 1, k => by
    have h := ixF_b i ch f (k + 1)
    unfold ixF
    split <;> omega

set_option maxHeartbeats 600000 in
set_option maxRecDepth 100000 in
theorem c_J3_checkIndex_8e157_n (l : Launch) (b0 : Nat) (adK adV : Nat → Nat) (x y : Int) (g_x : 0 ≤ x ∧ x < y ∧ y < 2147483648) : zJr l yJ3_checkIndex_8e157 wsJ3_checkIndex_8e157 ({ frames := 0, cells := 0, slots := 0, locals := 0 }) b0 adK adV [.int (iI (x)), .int (iI (y)), .null] (x) := by
  refine z_ofJr (cc := cJ3_checkIndex_8e157) (maxL := 3) (ret := (some .int)) RJ3 (by decide +kernel) rfl rfl (Nat.le_of_ble_eq_true rfl) ?_
  intro p0 en0 s0 m0 args0 below0 meth0 c0 ls hx hb hr hlocks hml hown hts hE hSE hl
  have hl : lv_has ls 3 [(0, .int (iI (x))), (1, .int (iI (y))), (2, .null)] := hl
  refine lv_iload_n hx hb dJ3_checkIndex_8e157_0 rfl (lv_at hl 0 rfl) ?_
  refine z_if_lt (tgt := 9) hx hb dJ3_checkIndex_8e157_1 (by decide) ⟨by omega, by omega⟩ (fun c_1 => ?_) (fun c_1 => ?_)
  · exfalso
    omega
  · refine lv_iload_n hx hb dJ3_checkIndex_8e157_4 rfl (lv_at hl 0 rfl) ?_
    refine lv_iload_n hx hb dJ3_checkIndex_8e157_5 rfl (lv_at hl 1 rfl) ?_
    refine z_icmp_lt (tgt := 16) hx hb dJ3_checkIndex_8e157_6 (by decide) ⟨⟨by omega, by omega⟩, ⟨by omega, by omega⟩⟩ (fun c_2 => ?_) (fun c_2 => ?_)
    · refine lv_iload_n hx hb dJ3_checkIndex_8e157_16 rfl (lv_at hl 0 rfl) ?_
      refine z_jret hx hb hr hlocks dJ3_checkIndex_8e157_17 rfl ?_
      rfl
    · exfalso
      omega

set_option maxHeartbeats 600000 in
set_option maxRecDepth 100000 in
theorem c_J3_checkIndex_8e157_r (l : Launch) (b0 : Nat) (adK adV : Nat → Nat) (x y : Int) (tq : Nat) (g_x : 0 ≤ x ∧ x < y ∧ y < 2147483648) : zJr l yJ3_checkIndex_8e157 wsJ3_checkIndex_8e157 ({ frames := 0, cells := 0, slots := 0, locals := 0 }) b0 adK adV [.int (iI (x)), .int (iI (y)), .ref (tq)] (x) := by
  refine z_ofJr (cc := cJ3_checkIndex_8e157) (maxL := 3) (ret := (some .int)) RJ3 (by decide +kernel) rfl rfl (Nat.le_of_ble_eq_true rfl) ?_
  intro p0 en0 s0 m0 args0 below0 meth0 c0 ls hx hb hr hlocks hml hown hts hE hSE hl
  have hl : lv_has ls 3 [(0, .int (iI (x))), (1, .int (iI (y))), (2, .ref (tq))] := hl
  refine lv_iload_n hx hb dJ3_checkIndex_8e157_0 rfl (lv_at hl 0 rfl) ?_
  refine z_if_lt (tgt := 9) hx hb dJ3_checkIndex_8e157_1 (by decide) ⟨by omega, by omega⟩ (fun c_1 => ?_) (fun c_1 => ?_)
  · exfalso
    omega
  · refine lv_iload_n hx hb dJ3_checkIndex_8e157_4 rfl (lv_at hl 0 rfl) ?_
    refine lv_iload_n hx hb dJ3_checkIndex_8e157_5 rfl (lv_at hl 1 rfl) ?_
    refine z_icmp_lt (tgt := 16) hx hb dJ3_checkIndex_8e157_6 (by decide) ⟨⟨by omega, by omega⟩, ⟨by omega, by omega⟩⟩ (fun c_2 => ?_) (fun c_2 => ?_)
    · refine lv_iload_n hx hb dJ3_checkIndex_8e157_16 rfl (lv_at hl 0 rfl) ?_
      refine z_jret hx hb hr hlocks dJ3_checkIndex_8e157_17 rfl ?_
      rfl
    · exfalso
      omega

theorem c_J3_checkIndex_8e157 (l : Launch) (b0 : Nat) (adK adV : Nat → Nat) (x y : Int) (vq : Value) (g_x : 0 ≤ x ∧ x < y ∧ y < 2147483648) (g_v : vq = .null ∨ ∃ t : Nat, vq = .ref t) : zJr l yJ3_checkIndex_8e157 wsJ3_checkIndex_8e157 ({ frames := 0, cells := 0, slots := 0, locals := 0 }) b0 adK adV [.int (iI (x)), .int (iI (y)), vq] (x) := by
  rcases g_v with rfl | ⟨t, rfl⟩
  · exact c_J3_checkIndex_8e157_n l b0 adK adV x y g_x
  · exact c_J3_checkIndex_8e157_r l b0 adK adV x y t g_x

set_option maxHeartbeats 600000 in
set_option maxRecDepth 100000 in
theorem c_J0_checkIndex_df160 (l : Launch) (b0 : Nat) (adK adV : Nat → Nat) (x y : Int) (g_x : 0 ≤ x ∧ x < y ∧ y < 2147483648) : zJv l yJ0_checkIndex_df160 wsJ0_checkIndex_df160 ({ frames := 1, cells := 0, slots := 0, locals := 22 }) b0 adK adV [.int (iI (x)), .int (iI (y))] := by
  refine z_ofJv (cc := cJ0_checkIndex_df160) (maxL := 2) (ret := none) RJ0 (by decide +kernel) rfl rfl (Nat.le_of_ble_eq_true rfl) ?_
  intro p0 en0 s0 m0 args0 below0 meth0 c0 ls hx hb hr hlocks hml hown hts hE hSE hl
  have hl : lv_has ls 2 [(0, .int (iI (x))), (1, .int (iI (y)))] := hl
  refine lv_iload_n hx hb dJ0_checkIndex_df160_0 rfl (lv_at hl 0 rfl) ?_
  refine lv_iload_n hx hb dJ0_checkIndex_df160_1 rfl (lv_at hl 1 rfl) ?_
  rcases hE.2.1 with hZ9 | ⟨tq, hZ9⟩
  · refine va_gets (A := fun q => b0 ≤ q) hx hb hZ9 hSE hown (hts (.fieldLink RJ0 1053 "jdk/internal/util/Preconditions" "SIOOBE_FORMATTER" "Ljava/util/function/BiFunction;") (List.mem_of_getElem? (i := 1) rfl)) (fun _ h9 => h9) dJ0_checkIndex_df160_2 ?_
    refine z_jrS (As := [.int (iI (x)), .int (iI (y)), .null]) (rest := []) ⟨hx, hb, hml, hown, hts⟩ (c_J3_checkIndex_8e157 l b0 adK adV (x) (y) (.null) (by first | assumption | omega) (by first | exact Or.inl rfl | exact Or.inr ⟨_, rfl⟩)) (va_cwS 3 hts gJ0_checkIndex_df160_J3_checkIndex_8e157 rfl rfl rfl (by decide +kernel) ⟨Nat.le_of_ble_eq_true rfl, Nat.le_of_ble_eq_true rfl⟩) hE hSE rfl hl.1 rfl (Nat.le_of_ble_eq_true rfl) dJ0_checkIndex_df160_5 ⟨by omega, by omega⟩ ?_
    refine lv_pop hx hb dJ0_checkIndex_df160_8 rfl ?_
    exact W.vret hx hb hr (fun t ht hW => ⟨rfl, trivial, ht⟩) (fun q h => by cases h) dJ0_checkIndex_df160_9 hlocks
  · refine va_gets (A := fun q => b0 ≤ q) hx hb hZ9 hSE hown (hts (.fieldLink RJ0 1053 "jdk/internal/util/Preconditions" "SIOOBE_FORMATTER" "Ljava/util/function/BiFunction;") (List.mem_of_getElem? (i := 1) rfl)) (fun _ h9 => h9) dJ0_checkIndex_df160_2 ?_
    refine z_jrS (As := [.int (iI (x)), .int (iI (y)), .ref (tq)]) (rest := []) ⟨hx, hb, hml, hown, hts⟩ (c_J3_checkIndex_8e157 l b0 adK adV (x) (y) (.ref (tq)) (by first | assumption | omega) (by first | exact Or.inl rfl | exact Or.inr ⟨_, rfl⟩)) (va_cwS 3 hts gJ0_checkIndex_df160_J3_checkIndex_8e157 rfl rfl rfl (by decide +kernel) ⟨Nat.le_of_ble_eq_true rfl, Nat.le_of_ble_eq_true rfl⟩) hE hSE rfl hl.1 rfl (Nat.le_of_ble_eq_true rfl) dJ0_checkIndex_df160_5 ⟨by omega, by omega⟩ ?_
    refine lv_pop hx hb dJ0_checkIndex_df160_8 rfl ?_
    exact W.vret hx hb hr (fun t ht hW => ⟨rfl, trivial, ht⟩) (fun q h => by cases h) dJ0_checkIndex_df160_9 hlocks

set_option maxHeartbeats 600000 in
set_option maxRecDepth 100000 in
theorem c_J0_coder_7d493 (l : Launch) (b0 : Nat) (adK adV : Nat → Nat) (i : Nat) (g_i : i < 6) : zJr l yJ0_coder_7d493 wsJ0_coder_7d493 ({ frames := 0, cells := 0, slots := 0, locals := 0 }) b0 adK adV [.ref (adK i)] (0) := by
  refine z_ofJr (cc := cJ0_coder_7d493) (maxL := 1) (ret := (some .byte)) RJ0 (by decide +kernel) rfl rfl (Nat.le_of_ble_eq_true rfl) ?_
  intro p0 en0 s0 m0 args0 below0 meth0 c0 ls hx hb hr hlocks hml hown hts hE hSE hl
  have hl : lv_has ls 1 [(0, .ref (adK i))] := hl
  refine va_gets (A := fun q => b0 ≤ q) hx hb hE.1 hSE hown (hts (.fieldLink RJ0 38 "java/lang/String" "COMPACT_STRINGS" "Z") (List.mem_of_getElem? (i := 1) rfl)) (fun _ h9 => h9) dJ0_coder_7d493_0 ?_
  refine z_if_eq (tgt := 13) hx hb dJ0_coder_7d493_3 (by decide) ⟨by omega, by omega⟩ (fun c_1 => ?_) (fun c_1 => ?_)
  · exfalso
    omega
  · refine lv_aload_n hx hb dJ0_coder_7d493_6 rfl (lv_at hl 0 rfl) ?_
    refine vk_getf hx hb (hE.2.2.1 i g_i).2.1 hSE hown (hts (.fieldLink RJ0 15 "java/lang/String" "coder" "B") (List.mem_of_getElem? (i := 2) rfl)) (fun _ h9 => h9) dJ0_coder_7d493_7 ?_
    refine lv_goto (tgt := 14) hx hb dJ0_coder_7d493_10 (by decide) ?_
    refine z_jret hx hb hr hlocks dJ0_coder_7d493_14 (narB (by omega)) ?_
    rfl

set_option maxHeartbeats 600000 in
set_option maxRecDepth 100000 in
theorem c_J0_isLatin1_aae02 (l : Launch) (b0 : Nat) (adK adV : Nat → Nat) (i : Nat) (g_i : i < 6) : zJr l yJ0_isLatin1_aae02 wsJ0_isLatin1_aae02 ({ frames := 0, cells := 0, slots := 0, locals := 0 }) b0 adK adV [.ref (adK i)] (1) := by
  refine z_ofJr (cc := cJ0_isLatin1_aae02) (maxL := 1) (ret := (some .boolean)) RJ0 (by decide +kernel) rfl rfl (Nat.le_of_ble_eq_true rfl) ?_
  intro p0 en0 s0 m0 args0 below0 meth0 c0 ls hx hb hr hlocks hml hown hts hE hSE hl
  have hl : lv_has ls 1 [(0, .ref (adK i))] := hl
  refine va_gets (A := fun q => b0 ≤ q) hx hb hE.1 hSE hown (hts (.fieldLink RJ0 38 "java/lang/String" "COMPACT_STRINGS" "Z") (List.mem_of_getElem? (i := 1) rfl)) (fun _ h9 => h9) dJ0_isLatin1_aae02_0 ?_
  refine z_if_eq (tgt := 17) hx hb dJ0_isLatin1_aae02_3 (by decide) ⟨by omega, by omega⟩ (fun c_1 => ?_) (fun c_1 => ?_)
  · exfalso
    omega
  · refine lv_aload_n hx hb dJ0_isLatin1_aae02_6 rfl (lv_at hl 0 rfl) ?_
    refine vk_getf hx hb (hE.2.2.1 i g_i).2.1 hSE hown (hts (.fieldLink RJ0 15 "java/lang/String" "coder" "B") (List.mem_of_getElem? (i := 2) rfl)) (fun _ h9 => h9) dJ0_isLatin1_aae02_7 ?_
    refine z_if_ne (tgt := 17) hx hb dJ0_isLatin1_aae02_10 (by decide) ⟨by omega, by omega⟩ (fun c_2 => ?_) (fun c_2 => ?_)
    · exfalso
      omega
    · refine lv_iconst (v := iI (1)) hx hb dJ0_isLatin1_aae02_13 rfl ?_
      refine lv_goto (tgt := 18) hx hb dJ0_isLatin1_aae02_14 (by decide) ?_
      refine z_jret hx hb hr hlocks dJ0_isLatin1_aae02_18 (nar_zI (by omega)) ?_
      rfl

set_option maxHeartbeats 600000 in
set_option maxRecDepth 100000 in
theorem c_J0_length_8abf5 (l : Launch) (b0 : Nat) (adK adV : Nat → Nat) (i : Nat) (g_i : i < 6) : zJr l yJ0_length_8abf5 wsJ0_length_8abf5 ({ frames := 1, cells := 0, slots := 0, locals := 20 }) b0 adK adV [.ref (adK i)] ((tlen i : Int)) := by
  refine z_ofJr (cc := cJ0_length_8abf5) (maxL := 1) (ret := (some .int)) RJ0 (by decide +kernel) rfl rfl (Nat.le_of_ble_eq_true rfl) ?_
  intro p0 en0 s0 m0 args0 below0 meth0 c0 ls hx hb hr hlocks hml hown hts hE hSE hl
  have hl : lv_has ls 1 [(0, .ref (adK i))] := hl
  have g_t := tlen_b i g_i
  refine lv_aload_n hx hb dJ0_length_8abf5_0 rfl (lv_at hl 0 rfl) ?_
  refine vk_getf hx hb (hE.2.2.1 i g_i).2.2.1 hSE hown (hts (.fieldLink RJ0 9 "java/lang/String" "value" "[B") (List.mem_of_getElem? (i := 1) rfl)) (fun _ h9 => h9) dJ0_length_8abf5_1 ?_
  refine va_tlen hx hb (hE.2.2.1 i g_i).2.2.2 hSE (v := iI (tlen i : Int)) (iI_nI _).symm dJ0_length_8abf5_4 ?_
  refine lv_aload_n hx hb dJ0_length_8abf5_5 rfl (lv_at hl 0 rfl) ?_
  refine z_jrV (i := i) (As := []) (rest := [.int (iI ((tlen i : Int)))]) ⟨hx, hb, hml, hown, hts⟩ (c_J0_coder_7d493 l b0 adK adV (i) (by first | assumption | omega)) (cwV 0 hts gJ0_length_8abf5_J0_coder_7d493 rfl rfl rfl (by decide +kernel) ⟨Nat.le_of_ble_eq_true rfl, Nat.le_of_ble_eq_true rfl⟩) hE hSE (by first | assumption | omega) rfl hl.1 rfl (Nat.le_of_ble_eq_true rfl) dJ0_length_8abf5_6 ⟨by omega, by omega⟩ ?_
  refine z_ishr hx hb 0 1 dJ0_length_8abf5_9 (by decide) rfl (by omega) ?_
  refine z_jret hx hb hr hlocks dJ0_length_8abf5_10 rfl ?_
  simp

set_option maxHeartbeats 600000 in
set_option maxRecDepth 100000 in
theorem c_J1_charAt_3b067 (l : Launch) (b0 : Nat) (adK adV : Nat → Nat) (i : Nat) (x : Int) (g_i : i < 6) (g_x : 0 ≤ x ∧ x < (tlen i : Int)) : zJr l yJ1_charAt_3b067 wsJ1_charAt_3b067 ({ frames := 2, cells := 0, slots := 0, locals := 43 }) b0 adK adV [.ref (adV i), .int (iI (x))] (chr i x) := by
  refine z_ofJr (cc := cJ1_charAt_3b067) (maxL := 2) (ret := (some .char)) RJ1 (by decide +kernel) rfl rfl (Nat.le_of_ble_eq_true rfl) ?_
  intro p0 en0 s0 m0 args0 below0 meth0 c0 ls hx hb hr hlocks hml hown hts hE hSE hl
  have hl : lv_has ls 2 [(0, .ref (adV i)), (1, .int (iI (x)))] := hl
  have g_t := tlen_b i g_i
  refine lv_iload_n hx hb dJ1_charAt_3b067_0 rfl (lv_at hl 1 rfl) ?_
  refine lv_aload_n hx hb dJ1_charAt_3b067_1 rfl (lv_at hl 0 rfl) ?_
  refine va_tlen hx hb (hE.2.2.1 i g_i).2.2.2 hSE (v := iI (tlen i : Int)) (iI_nI _).symm dJ1_charAt_3b067_2 ?_
  refine z_jvS (As := [.int (iI (x)), .int (iI ((tlen i : Int)))]) (rest := []) ⟨hx, hb, hml, hown, hts⟩ (c_J0_checkIndex_df160 l b0 adK adV (x) ((tlen i : Int)) (by first | assumption | omega)) (va_cwS 2 hts gJ1_charAt_3b067_J0_checkIndex_df160 rfl rfl rfl (by decide +kernel) ⟨Nat.le_of_ble_eq_true rfl, Nat.le_of_ble_eq_true rfl⟩) hE hSE rfl hl.1 rfl (Nat.le_of_ble_eq_true rfl) dJ1_charAt_3b067_3 ⟨by omega, by omega⟩ ?_
  refine lv_aload_n hx hb dJ1_charAt_3b067_6 rfl (lv_at hl 0 rfl) ?_
  refine lv_iload_n hx hb dJ1_charAt_3b067_7 rfl (lv_at hl 1 rfl) ?_
  refine va_tb hx hb (hE.2.2.1 i g_i).2.2.2 hSE (iI_in ⟨by omega, by omega⟩ (by omega)) (v := .int (iI (chr i (x)))) (by rw [iI_clamp ⟨by omega, by omega⟩, Int.toNat_of_nonneg (by omega)]) dJ1_charAt_3b067_8 ?_
  have hb_1 := chr_b g_i (x)
  refine lv_sipush (v := iI (255)) hx hb dJ1_charAt_3b067_9 (by decide) ?_
  refine z_iand hx hb 8 256 dJ1_charAt_3b067_12 (by decide) rfl (by omega) ?_
  refine lv_i2c (v := iI (((chr i (x)) % 256))) hx hb dJ1_charAt_3b067_13 (i2c_I (by omega)) ?_
  refine z_jret hx hb hr hlocks dJ1_charAt_3b067_14 (nar_cI (by omega)) ?_
  omega

set_option maxHeartbeats 600000 in
set_option maxRecDepth 100000 in
theorem c_J0_charAt_5068e (l : Launch) (b0 : Nat) (adK adV : Nat → Nat) (i : Nat) (x : Int) (g_i : i < 6) (g_x : 0 ≤ x ∧ x < (tlen i : Int)) : zJr l yJ0_charAt_5068e wsJ0_charAt_5068e ({ frames := 3, cells := 0, slots := 0, locals := 64 }) b0 adK adV [.ref (adK i), .int (iI (x))] (chr i x) := by
  refine z_ofJr (cc := cJ0_charAt_5068e) (maxL := 2) (ret := (some .char)) RJ0 (by decide +kernel) rfl rfl (Nat.le_of_ble_eq_true rfl) ?_
  intro p0 en0 s0 m0 args0 below0 meth0 c0 ls hx hb hr hlocks hml hown hts hE hSE hl
  have hl : lv_has ls 2 [(0, .ref (adK i)), (1, .int (iI (x)))] := hl
  have g_t := tlen_b i g_i
  have g_ch := chr_b g_i x
  refine lv_aload_n hx hb dJ0_charAt_5068e_0 rfl (lv_at hl 0 rfl) ?_
  refine z_jrV (i := i) (As := []) (rest := []) ⟨hx, hb, hml, hown, hts⟩ (c_J0_isLatin1_aae02 l b0 adK adV (i) (by first | assumption | omega)) (cwV 0 hts gJ0_charAt_5068e_J0_isLatin1_aae02 rfl rfl rfl (by decide +kernel) ⟨Nat.le_of_ble_eq_true rfl, Nat.le_of_ble_eq_true rfl⟩) hE hSE (by first | assumption | omega) rfl hl.1 rfl (Nat.le_of_ble_eq_true rfl) dJ0_charAt_5068e_1 ⟨by omega, by omega⟩ ?_
  refine z_if_eq (tgt := 16) hx hb dJ0_charAt_5068e_4 (by decide) ⟨by omega, by omega⟩ (fun c_1 => ?_) (fun c_1 => ?_)
  · exfalso
    omega
  · refine lv_aload_n hx hb dJ0_charAt_5068e_7 rfl (lv_at hl 0 rfl) ?_
    refine vk_getf hx hb (hE.2.2.1 i g_i).2.2.1 hSE hown (hts (.fieldLink RJ0 9 "java/lang/String" "value" "[B") (List.mem_of_getElem? (i := 1) rfl)) (fun _ h9 => h9) dJ0_charAt_5068e_8 ?_
    refine lv_iload_n hx hb dJ0_charAt_5068e_11 rfl (lv_at hl 1 rfl) ?_
    refine z_jrS (As := [.ref (adV i), .int (iI (x))]) (rest := []) ⟨hx, hb, hml, hown, hts⟩ (c_J1_charAt_3b067 l b0 adK adV (i) (x) (by first | assumption | omega) (by first | assumption | omega)) (va_cwS 2 hts gJ0_charAt_5068e_J1_charAt_3b067 rfl rfl rfl (by decide +kernel) ⟨Nat.le_of_ble_eq_true rfl, Nat.le_of_ble_eq_true rfl⟩) hE hSE rfl hl.1 rfl (Nat.le_of_ble_eq_true rfl) dJ0_charAt_5068e_12 ⟨by omega, by omega⟩ ?_
    refine z_jret hx hb hr hlocks dJ0_charAt_5068e_15 (nar_cI (by omega)) ?_
    rfl

set_option maxHeartbeats 600000 in
set_option maxRecDepth 100000 in
theorem c_J1_canEncode_9a6ad (l : Launch) (b0 : Nat) (adK adV : Nat → Nat) (x : Int) (g_x : ib x) : zJr l yJ1_canEncode_9a6ad wsJ1_canEncode_9a6ad ({ frames := 0, cells := 0, slots := 0, locals := 0 }) b0 adK adV [.int (iI (x))] (bI (0 ≤ x ∧ x ≤ 255)) := by
  refine z_ofJr (cc := cJ1_canEncode_9a6ad) (maxL := 1) (ret := (some .boolean)) RJ1 (by decide +kernel) rfl rfl (Nat.le_of_ble_eq_true rfl) ?_
  intro p0 en0 s0 m0 args0 below0 meth0 c0 ls hx hb hr hlocks hml hown hts hE hSE hl
  have hl : lv_has ls 1 [(0, .int (iI (x)))] := hl
  refine lv_iload_n hx hb dJ1_canEncode_9a6ad_0 rfl (lv_at hl 0 rfl) ?_
  refine z_if_lt (tgt := 15) hx hb dJ1_canEncode_9a6ad_1 (by decide) ⟨by omega, by omega⟩ (fun c_1 => ?_) (fun c_1 => ?_)
  · refine lv_iconst (v := iI (0)) hx hb dJ1_canEncode_9a6ad_15 rfl ?_
    refine z_jret hx hb hr hlocks dJ1_canEncode_9a6ad_16 (nar_zI (by omega)) ?_
    first | exact (bI_t (by omega)).symm | exact (bI_f (by omega)).symm
  · refine lv_iload_n hx hb dJ1_canEncode_9a6ad_4 rfl (lv_at hl 0 rfl) ?_
    refine lv_sipush (v := iI (255)) hx hb dJ1_canEncode_9a6ad_5 (by decide) ?_
    refine z_icmp_gt (tgt := 15) hx hb dJ1_canEncode_9a6ad_8 (by decide) ⟨⟨by omega, by omega⟩, ⟨by omega, by omega⟩⟩ (fun c_2 => ?_) (fun c_2 => ?_)
    · refine lv_iconst (v := iI (0)) hx hb dJ1_canEncode_9a6ad_15 rfl ?_
      refine z_jret hx hb hr hlocks dJ1_canEncode_9a6ad_16 (nar_zI (by omega)) ?_
      first | exact (bI_t (by omega)).symm | exact (bI_f (by omega)).symm
    · refine lv_iconst (v := iI (1)) hx hb dJ1_canEncode_9a6ad_11 rfl ?_
      refine lv_goto (tgt := 16) hx hb dJ1_canEncode_9a6ad_12 (by decide) ?_
      refine z_jret hx hb hr hlocks dJ1_canEncode_9a6ad_16 (nar_zI (by omega)) ?_
      first | exact (bI_t (by omega)).symm | exact (bI_f (by omega)).symm

set_option maxHeartbeats 600000 in
set_option maxRecDepth 100000 in
theorem c_J1_indexOfChar_4cfef (l : Launch) (b0 : Nat) (adK adV : Nat → Nat) (i : Nat) (x : Int) (g_i : i < 6) (g_x : 0 ≤ x ∧ x < 128) : zJr l yJ1_indexOfChar_4cfef wsJ1_indexOfChar_4cfef ({ frames := 0, cells := 0, slots := 0, locals := 0 }) b0 adK adV [.ref (adV i), .int (iI (x)), .int (iI (0)), .int (iI ((tlen i : Int)))] (ixF i x (tlen i) 0) := by
  refine z_ofJr (cc := cJ1_indexOfChar_4cfef) (maxL := 6) (ret := (some .int)) RJ1 (by decide +kernel) rfl rfl (Nat.le_of_ble_eq_true rfl) ?_
  intro p0 en0 s0 m0 args0 below0 meth0 c0 ls hx hb hr hlocks hml hown hts hE hSE hl
  have hl : lv_has ls 6 [(0, .ref (adV i)), (1, .int (iI (x))), (2, .int (iI (0))), (3, .int (iI ((tlen i : Int))))] := hl
  have g_t := tlen_b i g_i
  refine lv_iload_n hx hb dJ1_indexOfChar_4cfef_0 rfl (lv_at hl 1 rfl) ?_
  refine lv_i2b (v := iI (x)) hx hb dJ1_indexOfChar_4cfef_1 (i2bI (by omega)) ?_
  refine lv_istore (lv' := [(4, .int (iI (x))), (0, .ref (adV i)), (1, .int (iI (x))), (2, .int (iI (0))), (3, .int (iI ((tlen i : Int))))]) hx hb dJ1_indexOfChar_4cfef_2 hl (by decide) rfl (fun ls hl => ?_)
  refine lv_iload_n hx hb dJ1_indexOfChar_4cfef_4 rfl (lv_at hl 3 rfl) ?_
  refine lv_istore (lv' := [(5, .int (iI (0))), (4, .int (iI (x))), (0, .ref (adV i)), (1, .int (iI (x))), (2, .int (iI (0))), (3, .int (iI ((tlen i : Int))))]) hx hb dJ1_indexOfChar_4cfef_5 hl (by decide) rfl (fun ls hl => ?_)
  have loop7 : ∀ (fu : Nat) (k : Nat), (g_k : k ≤ tlen i) → (g_fu : tlen i < k + fu) → (g_c : ixF i x (tlen i) 0 = ixF i x (tlen i - k) k) → ∀ ls : Array Slot, lv_has ls 6 [(5, .int (iI ((k : Int)))), (4, .int (iI (x))), (0, .ref (adV i)), (1, .int (iI (x))), (3, .int (iI ((tlen i : Int))))] → W p0 l en0 (headSpec wsJ1_indexOfChar_4cfef ({ frames := 0, cells := 0, slots := 0, locals := 0 })).room s0 m0 args0 below0 meth0 c0 s0.heap [] 0 0 (QRo below0 (ixF i x (tlen i) 0) args0 s0) (F0 m0 7 ls []) := by
    intro fu
    induction fu with
    | zero => intro k g_k g_fu g_c ls hl; exfalso; omega
    | succ fu ih7 =>
      intro k g_k g_fu g_c ls hl
      refine lv_iload hx hb dJ1_indexOfChar_4cfef_7 (lv_at hl 0 rfl) ?_
      refine lv_iload_n hx hb dJ1_indexOfChar_4cfef_9 rfl (lv_at hl 4 rfl) ?_
      refine z_icmp_ge (tgt := 31) hx hb dJ1_indexOfChar_4cfef_10 (by decide) ⟨⟨by omega, by omega⟩, ⟨by omega, by omega⟩⟩ (fun c_1 => ?_) (fun c_1 => ?_)
      · refine lv_iconst (v := iI (-1)) hx hb dJ1_indexOfChar_4cfef_31 rfl ?_
        refine z_jret hx hb hr hlocks dJ1_indexOfChar_4cfef_32 rfl ?_
        rw [g_c, show tlen i - k = 0 by omega]
        rfl
      · refine lv_aload_n hx hb dJ1_indexOfChar_4cfef_13 rfl (lv_at hl 2 rfl) ?_
        refine lv_iload hx hb dJ1_indexOfChar_4cfef_14 (lv_at hl 0 rfl) ?_
        refine va_tb hx hb (hE.2.2.1 i g_i).2.2.2 hSE (iI_in ⟨by omega, by omega⟩ (by omega)) (v := .int (iI (chr i ((k : Int))))) (by rw [iI_clamp ⟨by omega, by omega⟩, Int.toNat_of_nonneg (by omega)]) dJ1_indexOfChar_4cfef_16 ?_
        have hb_2 := chr_b g_i ((k : Int))
        refine lv_iload hx hb dJ1_indexOfChar_4cfef_17 (lv_at hl 1 rfl) ?_
        refine z_icmp_ne (tgt := 25) hx hb dJ1_indexOfChar_4cfef_19 (by decide) ⟨⟨by omega, by omega⟩, ⟨by omega, by omega⟩⟩ (fun c_3 => ?_) (fun c_3 => ?_)
        · refine lv_iinc (v := iI ((k : Int) + 1)) (lv' := [(5, .int (iI ((k : Int) + 1))), (4, .int (iI (x))), (0, .ref (adV i)), (1, .int (iI (x))), (3, .int (iI ((tlen i : Int))))]) hx hb dJ1_indexOfChar_4cfef_25 hl (k := 0) rfl (iI_add ((k : Int)) (1)) (by decide) rfl (fun ls hl => ?_)
          refine lv_goto (tgt := 7) hx hb dJ1_indexOfChar_4cfef_28 (by decide) ?_
          exact ih7 (k + 1) (by omega) (by omega) (by rw [g_c, show tlen i - k = (tlen i - (k + 1)) + 1 by omega, ixF, if_neg (by omega)]) _ (lv_sub hl [0, 1, 2, 3, 4] rfl)
        · refine lv_iload hx hb dJ1_indexOfChar_4cfef_22 (lv_at hl 0 rfl) ?_
          refine z_jret hx hb hr hlocks dJ1_indexOfChar_4cfef_24 rfl ?_
          rw [g_c, show tlen i - k = (tlen i - (k + 1)) + 1 by omega, ixF, if_pos (by omega)]
  exact loop7 (tlen i + 1) 0 (by omega) (by omega) rfl _ (lv_sub hl [0, 1, 2, 3, 5] rfl)

set_option maxHeartbeats 600000 in
set_option maxRecDepth 100000 in
theorem c_J1_indexOf_4cfef (l : Launch) (b0 : Nat) (adK adV : Nat → Nat) (i : Nat) (x : Int) (g_i : i < 6) (g_x : 0 ≤ x ∧ x < 128) : zJr l yJ1_indexOf_4cfef wsJ1_indexOf_4cfef ({ frames := 1, cells := 0, slots := 0, locals := 40 }) b0 adK adV [.ref (adV i), .int (iI (x)), .int (iI (0)), .int (iI ((tlen i : Int)))] ((if x < 128 then ixF i x (tlen i) 0 else -1)) := by
  refine z_ofJr (cc := cJ1_indexOf_4cfef) (maxL := 4) (ret := (some .int)) RJ1 (by decide +kernel) rfl rfl (Nat.le_of_ble_eq_true rfl) ?_
  intro p0 en0 s0 m0 args0 below0 meth0 c0 ls hx hb hr hlocks hml hown hts hE hSE hl
  have hl : lv_has ls 4 [(0, .ref (adV i)), (1, .int (iI (x))), (2, .int (iI (0))), (3, .int (iI ((tlen i : Int))))] := hl
  have g_t := tlen_b i g_i
  have g_ix := ixF_b i x (tlen i) 0
  refine lv_iload_n hx hb dJ1_indexOf_4cfef_0 rfl (lv_at hl 1 rfl) ?_
  refine z_jrS (As := [.int (iI (x))]) (rest := []) ⟨hx, hb, hml, hown, hts⟩ (c_J1_canEncode_9a6ad l b0 adK adV (x) (by first | assumption | omega)) (va_cwS 1 hts gJ1_indexOf_4cfef_J1_canEncode_9a6ad rfl rfl rfl (by decide +kernel) ⟨Nat.le_of_ble_eq_true rfl, Nat.le_of_ble_eq_true rfl⟩) hE hSE rfl hl.1 rfl (Nat.le_of_ble_eq_true rfl) dJ1_indexOf_4cfef_1 ⟨by omega, by omega⟩ ?_
  refine z_b_ne (tgt := 9) hx hb dJ1_indexOf_4cfef_4 (by decide) (fun c_1 => ?_) (fun c_1 => ?_)
  · refine lv_iload_n hx hb dJ1_indexOf_4cfef_9 rfl (lv_at hl 2 rfl) ?_
    refine lv_iconst (v := iI (0)) hx hb dJ1_indexOf_4cfef_10 rfl ?_
    refine va_mmax hx hb (by rw [hml]; exact hl.1.symm) hown (hts (.methodLink RJ1 92 Lib.Math.max.name) (List.mem_of_getElem? (i := 1) rfl)) (hts (.static Lib.Math.max.name) (List.mem_of_getElem? (i := 2) rfl)) (hts (.initialized "java/lang/Math") (List.mem_of_getElem? (i := 3) rfl)) (hts (.code Lib.Math.max.name Lib.Math.max.code 2 (some .int)) (List.mem_of_getElem? (i := 4) rfl)) (Nat.le_of_ble_eq_true rfl) (Nat.le_of_ble_eq_true rfl) (Nat.le_refl 0) (Nat.le_refl 0) dJ1_indexOf_4cfef_11 ?_
    simp only [ite_self]
    refine lv_istore_n (lv' := [(2, .int (iI (0))), (0, .ref (adV i)), (1, .int (iI (x))), (3, .int (iI ((tlen i : Int))))]) hx hb dJ1_indexOf_4cfef_14 rfl hl (by decide) rfl (fun ls hl => ?_)
    refine lv_iload_n hx hb dJ1_indexOf_4cfef_15 rfl (lv_at hl 3 rfl) ?_
    refine lv_aload_n hx hb dJ1_indexOf_4cfef_16 rfl (lv_at hl 1 rfl) ?_
    refine va_tlen hx hb (hE.2.2.1 i g_i).2.2.2 hSE (v := iI (tlen i : Int)) (iI_nI _).symm dJ1_indexOf_4cfef_17 ?_
    refine va_mmin hx hb (by rw [hml]; exact hl.1.symm) hown (hts (.methodLink RJ1 38 Lib.Math.min.name) (List.mem_of_getElem? (i := 5) rfl)) (hts (.static Lib.Math.min.name) (List.mem_of_getElem? (i := 6) rfl)) (hts (.initialized "java/lang/Math") (List.mem_of_getElem? (i := 3) rfl)) (hts (.code Lib.Math.min.name Lib.Math.min.code 2 (some .int)) (List.mem_of_getElem? (i := 7) rfl)) (Nat.le_of_ble_eq_true rfl) (Nat.le_of_ble_eq_true rfl) (Nat.le_refl 0) (Nat.le_refl 0) dJ1_indexOf_4cfef_18 ?_
    simp only [ite_self]
    refine lv_istore_n (lv' := [(3, .int (iI ((tlen i : Int)))), (2, .int (iI (0))), (0, .ref (adV i)), (1, .int (iI (x)))]) hx hb dJ1_indexOf_4cfef_21 rfl hl (by decide) rfl (fun ls hl => ?_)
    refine lv_iload_n hx hb dJ1_indexOf_4cfef_22 rfl (lv_at hl 1 rfl) ?_
    refine lv_iload_n hx hb dJ1_indexOf_4cfef_23 rfl (lv_at hl 0 rfl) ?_
    refine z_icmp_lt (tgt := 29) hx hb dJ1_indexOf_4cfef_24 (by decide) ⟨⟨by omega, by omega⟩, ⟨by omega, by omega⟩⟩ (fun c_2 => ?_) (fun c_2 => ?_)
    · refine lv_aload_n hx hb dJ1_indexOf_4cfef_29 rfl (lv_at hl 2 rfl) ?_
      refine lv_iload_n hx hb dJ1_indexOf_4cfef_30 rfl (lv_at hl 3 rfl) ?_
      refine lv_iload_n hx hb dJ1_indexOf_4cfef_31 rfl (lv_at hl 1 rfl) ?_
      refine lv_iload_n hx hb dJ1_indexOf_4cfef_32 rfl (lv_at hl 0 rfl) ?_
      refine z_jrS (As := [.ref (adV i), .int (iI (x)), .int (iI (0)), .int (iI ((tlen i : Int)))]) (rest := []) ⟨hx, hb, hml, hown, hts⟩ (c_J1_indexOfChar_4cfef l b0 adK adV (i) (x) (by first | assumption | omega) (by first | assumption | omega)) (va_cwS 4 hts gJ1_indexOf_4cfef_J1_indexOfChar_4cfef rfl rfl rfl (by decide +kernel) ⟨Nat.le_of_ble_eq_true rfl, Nat.le_of_ble_eq_true rfl⟩) hE hSE rfl hl.1 rfl (Nat.le_of_ble_eq_true rfl) dJ1_indexOf_4cfef_33 ⟨by omega, by omega⟩ ?_
      refine z_jret hx hb hr hlocks dJ1_indexOf_4cfef_36 rfl ?_
      rw [if_pos (by omega)]
    · refine lv_iconst (v := iI (-1)) hx hb dJ1_indexOf_4cfef_27 rfl ?_
      refine z_jret hx hb hr hlocks dJ1_indexOf_4cfef_28 rfl ?_
      rw [if_pos (by omega), show tlen i = 0 by omega]
      rfl
  · refine lv_iconst (v := iI (-1)) hx hb dJ1_indexOf_4cfef_7 rfl ?_
    refine z_jret hx hb hr hlocks dJ1_indexOf_4cfef_8 rfl ?_
    exfalso; omega

