def arg (TA : Int → Int) (tac j : Int) : Int := if j < tac ∧ j < 4 then TA j else 0
abbrev PS : Type := Int × (Int → Int) × Int
def sgn (SG : Int → Int) (tl p : Int) : Int := if 0 ≤ p ∧ p < tl ∧ p < 80 then SG p else -1
def rD (SG : Int → Int) (tl h p : Int) : Int × Int := if 0 ≤ sgn SG tl p - 48 ∧ sgn SG tl p - 48 ≤ h then (sgn SG tl p - 48, p + 1) else (-2, p)
def rS (SG : Int → Int) (tl c p : Int) : Int × Int := if sgn SG tl p = c then (1, p + 1) else (0, p)
def rK (SG : Int → Int) (tl p : Int) : Int × Int := if (rD SG tl 9 p).1 = 1 then (if (rD SG tl 9 (rD SG tl 9 p).2).1 = -2 then (1, (rD SG tl 9 (rD SG tl 9 p).2).2) else (10 + (rD SG tl 9 (rD SG tl 9 p).2).1, (rD SG tl 9 (rD SG tl 9 p).2).2)) else rD SG tl 9 p
def kpA (a : Int) (p : Int) (TA : Int → Int) (tac : Int) : Int × PS := if a = -2 ∨ 4 ≤ tac then (0, (p, TA, tac)) else (1, (p, uI TA tac a, tac + 1))
def rP (SG : Int → Int) (tl ch : Int) (st : PS) : Int × PS :=
  if ch = 116 then kpA (rD SG tl 3 st.1).1 (rD SG tl 3 st.1).2 st.2.1 st.2.2
  else if ch = 107 then kpA (rK SG tl st.1).1 (rK SG tl st.1).2 st.2.1 st.2.2
  else if ch = 99 then kpA (rD SG tl 1 st.1).1 (rD SG tl 1 st.1).2 st.2.1 st.2.2
  else if ch = 118 then (if (rS SG tl 110 st.1).1 = 0 then kpA (rK SG tl (rS SG tl 110 st.1).2).1 (rK SG tl (rS SG tl 110 st.1).2).2 st.2.1 st.2.2 else kpA (-1) (rS SG tl 110 st.1).2 st.2.1 st.2.2)
  else if ch = 112 then kpA (rD SG tl 3 st.1).1 (rD SG tl 3 st.1).2 st.2.1 st.2.2
  else ((rS SG tl ch st.1).1, ((rS SG tl ch st.1).2, st.2.1, st.2.2))
def rF (SG : Int → Int) (tl : Int) (i : Nat) : Nat → Nat → PS → Int × PS
  | 0, _, st => (1, st)
  | f + 1, k, st => if (rP SG tl (chr i (k : Int)) st).1 = 0 then (0, (rP SG tl (chr i (k : Int)) st).2) else rF SG tl i f (k + 1) (rP SG tl (chr i (k : Int)) st).2
def frm (x : Int) : Nat := if x = 98 then 4 else if x = 100 then 3 else if x = 105 then 1 else if x = 117 then 2 else 5
theorem frm_lt (x : Int) : frm x < 6 := by
  unfold frm
  repeat' split
  all_goals omega
def isLt (x : Int) : Prop := ¬ x = -1 ∧ 0 ≤ ixF 0 x (tlen 0) 0
/-- a command read: 1 or 0, the place, the arguments and how many -/
noncomputable def rC (SG : Int → Int) (tl p : Int) (TA : Int → Int) : Int × PS := @ite _ (isLt (sgn SG tl p)) (Classical.propDecidable _) (rF SG tl (frm (sgn SG tl p)) (tlen (frm (sgn SG tl p))) 0 (p + 1, TA, 0)) (0, (p, TA, 0))
theorem sgn_b {SG : Int → Int} (g : ∀ j : Int, 0 ≤ j → j < 80 → 0 ≤ SG j ∧ SG j < 128) (tl p : Int) : -1 ≤ sgn SG tl p ∧ sgn SG tl p < 128 ∧ (¬ sgn SG tl p = -1 → 0 ≤ sgn SG tl p ∧ p < tl) := by
  unfold sgn
  split
  · have := g p
    omega
  · omega
theorem rD_b {SG : Int → Int} {tl : Int} (g : ∀ j : Int, 0 ≤ j → j < 80 → 0 ≤ SG j ∧ SG j < 128) (h p : Int) (gp : p ≤ tl) : (-2 ≤ (rD SG tl h p).1 ∧ (rD SG tl h p).1 < 128) ∧ p ≤ (rD SG tl h p).2 ∧ (rD SG tl h p).2 ≤ tl := by
  have hs := sgn_b g tl p
  unfold rD
  split
  · dsimp only
    omega
  · dsimp only
    omega
theorem rS_b {SG : Int → Int} {tl : Int} (g : ∀ j : Int, 0 ≤ j → j < 80 → 0 ≤ SG j ∧ SG j < 128) (c p : Int) (hc : 0 ≤ c) (gp : p ≤ tl) : ((rS SG tl c p).1 = 0 ∨ (rS SG tl c p).1 = 1) ∧ p ≤ (rS SG tl c p).2 ∧ (rS SG tl c p).2 ≤ tl := by
  have hs := sgn_b g tl p
  unfold rS
  split
  · dsimp only
    omega
  · dsimp only
    omega
theorem rK_b {SG : Int → Int} {tl : Int} (g : ∀ j : Int, 0 ≤ j → j < 80 → 0 ≤ SG j ∧ SG j < 128) (p : Int) (gp : p ≤ tl) : (-2 ≤ (rK SG tl p).1 ∧ (rK SG tl p).1 < 138) ∧ p ≤ (rK SG tl p).2 ∧ (rK SG tl p).2 ≤ tl := by
  have h1 := rD_b g 9 p gp
  have h2 := rD_b g 9 (rD SG tl 9 p).2 h1.2.2
  unfold rK
  split
  · split
    · dsimp only
      omega
    · dsimp only
      omega
  · omega
theorem kpA_b {a p tac : Int} {TA : Int → Int} : ((kpA a p TA tac).1 = 0 ∨ (kpA a p TA tac).1 = 1) ∧ (kpA a p TA tac).2.1 = p := by
  unfold kpA
  split <;> simp
theorem rP_b {SG : Int → Int} {tl : Int} (g : ∀ j : Int, 0 ≤ j → j < 80 → 0 ≤ SG j ∧ SG j < 128) {ch : Int} (hc : 0 ≤ ch) (st : PS) (gp : st.1 ≤ tl) : ((rP SG tl ch st).1 = 0 ∨ (rP SG tl ch st).1 = 1) ∧ st.1 ≤ (rP SG tl ch st).2.1 ∧ (rP SG tl ch st).2.1 ≤ tl := by
  have d3 := rD_b g 3 st.1 gp
  have d1 := rD_b g 1 st.1 gp
  have kk := rK_b g st.1 gp
  have ss := rS_b g 110 st.1 (by omega) gp
  have sc := rS_b g ch st.1 hc gp
  have k2 := rK_b g (rS SG tl 110 st.1).2 ss.2.2
  unfold rP
  repeat' split
  all_goals first
    | (refine ⟨kpA_b.1, ?_⟩; rw [kpA_b.2]; omega)
    | exact sc

set_option maxHeartbeats 600000 in
set_option maxRecDepth 100000 in
theorem c_J0_indexOf_7cf53 (l : Launch) (b0 : Nat) (adK adV : Nat → Nat) (i : Nat) (x : Int) (g_i : i < 6) (g_x : 0 ≤ x ∧ x < 128) : zJr l yJ0_indexOf_7cf53 wsJ0_indexOf_7cf53 ({ frames := 2, cells := 0, slots := 0, locals := 63 }) b0 adK adV [.ref (adK i), .int (iI (x)), .int (iI (0))] ((if x < 128 then ixF i x (tlen i) 0 else -1)) := by
  refine z_ofJr (cc := cJ0_indexOf_7cf53) (maxL := 3) (ret := (some .int)) RJ0 (by decide +kernel) rfl rfl (Nat.le_of_ble_eq_true rfl) ?_
  intro p0 en0 s0 m0 args0 below0 meth0 c0 ls hx hb hr hlocks hml hown hts hE hSE hl
  have hl : lv_has ls 3 [(0, .ref (adK i)), (1, .int (iI (x))), (2, .int (iI (0)))] := hl
  have g_t := tlen_b i g_i
  refine lv_aload_n hx hb dJ0_indexOf_7cf53_0 rfl (lv_at hl 0 rfl) ?_
  refine z_jrV (i := i) (As := []) (rest := []) ⟨hx, hb, hml, hown, hts⟩ (c_J0_isLatin1_aae02 l b0 adK adV (i) (by first | assumption | omega)) (cwV 0 hts gJ0_indexOf_7cf53_J0_isLatin1_aae02 rfl rfl rfl (by decide +kernel) ⟨Nat.le_of_ble_eq_true rfl, Nat.le_of_ble_eq_true rfl⟩) hE hSE (by first | assumption | omega) rfl hl.1 rfl (Nat.le_of_ble_eq_true rfl) dJ0_indexOf_7cf53_1 ⟨by omega, by omega⟩ ?_
  refine z_if_eq (tgt := 23) hx hb dJ0_indexOf_7cf53_4 (by decide) ⟨by omega, by omega⟩ (fun c_1 => ?_) (fun c_1 => ?_)
  · exfalso
    omega
  · refine lv_aload_n hx hb dJ0_indexOf_7cf53_7 rfl (lv_at hl 0 rfl) ?_
    refine vk_getf hx hb (hE.2.2.1 i g_i).2.2.1 hSE hown (hts (.fieldLink RJ0 9 "java/lang/String" "value" "[B") (List.mem_of_getElem? (i := 1) rfl)) (fun _ h9 => h9) dJ0_indexOf_7cf53_8 ?_
    refine lv_iload_n hx hb dJ0_indexOf_7cf53_11 rfl (lv_at hl 1 rfl) ?_
    refine lv_iload_n hx hb dJ0_indexOf_7cf53_12 rfl (lv_at hl 2 rfl) ?_
    refine lv_aload_n hx hb dJ0_indexOf_7cf53_13 rfl (lv_at hl 0 rfl) ?_
    refine z_jrV (i := i) (As := []) (rest := [.int (iI (0)), .int (iI (x)), .ref (adV i)]) ⟨hx, hb, hml, hown, hts⟩ (c_J0_length_8abf5 l b0 adK adV (i) (by first | assumption | omega)) (cwV 0 hts gJ0_indexOf_7cf53_J0_length_8abf5 rfl rfl rfl (by decide +kernel) ⟨Nat.le_of_ble_eq_true rfl, Nat.le_of_ble_eq_true rfl⟩) hE hSE (by first | assumption | omega) rfl hl.1 rfl (Nat.le_of_ble_eq_true rfl) dJ0_indexOf_7cf53_14 ⟨by omega, by omega⟩ ?_
    refine z_jrS (As := [.ref (adV i), .int (iI (x)), .int (iI (0)), .int (iI (((tlen i : Int))))]) (rest := []) ⟨hx, hb, hml, hown, hts⟩ (c_J1_indexOf_4cfef l b0 adK adV (i) (x) (by first | assumption | omega) (by first | assumption | omega)) (va_cwS 4 hts gJ0_indexOf_7cf53_J1_indexOf_4cfef rfl rfl rfl (by decide +kernel) ⟨Nat.le_of_ble_eq_true rfl, Nat.le_of_ble_eq_true rfl⟩) hE hSE rfl hl.1 rfl (Nat.le_of_ble_eq_true rfl) dJ0_indexOf_7cf53_17 ⟨by omega, by omega⟩ ?_
    refine lv_goto (tgt := 36) hx hb dJ0_indexOf_7cf53_20 (by decide) ?_
    refine z_jret hx hb hr hlocks dJ0_indexOf_7cf53_36 rfl ?_
    rfl

set_option maxHeartbeats 600000 in
set_option maxRecDepth 100000 in
theorem c_J0_indexOf_0f7a4 (l : Launch) (b0 : Nat) (adK adV : Nat → Nat) (i : Nat) (x : Int) (g_i : i < 6) (g_x : 0 ≤ x ∧ x < 128) : zJr l yJ0_indexOf_0f7a4 wsJ0_indexOf_0f7a4 ({ frames := 3, cells := 0, slots := 0, locals := 85 }) b0 adK adV [.ref (adK i), .int (iI (x))] (ixF i x (tlen i) 0) := by
  refine z_ofJr (cc := cJ0_indexOf_0f7a4) (maxL := 2) (ret := (some .int)) RJ0 (by decide +kernel) rfl rfl (Nat.le_of_ble_eq_true rfl) ?_
  intro p0 en0 s0 m0 args0 below0 meth0 c0 ls hx hb hr hlocks hml hown hts hE hSE hl
  have hl : lv_has ls 2 [(0, .ref (adK i)), (1, .int (iI (x)))] := hl
  refine lv_aload_n hx hb dJ0_indexOf_0f7a4_0 rfl (lv_at hl 0 rfl) ?_
  refine lv_iload_n hx hb dJ0_indexOf_0f7a4_1 rfl (lv_at hl 1 rfl) ?_
  refine lv_iconst (v := iI (0)) hx hb dJ0_indexOf_0f7a4_2 rfl ?_
  refine z_jrV (i := i) (As := [.int (iI (x)), .int (iI (0))]) (rest := []) ⟨hx, hb, hml, hown, hts⟩ (c_J0_indexOf_7cf53 l b0 adK adV (i) (x) (by first | assumption | omega) (by first | assumption | omega)) (cwV 2 hts gJ0_indexOf_0f7a4_J0_indexOf_7cf53 rfl rfl rfl (by decide +kernel) ⟨Nat.le_of_ble_eq_true rfl, Nat.le_of_ble_eq_true rfl⟩) hE hSE (by first | assumption | omega) rfl hl.1 rfl (Nat.le_of_ble_eq_true rfl) dJ0_indexOf_0f7a4_3 ⟨by omega, by omega⟩ ?_
  refine z_jret hx hb hr hlocks dJ0_indexOf_0f7a4_6 rfl ?_
  rw [if_pos (by omega)]

set_option maxHeartbeats 600000 in
set_option maxRecDepth 100000 in
theorem c_X6_formOf (l : Launch) (b0 : Nat) (adK adV : Nat → Nat) (x : Int) (g_x : ib x) : zJs l yX6_formOf wsX6_formOf ({ frames := 0, cells := 0, slots := 0, locals := 0 }) b0 adK adV [.int (iI (x))] (frm x) := by
  refine z_ofJs (cc := cX6_formOf) (maxL := 1) (ret := (some (.object "java/lang/String"))) RX6 (by decide +kernel) rfl rfl (Nat.le_of_ble_eq_true rfl) ?_
  intro p0 en0 s0 m0 args0 below0 meth0 c0 ls hx hb hr hlocks hml hown hts hE hSE hl
  have hl : lv_has ls 1 [(0, .int (iI (x)))] := hl
  refine lv_iload_n hx hb dX6_formOf_0 rfl (lv_at hl 0 rfl) ?_
  by_cases k_1 : x = 98
  · refine lv_lookup (off := 52) (tgt := 53) hx hb dX6_formOf_1 (by decide) (by rw [iI_toInt ⟨by omega, by omega⟩, k_1]; rfl) (by decide) ?_
    refine va_ldcS hx hb hown hE.2.2.2.2.2.2.2.1 dX6_formOf_53 ?_
    exact W.aret hx hb hr (Or.inl ⟨_, rfl⟩) (Or.inr ⟨_, rfl⟩) (fun t ht hW => ⟨4, rfl, by unfold frm; repeat' split; all_goals omega, ht⟩) (fun q h => by cases h) dX6_formOf_55 hlocks
  by_cases k_2 : x = 100
  · refine lv_lookup (off := 49) (tgt := 50) hx hb dX6_formOf_1 (by decide) (by rw [iI_toInt ⟨by omega, by omega⟩, k_2]; rfl) (by decide) ?_
    refine va_ldcS hx hb hown hE.2.2.2.2.2.2.1 dX6_formOf_50 ?_
    exact W.aret hx hb hr (Or.inl ⟨_, rfl⟩) (Or.inr ⟨_, rfl⟩) (fun t ht hW => ⟨3, rfl, by unfold frm; repeat' split; all_goals omega, ht⟩) (fun q h => by cases h) dX6_formOf_52 hlocks
  by_cases k_3 : x = 105
  · refine lv_lookup (off := 43) (tgt := 44) hx hb dX6_formOf_1 (by decide) (by rw [iI_toInt ⟨by omega, by omega⟩, k_3]; rfl) (by decide) ?_
    refine va_ldcS hx hb hown hE.2.2.2.2.1 dX6_formOf_44 ?_
    exact W.aret hx hb hr (Or.inl ⟨_, rfl⟩) (Or.inr ⟨_, rfl⟩) (fun t ht hW => ⟨1, rfl, by unfold frm; repeat' split; all_goals omega, ht⟩) (fun q h => by cases h) dX6_formOf_46 hlocks
  by_cases k_4 : x = 117
  · refine lv_lookup (off := 46) (tgt := 47) hx hb dX6_formOf_1 (by decide) (by rw [iI_toInt ⟨by omega, by omega⟩, k_4]; rfl) (by decide) ?_
    refine va_ldcS hx hb hown hE.2.2.2.2.2.1 dX6_formOf_47 ?_
    exact W.aret hx hb hr (Or.inl ⟨_, rfl⟩) (Or.inr ⟨_, rfl⟩) (fun t ht hW => ⟨2, rfl, by unfold frm; repeat' split; all_goals omega, ht⟩) (fun q h => by cases h) dX6_formOf_49 hlocks
  refine lv_lookup (off := 55) (tgt := 56) hx hb dX6_formOf_1 (by decide) (by rw [iI_toInt ⟨by omega, by omega⟩]; simp only [Op.lookupswitch.offset_cons]; rw [if_neg (by omega)]; rw [if_neg (by omega)]; rw [if_neg (by omega)]; rw [if_neg (by omega)]; rfl) (by decide) ?_
  refine va_ldcS hx hb hown hE.2.2.2.2.2.2.2.2 dX6_formOf_56 ?_
  exact W.aret hx hb hr (Or.inl ⟨_, rfl⟩) (Or.inr ⟨_, rfl⟩) (fun t ht hW => ⟨5, rfl, by unfold frm; repeat' split; all_goals omega, ht⟩) (fun q h => by cases h) dX6_formOf_58 hlocks

set_option maxHeartbeats 600000 in
set_option maxRecDepth 100000 in
theorem c_X6_length (l : Launch) (D : va_G) (cI cZ cC : ClassId) (ad : Nat → Nat) (SG : Int → Int) (tl tp tq tac : Int) : zRo l yX6_length wsX6_length ({ frames := 0, cells := 0, slots := 0, locals := 0 }) D cI cZ cC [(ad 18, .inr (6, [.ref (ad 19), .int (iI (tl)), .int (iI (tp)), .int (iI (tq)), .ref (ad 20), .int (iI (tac))]))] [.ref (ad 18)] (tl) := by
  refine z_ofRo (cc := cX6_length) (maxL := 1) (ret := (some .int)) RX6 (by decide +kernel) rfl rfl (Nat.le_of_ble_eq_true rfl) ?_
  intro p0 en0 s0 m0 args0 below0 meth0 c0 ls hx hb hr hlocks hml hown hts hP hK hl
  have hl : lv_has ls 1 [(0, .ref (ad 18))] := hl
  refine lv_aload_n hx hb dX6_length_0 rfl (lv_at hl 0 rfl) ?_
  refine va_get (D := D) (ci := 6) (v := .int (iI (tl))) (C := RX6) (T := TX6) (N := 6) hx hb hts (fun _ h => List.mem_cons_of_mem _ (List.mem_append_right _ (h))) hown hK.1 hP 0 rfl rfl 1 (by decide) (hts (.fieldLink RX6 15 "ForeignKeyStore$Text" "length" "I") (List.mem_of_getElem? (i := 1) rfl)) (fun _ h9 => h9) rfl dX6_length_1 ?_
  refine z_rret hx hb hr hlocks dX6_length_4 ?_
  rfl

set_option maxHeartbeats 600000 in
set_option maxRecDepth 100000 in
theorem c_X6_letter (l : Launch) (D : va_G) (cI cZ cC : ClassId) (ad : Nat → Nat) (SG : Int → Int) (tl tp tq tac : Int) : zRo l yX6_letter wsX6_letter ({ frames := 0, cells := 0, slots := 0, locals := 0 }) D cI cZ cC [(ad 18, .inr (6, [.ref (ad 19), .int (iI (tl)), .int (iI (tp)), .int (iI (tq)), .ref (ad 20), .int (iI (tac))]))] [.ref (ad 18)] (tq) := by
  refine z_ofRo (cc := cX6_letter) (maxL := 1) (ret := (some .int)) RX6 (by decide +kernel) rfl rfl (Nat.le_of_ble_eq_true rfl) ?_
  intro p0 en0 s0 m0 args0 below0 meth0 c0 ls hx hb hr hlocks hml hown hts hP hK hl
  have hl : lv_has ls 1 [(0, .ref (ad 18))] := hl
  refine lv_aload_n hx hb dX6_letter_0 rfl (lv_at hl 0 rfl) ?_
  refine va_get (D := D) (ci := 6) (v := .int (iI (tq))) (C := RX6) (T := TX6) (N := 6) hx hb hts (fun _ h => List.mem_cons_of_mem _ (List.mem_append_right _ (h))) hown hK.1 hP 0 rfl rfl 3 (by decide) (hts (.fieldLink RX6 22 "ForeignKeyStore$Text" "letter" "I") (List.mem_of_getElem? (i := 1) rfl)) (fun _ h9 => h9) rfl dX6_letter_1 ?_
  refine z_rret hx hb hr hlocks dX6_letter_4 ?_
  rfl

set_option maxHeartbeats 600000 in
set_option maxRecDepth 100000 in
theorem c_X6_clear (l : Launch) (D : va_G) (cI cZ cC : ClassId) (sz : Nat) (ad : Nat → Nat) (SG : Int → Int) (tl tp tq tac : Int) : zMv l yX6_clear wsX6_clear ({ frames := 0, cells := 0, slots := 0, locals := 0 }) D cI cZ cC [(ad 18, .inr (6, [.ref (ad 19), .int (iI (tl)), .int (iI (tp)), .int (iI (tq)), .ref (ad 20), .int (iI (tac))]))] sz [.ref (ad 18)] (0) (0) (fun (u : Unit) => [(ad 18, .inr (6, [.ref (ad 19), .int (iI (0)), .int (iI (tp)), .int (iI (tq)), .ref (ad 20), .int (iI (tac))]))]) (fun _ => True) := by
  refine z_ofMv (cc := cX6_clear) (maxL := 1) (ret := none) RX6 (by decide +kernel) rfl rfl (Nat.le_of_ble_eq_true rfl) ?_
  intro p0 en0 s0 m0 args0 below0 meth0 c0 ls AA hx hb hr hlocks hnm hml hown hts hP hD hS hA hK hl
  have hl : lv_has ls 1 [(0, .ref (ad 18))] := hl
  obtain ⟨H, hH⟩ : ∃ H, H = s0.heap := ⟨_, rfl⟩
  obtain ⟨locs, hlo⟩ : ∃ locs : List Loc, locs = [] := ⟨_, rfl⟩
  have hP : va_P D vwCl [(ad 18, .inr (6, [.ref (ad 19), .int (iI (tl)), .int (iI (tp)), .int (iI (tq)), .ref (ad 20), .int (iI (tac))]))] H := by rw [hH]; exact hP
  have hS : va_S AA s0.heap H locs := by rw [hH, hlo]; exact hS
  suffices hW : W p0 l en0 (headSpec wsX6_clear ({ frames := 0, cells := 0, slots := 0, locals := 0 })).room s0 m0 args0 below0 meth0 c0 H locs 0 0 (QMv below0 D ((fun (u : Unit) => [(ad 18, .inr (6, [.ref (ad 19), .int (iI (0)), .int (iI (tp)), .int (iI (tq)), .ref (ad 20), .int (iI (tac))]))])) (fun _ => True) AA args0 s0 (0) (0)) (F0 m0 0 ls []) by rw [hH, hlo] at hW; exact hW
  refine lv_aload_n hx hb dX6_clear_0 rfl (lv_at hl 0 rfl) ?_
  refine lv_iconst (v := iI (0)) hx hb dX6_clear_1 rfl ?_
  refine va_put (D := D) (ci := 6) (v := .int (iI (0))) (ty := .int) (C := RX6) (T := TX6) (N := 6) hx hb hts (fun _ h => List.mem_cons_of_mem _ (List.mem_append_right _ (h))) tyX6 tyX6_ok nmX6 hown hK.1 hP hD hS 0 rfl rfl 1 (by decide) (hts (.fieldLink RX6 15 "ForeignKeyStore$Text" "length" "I") (List.mem_of_getElem? (i := 1) rfl)) (fun _ h9 => h9) rfl (by decide +kernel) rfl rfl (Nat.le_of_ble_eq_true rfl) dX6_clear_2 (fun H locs hP hD hS => ?_)
  have hP : va_P D vwCl [(ad 18, .inr (6, [.ref (ad 19), .int (iI (0)), .int (iI (tp)), .int (iI (tq)), .ref (ad 20), .int (iI (tac))]))] H := hP
  have hD : va_D AA [(ad 18, .inr (6, [.ref (ad 19), .int (iI (0)), .int (iI (tp)), .int (iI (tq)), .ref (ad 20), .int (iI (tac))]))] := hD
  refine z_vret (()) hx hb hr hlocks dX6_clear_5 hP hD hS ?_
  exact trivial

set_option maxHeartbeats 600000 in
set_option maxRecDepth 100000 in
theorem c_X6_rewind (l : Launch) (D : va_G) (cI cZ cC : ClassId) (sz : Nat) (ad : Nat → Nat) (SG : Int → Int) (tl tp tq tac : Int) : zMv l yX6_rewind wsX6_rewind ({ frames := 0, cells := 0, slots := 0, locals := 0 }) D cI cZ cC [(ad 18, .inr (6, [.ref (ad 19), .int (iI (tl)), .int (iI (tp)), .int (iI (tq)), .ref (ad 20), .int (iI (tac))]))] sz [.ref (ad 18)] (0) (0) (fun (u : Unit) => [(ad 18, .inr (6, [.ref (ad 19), .int (iI (tl)), .int (iI (0)), .int (iI (tq)), .ref (ad 20), .int (iI (tac))]))]) (fun _ => True) := by
  refine z_ofMv (cc := cX6_rewind) (maxL := 1) (ret := none) RX6 (by decide +kernel) rfl rfl (Nat.le_of_ble_eq_true rfl) ?_
  intro p0 en0 s0 m0 args0 below0 meth0 c0 ls AA hx hb hr hlocks hnm hml hown hts hP hD hS hA hK hl
  have hl : lv_has ls 1 [(0, .ref (ad 18))] := hl
  obtain ⟨H, hH⟩ : ∃ H, H = s0.heap := ⟨_, rfl⟩
  obtain ⟨locs, hlo⟩ : ∃ locs : List Loc, locs = [] := ⟨_, rfl⟩
  have hP : va_P D vwCl [(ad 18, .inr (6, [.ref (ad 19), .int (iI (tl)), .int (iI (tp)), .int (iI (tq)), .ref (ad 20), .int (iI (tac))]))] H := by rw [hH]; exact hP
  have hS : va_S AA s0.heap H locs := by rw [hH, hlo]; exact hS
  suffices hW : W p0 l en0 (headSpec wsX6_rewind ({ frames := 0, cells := 0, slots := 0, locals := 0 })).room s0 m0 args0 below0 meth0 c0 H locs 0 0 (QMv below0 D ((fun (u : Unit) => [(ad 18, .inr (6, [.ref (ad 19), .int (iI (tl)), .int (iI (0)), .int (iI (tq)), .ref (ad 20), .int (iI (tac))]))])) (fun _ => True) AA args0 s0 (0) (0)) (F0 m0 0 ls []) by rw [hH, hlo] at hW; exact hW
  refine lv_aload_n hx hb dX6_rewind_0 rfl (lv_at hl 0 rfl) ?_
  refine lv_iconst (v := iI (0)) hx hb dX6_rewind_1 rfl ?_
  refine va_put (D := D) (ci := 6) (v := .int (iI (0))) (ty := .int) (C := RX6) (T := TX6) (N := 6) hx hb hts (fun _ h => List.mem_cons_of_mem _ (List.mem_append_right _ (h))) tyX6 tyX6_ok nmX6 hown hK.1 hP hD hS 0 rfl rfl 2 (by decide) (hts (.fieldLink RX6 19 "ForeignKeyStore$Text" "position" "I") (List.mem_of_getElem? (i := 1) rfl)) (fun _ h9 => h9) rfl (by decide +kernel) rfl rfl (Nat.le_of_ble_eq_true rfl) dX6_rewind_2 (fun H locs hP hD hS => ?_)
  have hP : va_P D vwCl [(ad 18, .inr (6, [.ref (ad 19), .int (iI (tl)), .int (iI (0)), .int (iI (tq)), .ref (ad 20), .int (iI (tac))]))] H := hP
  have hD : va_D AA [(ad 18, .inr (6, [.ref (ad 19), .int (iI (tl)), .int (iI (0)), .int (iI (tq)), .ref (ad 20), .int (iI (tac))]))] := hD
  refine z_vret (()) hx hb hr hlocks dX6_rewind_5 hP hD hS ?_
  exact trivial

set_option maxHeartbeats 600000 in
set_option maxRecDepth 100000 in
theorem c_X6_add (l : Launch) (D : va_G) (cI cZ cC : ClassId) (sz : Nat) (ad : Nat → Nat) (SG : Int → Int) (tl tp tq tac : Int) (x : Int) (g_tl : 0 ≤ tl ∧ tl < 80) (g_x : 0 ≤ x ∧ x < 128) : zMv l yX6_add wsX6_add ({ frames := 0, cells := 0, slots := 0, locals := 0 }) D cI cZ cC [(ad 18, .inr (6, [.ref (ad 19), .int (iI (tl)), .int (iI (tp)), .int (iI (tq)), .ref (ad 20), .int (iI (tac))])), (ad 19, .inl (cC, 80, .inl (iA (SG))))] sz [.ref (ad 18), .int (iI (x))] (0) (0) (fun (u : Unit) => [(ad 18, .inr (6, [.ref (ad 19), .int (iI (tl + 1)), .int (iI (tp)), .int (iI (tq)), .ref (ad 20), .int (iI (tac))])), (ad 19, .inl (cC, 80, .inl (iA (uI SG tl x))))]) (fun _ => True) := by
  refine z_ofMv (cc := cX6_add) (maxL := 2) (ret := none) RX6 (by decide +kernel) rfl rfl (Nat.le_of_ble_eq_true rfl) ?_
  intro p0 en0 s0 m0 args0 below0 meth0 c0 ls AA hx hb hr hlocks hnm hml hown hts hP hD hS hA hK hl
  have hl : lv_has ls 2 [(0, .ref (ad 18)), (1, .int (iI (x)))] := hl
  obtain ⟨H, hH⟩ : ∃ H, H = s0.heap := ⟨_, rfl⟩
  obtain ⟨locs, hlo⟩ : ∃ locs : List Loc, locs = [] := ⟨_, rfl⟩
  have hP : va_P D vwCl [(ad 18, .inr (6, [.ref (ad 19), .int (iI (tl)), .int (iI (tp)), .int (iI (tq)), .ref (ad 20), .int (iI (tac))])), (ad 19, .inl (cC, 80, .inl (iA (SG))))] H := by rw [hH]; exact hP
  have hS : va_S AA s0.heap H locs := by rw [hH, hlo]; exact hS
  suffices hW : W p0 l en0 (headSpec wsX6_add ({ frames := 0, cells := 0, slots := 0, locals := 0 })).room s0 m0 args0 below0 meth0 c0 H locs 0 0 (QMv below0 D ((fun (u : Unit) => [(ad 18, .inr (6, [.ref (ad 19), .int (iI (tl + 1)), .int (iI (tp)), .int (iI (tq)), .ref (ad 20), .int (iI (tac))])), (ad 19, .inl (cC, 80, .inl (iA (uI SG tl x))))])) (fun _ => True) AA args0 s0 (0) (0)) (F0 m0 0 ls []) by rw [hH, hlo] at hW; exact hW
  refine lv_aload_n hx hb dX6_add_0 rfl (lv_at hl 0 rfl) ?_
  refine va_get (D := D) (ci := 6) (v := .int (iI (tl))) (C := RX6) (T := TX6) (N := 6) hx hb hts (fun _ h => List.mem_cons_of_mem _ (List.mem_append_right _ (h))) hown hK.1 hP 0 rfl rfl 1 (by decide) (hts (.fieldLink RX6 15 "ForeignKeyStore$Text" "length" "I") (List.mem_of_getElem? (i := 1) rfl)) (fun _ h9 => h9) rfl dX6_add_1 ?_
  refine lv_bipush (v := iI (80)) hx hb dX6_add_4 (by decide) ?_
  refine z_icmp_ge (tgt := 29) hx hb dX6_add_6 (by decide) ⟨⟨by omega, by omega⟩, ⟨by omega, by omega⟩⟩ (fun c_1 => ?_) (fun c_1 => ?_)
  · exfalso
    omega
  · refine lv_aload_n hx hb dX6_add_9 rfl (lv_at hl 0 rfl) ?_
    refine va_get (D := D) (ci := 6) (v := .ref (ad 19)) (C := RX6) (T := TX6) (N := 6) hx hb hts (fun _ h => List.mem_cons_of_mem _ (List.mem_append_right _ (h))) hown hK.1 hP 0 rfl rfl 0 (by decide) (hts (.fieldLink RX6 9 "ForeignKeyStore$Text" "signs" "[C") (List.mem_of_getElem? (i := 2) rfl)) (fun _ h9 => h9) rfl dX6_add_10 ?_
    refine lv_aload_n hx hb dX6_add_13 rfl (lv_at hl 0 rfl) ?_
    refine va_get (D := D) (ci := 6) (v := .int (iI (tl))) (C := RX6) (T := TX6) (N := 6) hx hb hts (fun _ h => List.mem_cons_of_mem _ (List.mem_append_right _ (h))) hown hK.1 hP 0 rfl rfl 1 (by decide) (hts (.fieldLink RX6 15 "ForeignKeyStore$Text" "length" "I") (List.mem_of_getElem? (i := 1) rfl)) (fun _ h9 => h9) rfl dX6_add_14 ?_
    refine lv_iload_n hx hb dX6_add_17 rfl (lv_at hl 1 rfl) ?_
    refine z_cast hx hb hK.1 hP hD hS 1 2 rfl rfl (by omega) (by decide) (by omega) dX6_add_18 (fun H locs hP hD hS => ?_)
    have hP : va_P D vwCl [(ad 18, .inr (6, [.ref (ad 19), .int (iI (tl)), .int (iI (tp)), .int (iI (tq)), .ref (ad 20), .int (iI (tac))])), (ad 19, .inl (cC, 80, .inl (iA (uI (SG) (tl) (x)))))] H := hP
    have hD : va_D AA [(ad 18, .inr (6, [.ref (ad 19), .int (iI (tl)), .int (iI (tp)), .int (iI (tq)), .ref (ad 20), .int (iI (tac))])), (ad 19, .inl (cC, 80, .inl (iA (uI (SG) (tl) (x)))))] := hD
    refine lv_aload_n hx hb dX6_add_19 rfl (lv_at hl 0 rfl) ?_
    refine lv_dup hx hb dX6_add_20 rfl ?_
    refine va_get (D := D) (ci := 6) (v := .int (iI (tl))) (C := RX6) (T := TX6) (N := 6) hx hb hts (fun _ h => List.mem_cons_of_mem _ (List.mem_append_right _ (h))) hown hK.1 hP 0 rfl rfl 1 (by decide) (hts (.fieldLink RX6 15 "ForeignKeyStore$Text" "length" "I") (List.mem_of_getElem? (i := 1) rfl)) (fun _ h9 => h9) rfl dX6_add_21 ?_
    refine lv_iconst (v := iI (1)) hx hb dX6_add_24 rfl ?_
    refine z_iadd hx hb dX6_add_25 ?_
    refine va_put (D := D) (ci := 6) (v := .int (iI ((tl + 1)))) (ty := .int) (C := RX6) (T := TX6) (N := 6) hx hb hts (fun _ h => List.mem_cons_of_mem _ (List.mem_append_right _ (h))) tyX6 tyX6_ok nmX6 hown hK.1 hP hD hS 0 rfl rfl 1 (by decide) (hts (.fieldLink RX6 15 "ForeignKeyStore$Text" "length" "I") (List.mem_of_getElem? (i := 1) rfl)) (fun _ h9 => h9) rfl (by decide +kernel) rfl rfl (Nat.le_of_ble_eq_true rfl) dX6_add_26 (fun H locs hP hD hS => ?_)
    have hP : va_P D vwCl [(ad 18, .inr (6, [.ref (ad 19), .int (iI ((tl + 1))), .int (iI (tp)), .int (iI (tq)), .ref (ad 20), .int (iI (tac))])), (ad 19, .inl (cC, 80, .inl (iA (uI (SG) (tl) (x)))))] H := hP
    have hD : va_D AA [(ad 18, .inr (6, [.ref (ad 19), .int (iI ((tl + 1))), .int (iI (tp)), .int (iI (tq)), .ref (ad 20), .int (iI (tac))])), (ad 19, .inl (cC, 80, .inl (iA (uI (SG) (tl) (x)))))] := hD
    refine z_vret (()) hx hb hr hlocks dX6_add_29 hP hD hS ?_
    exact trivial

set_option maxHeartbeats 600000 in
set_option maxRecDepth 100000 in
theorem c_X6_signAt (l : Launch) (D : va_G) (cI cZ cC : ClassId) (ad : Nat → Nat) (SG : Int → Int) (tl tp tq tac : Int) (p : Int) (g_tl : 0 ≤ tl ∧ tl ≤ 80) (g_p : ib p) : zRo l yX6_signAt wsX6_signAt ({ frames := 0, cells := 0, slots := 0, locals := 0 }) D cI cZ cC [(ad 18, .inr (6, [.ref (ad 19), .int (iI (tl)), .int (iI (tp)), .int (iI (tq)), .ref (ad 20), .int (iI (tac))])), (ad 19, .inl (cC, 80, .inl (iA (SG))))] [.ref (ad 18), .int (iI (p))] (sgn SG tl p) := by
  refine z_ofRo (cc := cX6_signAt) (maxL := 2) (ret := (some .int)) RX6 (by decide +kernel) rfl rfl (Nat.le_of_ble_eq_true rfl) ?_
  intro p0 en0 s0 m0 args0 below0 meth0 c0 ls hx hb hr hlocks hml hown hts hP hK hl
  have hl : lv_has ls 2 [(0, .ref (ad 18)), (1, .int (iI (p)))] := hl
  refine lv_iload_n hx hb dX6_signAt_0 rfl (lv_at hl 1 rfl) ?_
  refine z_if_lt (tgt := 27) hx hb dX6_signAt_1 (by decide) ⟨by omega, by omega⟩ (fun c_1 => ?_) (fun c_1 => ?_)
  · refine lv_iconst (v := iI (-1)) hx hb dX6_signAt_27 rfl ?_
    refine z_rret hx hb hr hlocks dX6_signAt_28 ?_
    unfold sgn; split <;> omega
  · refine lv_iload_n hx hb dX6_signAt_4 rfl (lv_at hl 1 rfl) ?_
    refine lv_aload_n hx hb dX6_signAt_5 rfl (lv_at hl 0 rfl) ?_
    refine va_get (D := D) (ci := 6) (v := .int (iI (tl))) (C := RX6) (T := TX6) (N := 6) hx hb hts (fun _ h => List.mem_cons_of_mem _ (List.mem_append_right _ (h))) hown hK.1 hP 0 rfl rfl 1 (by decide) (hts (.fieldLink RX6 15 "ForeignKeyStore$Text" "length" "I") (List.mem_of_getElem? (i := 1) rfl)) (fun _ h9 => h9) rfl dX6_signAt_6 ?_
    refine z_icmp_ge (tgt := 27) hx hb dX6_signAt_9 (by decide) ⟨⟨by omega, by omega⟩, ⟨by omega, by omega⟩⟩ (fun c_2 => ?_) (fun c_2 => ?_)
    · refine lv_iconst (v := iI (-1)) hx hb dX6_signAt_27 rfl ?_
      refine z_rret hx hb hr hlocks dX6_signAt_28 ?_
      unfold sgn; split <;> omega
    · refine lv_iload_n hx hb dX6_signAt_12 rfl (lv_at hl 1 rfl) ?_
      refine lv_bipush (v := iI (80)) hx hb dX6_signAt_13 (by decide) ?_
      refine z_icmp_ge (tgt := 27) hx hb dX6_signAt_15 (by decide) ⟨⟨by omega, by omega⟩, ⟨by omega, by omega⟩⟩ (fun c_3 => ?_) (fun c_3 => ?_)
      · refine lv_iconst (v := iI (-1)) hx hb dX6_signAt_27 rfl ?_
        refine z_rret hx hb hr hlocks dX6_signAt_28 ?_
        unfold sgn; split <;> omega
      · refine lv_aload_n hx hb dX6_signAt_18 rfl (lv_at hl 0 rfl) ?_
        refine va_get (D := D) (ci := 6) (v := .ref (ad 19)) (C := RX6) (T := TX6) (N := 6) hx hb hts (fun _ h => List.mem_cons_of_mem _ (List.mem_append_right _ (h))) hown hK.1 hP 0 rfl rfl 0 (by decide) (hts (.fieldLink RX6 9 "ForeignKeyStore$Text" "signs" "[C") (List.mem_of_getElem? (i := 2) rfl)) (fun _ h9 => h9) rfl dX6_signAt_19 ?_
        refine lv_iload_n hx hb dX6_signAt_22 rfl (lv_at hl 1 rfl) ?_
        refine z_cald hx hb hK.1 hP 1 2 rfl rfl (by omega) (by decide) dX6_signAt_23 ?_
        refine lv_goto (tgt := 28) hx hb dX6_signAt_24 (by decide) ?_
        refine z_rret hx hb hr hlocks dX6_signAt_28 ?_
        unfold sgn; split <;> omega

set_option maxHeartbeats 600000 in
set_option maxRecDepth 100000 in
theorem c_X6_argument (l : Launch) (D : va_G) (cI cZ cC : ClassId) (ad : Nat → Nat) (SG : Int → Int) (tl tp tq tac : Int) (TA : Int → Int) (p : Int) (g_p : 0 ≤ p ∧ p < 4) (g_tac : 0 ≤ tac ∧ tac ≤ 4) : zRo l yX6_argument wsX6_argument ({ frames := 0, cells := 0, slots := 0, locals := 0 }) D cI cZ cC [(ad 18, .inr (6, [.ref (ad 19), .int (iI (tl)), .int (iI (tp)), .int (iI (tq)), .ref (ad 20), .int (iI (tac))])), (ad 20, .inl (cI, 4, .inl (iA (TA))))] [.ref (ad 18), .int (iI (p))] (arg TA tac p) := by
  refine z_ofRo (cc := cX6_argument) (maxL := 2) (ret := (some .int)) RX6 (by decide +kernel) rfl rfl (Nat.le_of_ble_eq_true rfl) ?_
  intro p0 en0 s0 m0 args0 below0 meth0 c0 ls hx hb hr hlocks hml hown hts hP hK hl
  have hl : lv_has ls 2 [(0, .ref (ad 18)), (1, .int (iI (p)))] := hl
  refine lv_iload_n hx hb dX6_argument_0 rfl (lv_at hl 1 rfl) ?_
  refine z_if_lt (tgt := 26) hx hb dX6_argument_1 (by decide) ⟨by omega, by omega⟩ (fun c_1 => ?_) (fun c_1 => ?_)
  · exfalso
    omega
  · refine lv_iload_n hx hb dX6_argument_4 rfl (lv_at hl 1 rfl) ?_
    refine lv_aload_n hx hb dX6_argument_5 rfl (lv_at hl 0 rfl) ?_
    refine va_get (D := D) (ci := 6) (v := .int (iI (tac))) (C := RX6) (T := TX6) (N := 6) hx hb hts (fun _ h => List.mem_cons_of_mem _ (List.mem_append_right _ (h))) hown hK.1 hP 0 rfl rfl 5 (by decide) (hts (.fieldLink RX6 29 "ForeignKeyStore$Text" "argumentCount" "I") (List.mem_of_getElem? (i := 1) rfl)) (fun _ h9 => h9) rfl dX6_argument_6 ?_
    refine z_icmp_ge (tgt := 26) hx hb dX6_argument_9 (by decide) ⟨⟨by omega, by omega⟩, ⟨by omega, by omega⟩⟩ (fun c_2 => ?_) (fun c_2 => ?_)
    · refine lv_iconst (v := iI (0)) hx hb dX6_argument_26 rfl ?_
      refine z_rret hx hb hr hlocks dX6_argument_27 ?_
      unfold arg
      first | rw [if_pos ⟨by omega, by omega⟩] | rw [if_neg (by omega)]
    · refine lv_iload_n hx hb dX6_argument_12 rfl (lv_at hl 1 rfl) ?_
      refine lv_iconst (v := iI (4)) hx hb dX6_argument_13 rfl ?_
      refine z_icmp_ge (tgt := 26) hx hb dX6_argument_14 (by decide) ⟨⟨by omega, by omega⟩, ⟨by omega, by omega⟩⟩ (fun c_3 => ?_) (fun c_3 => ?_)
      · exfalso
        omega
      · refine lv_aload_n hx hb dX6_argument_17 rfl (lv_at hl 0 rfl) ?_
        refine va_get (D := D) (ci := 6) (v := .ref (ad 20)) (C := RX6) (T := TX6) (N := 6) hx hb hts (fun _ h => List.mem_cons_of_mem _ (List.mem_append_right _ (h))) hown hK.1 hP 0 rfl rfl 4 (by decide) (hts (.fieldLink RX6 25 "ForeignKeyStore$Text" "arguments" "[I") (List.mem_of_getElem? (i := 2) rfl)) (fun _ h9 => h9) rfl dX6_argument_18 ?_
        refine lv_iload_n hx hb dX6_argument_21 rfl (lv_at hl 1 rfl) ?_
        refine z_iald hx hb hK.1 hP 1 0 rfl rfl (by omega) (by decide) dX6_argument_22 ?_
        refine lv_goto (tgt := 27) hx hb dX6_argument_23 (by decide) ?_
        refine z_rret hx hb hr hlocks dX6_argument_27 ?_
        unfold arg
        first | rw [if_pos ⟨by omega, by omega⟩] | rw [if_neg (by omega)]

set_option maxHeartbeats 600000 in
set_option maxRecDepth 100000 in
theorem c_X6_readDigit (l : Launch) (D : va_G) (cI cZ cC : ClassId) (sz : Nat) (ad : Nat → Nat) (SG : Int → Int) (tl tp tq tac : Int) (h : Int) (g_SG : ∀ j : Int, 0 ≤ j → j < 80 → 0 ≤ SG j ∧ SG j < 128) (g_tl : 0 ≤ tl ∧ tl ≤ 80) (g_tp : 0 ≤ tp ∧ tp ≤ tl) (g_h : 0 ≤ h ∧ h < 10) : zMi l yX6_readDigit wsX6_readDigit ({ frames := 1, cells := 0, slots := 0, locals := 21 }) D cI cZ cC [(ad 18, .inr (6, [.ref (ad 19), .int (iI (tl)), .int (iI (tp)), .int (iI (tq)), .ref (ad 20), .int (iI (tac))])), (ad 19, .inl (cC, 80, .inl (iA (SG))))] sz [.ref (ad 18), .int (iI (h))] (0) (0) (fun (u : Int) => [(ad 18, .inr (6, [.ref (ad 19), .int (iI (tl)), .int (iI (u)), .int (iI (tq)), .ref (ad 20), .int (iI (tac))])), (ad 19, .inl (cC, 80, .inl (iA (SG))))]) (fun v (u : Int) => (v, u) = rD SG tl h tp) := by
  refine z_ofMi (cc := cX6_readDigit) (maxL := 3) (ret := (some .int)) RX6 (by decide +kernel) rfl rfl (Nat.le_of_ble_eq_true rfl) ?_
  intro p0 en0 s0 m0 args0 below0 meth0 c0 ls AA hx hb hr hlocks hml hown hts hP hD hS hA hK hl
  have hl : lv_has ls 3 [(0, .ref (ad 18)), (1, .int (iI (h)))] := hl
  obtain ⟨H, hH⟩ : ∃ H, H = s0.heap := ⟨_, rfl⟩
  obtain ⟨locs, hlo⟩ : ∃ locs : List Loc, locs = [] := ⟨_, rfl⟩
  have hP : va_P D vwCl [(ad 18, .inr (6, [.ref (ad 19), .int (iI (tl)), .int (iI (tp)), .int (iI (tq)), .ref (ad 20), .int (iI (tac))])), (ad 19, .inl (cC, 80, .inl (iA (SG))))] H := by rw [hH]; exact hP
  have hS : va_S AA s0.heap H locs := by rw [hH, hlo]; exact hS
  suffices hW : W p0 l en0 (headSpec wsX6_readDigit ({ frames := 1, cells := 0, slots := 0, locals := 21 })).room s0 m0 args0 below0 meth0 c0 H locs 0 0 (QMi below0 D ((fun (u : Int) => [(ad 18, .inr (6, [.ref (ad 19), .int (iI (tl)), .int (iI (u)), .int (iI (tq)), .ref (ad 20), .int (iI (tac))])), (ad 19, .inl (cC, 80, .inl (iA (SG))))])) (fun v (u : Int) => (v, u) = rD SG tl h tp) AA args0 s0 (0) (0)) (F0 m0 0 ls []) by rw [hH, hlo] at hW; exact hW
  refine lv_aload_n hx hb dX6_readDigit_0 rfl (lv_at hl 0 rfl) ?_
  refine lv_aload_n hx hb dX6_readDigit_1 rfl (lv_at hl 0 rfl) ?_
  refine va_get (D := D) (ci := 6) (v := .int (iI (tp))) (C := RX6) (T := TX6) (N := 6) hx hb hts (fun _ h => List.mem_cons_of_mem _ (List.mem_append_right _ (h))) hown hK.1 hP 0 rfl rfl 2 (by decide) (hts (.fieldLink RX6 19 "ForeignKeyStore$Text" "position" "I") (List.mem_of_getElem? (i := 1) rfl)) (fun _ h9 => h9) rfl dX6_readDigit_2 ?_
  refine z_roV (As := [.int (iI (tp))]) (rest := []) ⟨hx, hb, hml, hown, hts⟩ (c_X6_signAt l D cI cZ cC (ad) (SG) (tl) (tp) (tq) (tac) (tp) (by first | assumption | omega) (by first | assumption | omega)) (cwV 1 hts gX6_readDigit_X6_signAt rfl rfl rfl (by decide +kernel) ⟨Nat.le_of_ble_eq_true rfl, Nat.le_of_ble_eq_true rfl⟩) hP hK [0, 1] rfl 0 6 rfl rfl rfl rfl hl.1 rfl (Nat.le_of_ble_eq_true rfl) dX6_readDigit_5 ⟨by omega, by omega⟩ ?_
  have hf_1 := sgn_b g_SG tl (tp)
  refine lv_bipush (v := iI (48)) hx hb dX6_readDigit_8 (by decide) ?_
  refine z_isub hx hb dX6_readDigit_10 ?_
  refine lv_istore_n (lv' := [(2, .int (iI (((sgn SG tl tp) - 48)))), (0, .ref (ad 18)), (1, .int (iI (h)))]) hx hb dX6_readDigit_11 rfl hl (by decide) rfl (fun ls hl => ?_)
  refine lv_iload_n hx hb dX6_readDigit_12 rfl (lv_at hl 0 rfl) ?_
  refine z_if_lt (tgt := 21) hx hb dX6_readDigit_13 (by decide) ⟨by omega, by omega⟩ (fun c_2 => ?_) (fun c_2 => ?_)
  · refine lv_bipush (v := iI (-2)) hx hb dX6_readDigit_21 (by decide) ?_
    refine z_mret (tp) hx hb hr hlocks dX6_readDigit_23 hP hD hS ?_
    unfold rD; rw [if_neg (by omega)]
  · refine lv_iload_n hx hb dX6_readDigit_16 rfl (lv_at hl 0 rfl) ?_
    refine lv_iload_n hx hb dX6_readDigit_17 rfl (lv_at hl 2 rfl) ?_
    refine z_icmp_le (tgt := 24) hx hb dX6_readDigit_18 (by decide) ⟨⟨by omega, by omega⟩, ⟨by omega, by omega⟩⟩ (fun c_3 => ?_) (fun c_3 => ?_)
    · refine lv_aload_n hx hb dX6_readDigit_24 rfl (lv_at hl 1 rfl) ?_
      refine lv_dup hx hb dX6_readDigit_25 rfl ?_
      refine va_get (D := D) (ci := 6) (v := .int (iI (tp))) (C := RX6) (T := TX6) (N := 6) hx hb hts (fun _ h => List.mem_cons_of_mem _ (List.mem_append_right _ (h))) hown hK.1 hP 0 rfl rfl 2 (by decide) (hts (.fieldLink RX6 19 "ForeignKeyStore$Text" "position" "I") (List.mem_of_getElem? (i := 1) rfl)) (fun _ h9 => h9) rfl dX6_readDigit_26 ?_
      refine lv_iconst (v := iI (1)) hx hb dX6_readDigit_29 rfl ?_
      refine z_iadd hx hb dX6_readDigit_30 ?_
      refine va_put (D := D) (ci := 6) (v := .int (iI ((tp + 1)))) (ty := .int) (C := RX6) (T := TX6) (N := 6) hx hb hts (fun _ h => List.mem_cons_of_mem _ (List.mem_append_right _ (h))) tyX6 tyX6_ok nmX6 hown hK.1 hP hD hS 0 rfl rfl 2 (by decide) (hts (.fieldLink RX6 19 "ForeignKeyStore$Text" "position" "I") (List.mem_of_getElem? (i := 1) rfl)) (fun _ h9 => h9) rfl (by decide +kernel) rfl rfl (Nat.le_of_ble_eq_true rfl) dX6_readDigit_31 (fun H locs hP hD hS => ?_)
      have hP : va_P D vwCl [(ad 18, .inr (6, [.ref (ad 19), .int (iI (tl)), .int (iI ((tp + 1))), .int (iI (tq)), .ref (ad 20), .int (iI (tac))])), (ad 19, .inl (cC, 80, .inl (iA (SG))))] H := hP
      have hD : va_D AA [(ad 18, .inr (6, [.ref (ad 19), .int (iI (tl)), .int (iI ((tp + 1))), .int (iI (tq)), .ref (ad 20), .int (iI (tac))])), (ad 19, .inl (cC, 80, .inl (iA (SG))))] := hD
      refine lv_iload_n hx hb dX6_readDigit_34 rfl (lv_at hl 0 rfl) ?_
      refine z_mret ((tp + 1)) hx hb hr hlocks dX6_readDigit_35 hP hD hS ?_
      unfold rD; rw [if_pos ⟨by omega, by omega⟩]
    · refine lv_bipush (v := iI (-2)) hx hb dX6_readDigit_21 (by decide) ?_
      refine z_mret (tp) hx hb hr hlocks dX6_readDigit_23 hP hD hS ?_
      unfold rD; rw [if_neg (by omega)]

set_option maxHeartbeats 600000 in
set_option maxRecDepth 100000 in
theorem c_X6_readSign (l : Launch) (D : va_G) (cI cZ cC : ClassId) (sz : Nat) (ad : Nat → Nat) (SG : Int → Int) (tl tp tq tac : Int) (c : Int) (g_SG : ∀ j : Int, 0 ≤ j → j < 80 → 0 ≤ SG j ∧ SG j < 128) (g_tl : 0 ≤ tl ∧ tl ≤ 80) (g_tp : 0 ≤ tp ∧ tp ≤ tl) (g_c : 0 ≤ c ∧ c < 128) : zMi l yX6_readSign wsX6_readSign ({ frames := 1, cells := 0, slots := 0, locals := 21 }) D cI cZ cC [(ad 18, .inr (6, [.ref (ad 19), .int (iI (tl)), .int (iI (tp)), .int (iI (tq)), .ref (ad 20), .int (iI (tac))])), (ad 19, .inl (cC, 80, .inl (iA (SG))))] sz [.ref (ad 18), .int (iI (c))] (0) (0) (fun (u : Int) => [(ad 18, .inr (6, [.ref (ad 19), .int (iI (tl)), .int (iI (u)), .int (iI (tq)), .ref (ad 20), .int (iI (tac))])), (ad 19, .inl (cC, 80, .inl (iA (SG))))]) (fun v (u : Int) => (v, u) = rS SG tl c tp) := by
  refine z_ofMi (cc := cX6_readSign) (maxL := 2) (ret := (some .boolean)) RX6 (by decide +kernel) rfl rfl (Nat.le_of_ble_eq_true rfl) ?_
  intro p0 en0 s0 m0 args0 below0 meth0 c0 ls AA hx hb hr hlocks hml hown hts hP hD hS hA hK hl
  have hl : lv_has ls 2 [(0, .ref (ad 18)), (1, .int (iI (c)))] := hl
  obtain ⟨H, hH⟩ : ∃ H, H = s0.heap := ⟨_, rfl⟩
  obtain ⟨locs, hlo⟩ : ∃ locs : List Loc, locs = [] := ⟨_, rfl⟩
  have hP : va_P D vwCl [(ad 18, .inr (6, [.ref (ad 19), .int (iI (tl)), .int (iI (tp)), .int (iI (tq)), .ref (ad 20), .int (iI (tac))])), (ad 19, .inl (cC, 80, .inl (iA (SG))))] H := by rw [hH]; exact hP
  have hS : va_S AA s0.heap H locs := by rw [hH, hlo]; exact hS
  suffices hW : W p0 l en0 (headSpec wsX6_readSign ({ frames := 1, cells := 0, slots := 0, locals := 21 })).room s0 m0 args0 below0 meth0 c0 H locs 0 0 (QMi below0 D ((fun (u : Int) => [(ad 18, .inr (6, [.ref (ad 19), .int (iI (tl)), .int (iI (u)), .int (iI (tq)), .ref (ad 20), .int (iI (tac))])), (ad 19, .inl (cC, 80, .inl (iA (SG))))])) (fun v (u : Int) => (v, u) = rS SG tl c tp) AA args0 s0 (0) (0)) (F0 m0 0 ls []) by rw [hH, hlo] at hW; exact hW
  refine lv_aload_n hx hb dX6_readSign_0 rfl (lv_at hl 0 rfl) ?_
  refine lv_aload_n hx hb dX6_readSign_1 rfl (lv_at hl 0 rfl) ?_
  refine va_get (D := D) (ci := 6) (v := .int (iI (tp))) (C := RX6) (T := TX6) (N := 6) hx hb hts (fun _ h => List.mem_cons_of_mem _ (List.mem_append_right _ (h))) hown hK.1 hP 0 rfl rfl 2 (by decide) (hts (.fieldLink RX6 19 "ForeignKeyStore$Text" "position" "I") (List.mem_of_getElem? (i := 1) rfl)) (fun _ h9 => h9) rfl dX6_readSign_2 ?_
  refine z_roV (As := [.int (iI (tp))]) (rest := []) ⟨hx, hb, hml, hown, hts⟩ (c_X6_signAt l D cI cZ cC (ad) (SG) (tl) (tp) (tq) (tac) (tp) (by first | assumption | omega) (by first | assumption | omega)) (cwV 1 hts gX6_readSign_X6_signAt rfl rfl rfl (by decide +kernel) ⟨Nat.le_of_ble_eq_true rfl, Nat.le_of_ble_eq_true rfl⟩) hP hK [0, 1] rfl 0 6 rfl rfl rfl rfl hl.1 rfl (Nat.le_of_ble_eq_true rfl) dX6_readSign_5 ⟨by omega, by omega⟩ ?_
  have hf_1 := sgn_b g_SG tl (tp)
  refine lv_iload_n hx hb dX6_readSign_8 rfl (lv_at hl 1 rfl) ?_
  refine z_icmp_eq (tgt := 14) hx hb dX6_readSign_9 (by decide) ⟨⟨by omega, by omega⟩, ⟨by omega, by omega⟩⟩ (fun c_2 => ?_) (fun c_2 => ?_)
  · refine lv_aload_n hx hb dX6_readSign_14 rfl (lv_at hl 0 rfl) ?_
    refine lv_dup hx hb dX6_readSign_15 rfl ?_
    refine va_get (D := D) (ci := 6) (v := .int (iI (tp))) (C := RX6) (T := TX6) (N := 6) hx hb hts (fun _ h => List.mem_cons_of_mem _ (List.mem_append_right _ (h))) hown hK.1 hP 0 rfl rfl 2 (by decide) (hts (.fieldLink RX6 19 "ForeignKeyStore$Text" "position" "I") (List.mem_of_getElem? (i := 1) rfl)) (fun _ h9 => h9) rfl dX6_readSign_16 ?_
    refine lv_iconst (v := iI (1)) hx hb dX6_readSign_19 rfl ?_
    refine z_iadd hx hb dX6_readSign_20 ?_
    refine va_put (D := D) (ci := 6) (v := .int (iI ((tp + 1)))) (ty := .int) (C := RX6) (T := TX6) (N := 6) hx hb hts (fun _ h => List.mem_cons_of_mem _ (List.mem_append_right _ (h))) tyX6 tyX6_ok nmX6 hown hK.1 hP hD hS 0 rfl rfl 2 (by decide) (hts (.fieldLink RX6 19 "ForeignKeyStore$Text" "position" "I") (List.mem_of_getElem? (i := 1) rfl)) (fun _ h9 => h9) rfl (by decide +kernel) rfl rfl (Nat.le_of_ble_eq_true rfl) dX6_readSign_21 (fun H locs hP hD hS => ?_)
    have hP : va_P D vwCl [(ad 18, .inr (6, [.ref (ad 19), .int (iI (tl)), .int (iI ((tp + 1))), .int (iI (tq)), .ref (ad 20), .int (iI (tac))])), (ad 19, .inl (cC, 80, .inl (iA (SG))))] H := hP
    have hD : va_D AA [(ad 18, .inr (6, [.ref (ad 19), .int (iI (tl)), .int (iI ((tp + 1))), .int (iI (tq)), .ref (ad 20), .int (iI (tac))])), (ad 19, .inl (cC, 80, .inl (iA (SG))))] := hD
    refine lv_iconst (v := iI (1)) hx hb dX6_readSign_24 rfl ?_
    refine z_mretZ ((tp + 1)) hx hb hr hlocks dX6_readSign_25 (by omega) hP hD hS ?_
    unfold rS; rw [if_pos (by omega)]
  · refine lv_iconst (v := iI (0)) hx hb dX6_readSign_12 rfl ?_
    refine z_mretZ (tp) hx hb hr hlocks dX6_readSign_13 (by omega) hP hD hS ?_
    unfold rS; rw [if_neg (by omega)]

set_option maxHeartbeats 600000 in
set_option maxRecDepth 100000 in
theorem c_X6_readKey (l : Launch) (D : va_G) (cI cZ cC : ClassId) (sz : Nat) (ad : Nat → Nat) (SG : Int → Int) (tl tp tq tac : Int) (g_SG : ∀ j : Int, 0 ≤ j → j < 80 → 0 ≤ SG j ∧ SG j < 128) (g_tl : 0 ≤ tl ∧ tl ≤ 80) (g_tp : 0 ≤ tp ∧ tp ≤ tl) : zMi l yX6_readKey wsX6_readKey ({ frames := 2, cells := 0, slots := 0, locals := 43 }) D cI cZ cC [(ad 18, .inr (6, [.ref (ad 19), .int (iI (tl)), .int (iI (tp)), .int (iI (tq)), .ref (ad 20), .int (iI (tac))])), (ad 19, .inl (cC, 80, .inl (iA (SG))))] sz [.ref (ad 18)] (0) (0) (fun (u : Int) => [(ad 18, .inr (6, [.ref (ad 19), .int (iI (tl)), .int (iI (u)), .int (iI (tq)), .ref (ad 20), .int (iI (tac))])), (ad 19, .inl (cC, 80, .inl (iA (SG))))]) (fun v (u : Int) => (v, u) = rK SG tl tp) := by
  refine z_ofMi (cc := cX6_readKey) (maxL := 3) (ret := (some .int)) RX6 (by decide +kernel) rfl rfl (Nat.le_of_ble_eq_true rfl) ?_
  intro p0 en0 s0 m0 args0 below0 meth0 c0 ls AA hx hb hr hlocks hml hown hts hP hD hS hA hK hl
  have hl : lv_has ls 3 [(0, .ref (ad 18))] := hl
  obtain ⟨H, hH⟩ : ∃ H, H = s0.heap := ⟨_, rfl⟩
  obtain ⟨locs, hlo⟩ : ∃ locs : List Loc, locs = [] := ⟨_, rfl⟩
  have hP : va_P D vwCl [(ad 18, .inr (6, [.ref (ad 19), .int (iI (tl)), .int (iI (tp)), .int (iI (tq)), .ref (ad 20), .int (iI (tac))])), (ad 19, .inl (cC, 80, .inl (iA (SG))))] H := by rw [hH]; exact hP
  have hS : va_S AA s0.heap H locs := by rw [hH, hlo]; exact hS
  suffices hW : W p0 l en0 (headSpec wsX6_readKey ({ frames := 2, cells := 0, slots := 0, locals := 43 })).room s0 m0 args0 below0 meth0 c0 H locs 0 0 (QMi below0 D ((fun (u : Int) => [(ad 18, .inr (6, [.ref (ad 19), .int (iI (tl)), .int (iI (u)), .int (iI (tq)), .ref (ad 20), .int (iI (tac))])), (ad 19, .inl (cC, 80, .inl (iA (SG))))])) (fun v (u : Int) => (v, u) = rK SG tl tp) AA args0 s0 (0) (0)) (F0 m0 0 ls []) by rw [hH, hlo] at hW; exact hW
  have g_d1 := rD_b g_SG 9 tp g_tp.2
  have g_d2 := rD_b g_SG 9 (rD SG tl 9 tp).2 g_d1.2.2
  refine lv_aload_n hx hb dX6_readKey_0 rfl (lv_at hl 0 rfl) ?_
  refine lv_bipush (v := iI (9)) hx hb dX6_readKey_1 (by decide) ?_
  refine z_muV (As := [.int (iI (9))]) (rest := []) (wr := []) (ws2 := (fun (u : Int) => [(ad 18, .inr (6, [.ref (ad 19), .int (iI (tl)), .int (iI (u)), .int (iI (tq)), .ref (ad 20), .int (iI (tac))])), (ad 19, .inl (cC, 80, .inl (iA (SG))))])) ⟨hx, hb, hml, hown, hts⟩ (c_X6_readDigit l D cI cZ cC H.size (ad) (SG) (tl) (tp) (tq) (tac) (9) (by first | assumption | omega) (by first | assumption | omega) (by first | assumption | omega) (by first | assumption | omega)) (cwV 1 hts gX6_readKey_X6_readDigit rfl rfl rfl (by decide +kernel) ⟨Nat.le_of_ble_eq_true rfl, Nat.le_of_ble_eq_true rfl⟩) hP hD hS hA hK [0, 1] [] [0, 1] rfl (by decide) rfl (by decide) (by decide) (by decide) (fun _ => rfl) 0 6 rfl rfl rfl rfl hl.1 rfl (Nat.le_of_ble_eq_true rfl) dX6_readKey_3 ⟨by omega, by omega⟩ (fun r_2 u H locs hq_1 hP hD hS => ?_)
  obtain ⟨tp_3, rfl⟩ : ∃ z, z = u := ⟨_, rfl⟩
  have hP : va_P D vwCl [(ad 18, .inr (6, [.ref (ad 19), .int (iI (tl)), .int (iI (tp_3)), .int (iI (tq)), .ref (ad 20), .int (iI (tac))])), (ad 19, .inl (cC, 80, .inl (iA (SG))))] H := hP
  have hD : va_D AA [(ad 18, .inr (6, [.ref (ad 19), .int (iI (tl)), .int (iI (tp_3)), .int (iI (tq)), .ref (ad 20), .int (iI (tac))])), (ad 19, .inl (cC, 80, .inl (iA (SG))))] := hD
  try dsimp only at hq_1
  have h_1 := congrArg Prod.fst hq_1
  have h_2 := congrArg Prod.snd hq_1
  dsimp only at h_1 h_2
  rw [← h_1, ← h_2] at g_d1
  rw [← h_2] at g_d2
  refine lv_istore_n (lv' := [(1, .int (iI (r_2))), (0, .ref (ad 18))]) hx hb dX6_readKey_6 rfl hl (by decide) rfl (fun ls hl => ?_)
  refine lv_iload_n hx hb dX6_readKey_7 rfl (lv_at hl 0 rfl) ?_
  refine lv_iconst (v := iI (1)) hx hb dX6_readKey_8 rfl ?_
  refine z_icmp_eq (tgt := 14) hx hb dX6_readKey_9 (by decide) ⟨⟨by omega, by omega⟩, ⟨by omega, by omega⟩⟩ (fun c_4 => ?_) (fun c_4 => ?_)
  · refine lv_aload_n hx hb dX6_readKey_14 rfl (lv_at hl 1 rfl) ?_
    refine lv_bipush (v := iI (9)) hx hb dX6_readKey_15 (by decide) ?_
    refine z_muV (As := [.int (iI (9))]) (rest := []) (wr := []) (ws2 := (fun (u : Int) => [(ad 18, .inr (6, [.ref (ad 19), .int (iI (tl)), .int (iI (u)), .int (iI (tq)), .ref (ad 20), .int (iI (tac))])), (ad 19, .inl (cC, 80, .inl (iA (SG))))])) ⟨hx, hb, hml, hown, hts⟩ (c_X6_readDigit l D cI cZ cC H.size (ad) (SG) (tl) (tp_3) (tq) (tac) (9) (by first | assumption | omega) (by first | assumption | omega) (by first | assumption | omega) (by first | assumption | omega)) (cwV 1 hts gX6_readKey_X6_readDigit rfl rfl rfl (by decide +kernel) ⟨Nat.le_of_ble_eq_true rfl, Nat.le_of_ble_eq_true rfl⟩) hP hD hS hA hK [0, 1] [] [0, 1] rfl (by decide) rfl (by decide) (by decide) (by decide) (fun _ => rfl) 0 6 rfl rfl rfl rfl hl.1 rfl (Nat.le_of_ble_eq_true rfl) dX6_readKey_17 ⟨by omega, by omega⟩ (fun r_6 u H locs hq_5 hP hD hS => ?_)
    obtain ⟨tp_7, rfl⟩ : ∃ z, z = u := ⟨_, rfl⟩
    have hP : va_P D vwCl [(ad 18, .inr (6, [.ref (ad 19), .int (iI (tl)), .int (iI (tp_7)), .int (iI (tq)), .ref (ad 20), .int (iI (tac))])), (ad 19, .inl (cC, 80, .inl (iA (SG))))] H := hP
    have hD : va_D AA [(ad 18, .inr (6, [.ref (ad 19), .int (iI (tl)), .int (iI (tp_7)), .int (iI (tq)), .ref (ad 20), .int (iI (tac))])), (ad 19, .inl (cC, 80, .inl (iA (SG))))] := hD
    try dsimp only at hq_5
    have h_3 := congrArg Prod.fst hq_5
    have h_4 := congrArg Prod.snd hq_5
    dsimp only at h_3 h_4
    rw [← h_3, ← h_4] at g_d2
    refine lv_istore_n (lv' := [(2, .int (iI (r_6))), (1, .int (iI (r_2))), (0, .ref (ad 18))]) hx hb dX6_readKey_20 rfl hl (by decide) rfl (fun ls hl => ?_)
    refine lv_iload_n hx hb dX6_readKey_21 rfl (lv_at hl 0 rfl) ?_
    refine lv_bipush (v := iI (-2)) hx hb dX6_readKey_22 (by decide) ?_
    refine z_icmp_ne (tgt := 31) hx hb dX6_readKey_24 (by decide) ⟨⟨by omega, by omega⟩, ⟨by omega, by omega⟩⟩ (fun c_8 => ?_) (fun c_8 => ?_)
    · refine lv_bipush (v := iI (10)) hx hb dX6_readKey_31 (by decide) ?_
      refine lv_iload_n hx hb dX6_readKey_33 rfl (lv_at hl 0 rfl) ?_
      refine z_iadd hx hb dX6_readKey_34 ?_
      refine z_mret (tp_7) hx hb hr hlocks dX6_readKey_35 hP hD hS ?_
      unfold rK; rw [if_pos (by omega), ← h_2, ← h_3, ← h_4, if_neg (by omega)]
    · refine lv_iconst (v := iI (1)) hx hb dX6_readKey_27 rfl ?_
      refine lv_goto (tgt := 35) hx hb dX6_readKey_28 (by decide) ?_
      refine z_mret (tp_7) hx hb hr hlocks dX6_readKey_35 hP hD hS ?_
      unfold rK; rw [if_pos (by omega), ← h_2, ← h_3, ← h_4, if_pos (by omega)]
  · refine lv_iload_n hx hb dX6_readKey_12 rfl (lv_at hl 0 rfl) ?_
    refine z_mret (tp_3) hx hb hr hlocks dX6_readKey_13 hP hD hS ?_
    unfold rK; rw [if_neg (by omega)]; exact Prod.ext h_1 h_2

set_option maxHeartbeats 600000 in
set_option maxRecDepth 100000 in
theorem c_X6_keep (l : Launch) (D : va_G) (cI cZ cC : ClassId) (sz : Nat) (ad : Nat → Nat) (SG : Int → Int) (tl tp tq tac : Int) (TA : Int → Int) (a : Int) (g_tac : 0 ≤ tac ∧ tac ≤ 4) (g_a : ib a) : zMi l yX6_keep wsX6_keep ({ frames := 0, cells := 0, slots := 0, locals := 0 }) D cI cZ cC [(ad 18, .inr (6, [.ref (ad 19), .int (iI (tl)), .int (iI (tp)), .int (iI (tq)), .ref (ad 20), .int (iI (tac))])), (ad 20, .inl (cI, 4, .inl (iA (TA))))] sz [.ref (ad 18), .int (iI (a))] (0) (0) (fun (u : (Int → Int) × Int) => [(ad 18, .inr (6, [.ref (ad 19), .int (iI (tl)), .int (iI (tp)), .int (iI (tq)), .ref (ad 20), .int (iI (u.2))])), (ad 20, .inl (cI, 4, .inl (iA (u.1))))]) (fun v (u : (Int → Int) × Int) => (v, (tp, u.1, u.2)) = kpA a tp TA tac) := by
  refine z_ofMi (cc := cX6_keep) (maxL := 2) (ret := (some .boolean)) RX6 (by decide +kernel) rfl rfl (Nat.le_of_ble_eq_true rfl) ?_
  intro p0 en0 s0 m0 args0 below0 meth0 c0 ls AA hx hb hr hlocks hml hown hts hP hD hS hA hK hl
  have hl : lv_has ls 2 [(0, .ref (ad 18)), (1, .int (iI (a)))] := hl
  obtain ⟨H, hH⟩ : ∃ H, H = s0.heap := ⟨_, rfl⟩
  obtain ⟨locs, hlo⟩ : ∃ locs : List Loc, locs = [] := ⟨_, rfl⟩
  have hP : va_P D vwCl [(ad 18, .inr (6, [.ref (ad 19), .int (iI (tl)), .int (iI (tp)), .int (iI (tq)), .ref (ad 20), .int (iI (tac))])), (ad 20, .inl (cI, 4, .inl (iA (TA))))] H := by rw [hH]; exact hP
  have hS : va_S AA s0.heap H locs := by rw [hH, hlo]; exact hS
  suffices hW : W p0 l en0 (headSpec wsX6_keep ({ frames := 0, cells := 0, slots := 0, locals := 0 })).room s0 m0 args0 below0 meth0 c0 H locs 0 0 (QMi below0 D ((fun (u : (Int → Int) × Int) => [(ad 18, .inr (6, [.ref (ad 19), .int (iI (tl)), .int (iI (tp)), .int (iI (tq)), .ref (ad 20), .int (iI (u.2))])), (ad 20, .inl (cI, 4, .inl (iA (u.1))))])) (fun v (u : (Int → Int) × Int) => (v, (tp, u.1, u.2)) = kpA a tp TA tac) AA args0 s0 (0) (0)) (F0 m0 0 ls []) by rw [hH, hlo] at hW; exact hW
  refine lv_iload_n hx hb dX6_keep_0 rfl (lv_at hl 1 rfl) ?_
  refine lv_bipush (v := iI (-2)) hx hb dX6_keep_1 (by decide) ?_
  refine z_icmp_eq (tgt := 14) hx hb dX6_keep_3 (by decide) ⟨⟨by omega, by omega⟩, ⟨by omega, by omega⟩⟩ (fun c_1 => ?_) (fun c_1 => ?_)
  · refine lv_iconst (v := iI (0)) hx hb dX6_keep_14 rfl ?_
    refine z_mretZ ((TA, tac)) hx hb hr hlocks dX6_keep_15 (by omega) hP hD hS ?_
    unfold kpA; rw [if_pos (by omega)]
  · refine lv_aload_n hx hb dX6_keep_6 rfl (lv_at hl 0 rfl) ?_
    refine va_get (D := D) (ci := 6) (v := .int (iI (tac))) (C := RX6) (T := TX6) (N := 6) hx hb hts (fun _ h => List.mem_cons_of_mem _ (List.mem_append_right _ (h))) hown hK.1 hP 0 rfl rfl 5 (by decide) (hts (.fieldLink RX6 29 "ForeignKeyStore$Text" "argumentCount" "I") (List.mem_of_getElem? (i := 1) rfl)) (fun _ h9 => h9) rfl dX6_keep_7 ?_
    refine lv_iconst (v := iI (4)) hx hb dX6_keep_10 rfl ?_
    refine z_icmp_lt (tgt := 16) hx hb dX6_keep_11 (by decide) ⟨⟨by omega, by omega⟩, ⟨by omega, by omega⟩⟩ (fun c_2 => ?_) (fun c_2 => ?_)
    · refine lv_aload_n hx hb dX6_keep_16 rfl (lv_at hl 0 rfl) ?_
      refine va_get (D := D) (ci := 6) (v := .ref (ad 20)) (C := RX6) (T := TX6) (N := 6) hx hb hts (fun _ h => List.mem_cons_of_mem _ (List.mem_append_right _ (h))) hown hK.1 hP 0 rfl rfl 4 (by decide) (hts (.fieldLink RX6 25 "ForeignKeyStore$Text" "arguments" "[I") (List.mem_of_getElem? (i := 2) rfl)) (fun _ h9 => h9) rfl dX6_keep_17 ?_
      refine lv_aload_n hx hb dX6_keep_20 rfl (lv_at hl 0 rfl) ?_
      refine va_get (D := D) (ci := 6) (v := .int (iI (tac))) (C := RX6) (T := TX6) (N := 6) hx hb hts (fun _ h => List.mem_cons_of_mem _ (List.mem_append_right _ (h))) hown hK.1 hP 0 rfl rfl 5 (by decide) (hts (.fieldLink RX6 29 "ForeignKeyStore$Text" "argumentCount" "I") (List.mem_of_getElem? (i := 1) rfl)) (fun _ h9 => h9) rfl dX6_keep_21 ?_
      refine lv_iload_n hx hb dX6_keep_24 rfl (lv_at hl 1 rfl) ?_
      refine z_iast hx hb hK.1 hP hD hS 1 0 rfl rfl (by omega) (by decide) dX6_keep_25 (fun H locs hP hD hS => ?_)
      have hP : va_P D vwCl [(ad 18, .inr (6, [.ref (ad 19), .int (iI (tl)), .int (iI (tp)), .int (iI (tq)), .ref (ad 20), .int (iI (tac))])), (ad 20, .inl (cI, 4, .inl (iA (uI (TA) (tac) (a)))))] H := hP
      have hD : va_D AA [(ad 18, .inr (6, [.ref (ad 19), .int (iI (tl)), .int (iI (tp)), .int (iI (tq)), .ref (ad 20), .int (iI (tac))])), (ad 20, .inl (cI, 4, .inl (iA (uI (TA) (tac) (a)))))] := hD
      refine lv_aload_n hx hb dX6_keep_26 rfl (lv_at hl 0 rfl) ?_
      refine lv_dup hx hb dX6_keep_27 rfl ?_
      refine va_get (D := D) (ci := 6) (v := .int (iI (tac))) (C := RX6) (T := TX6) (N := 6) hx hb hts (fun _ h => List.mem_cons_of_mem _ (List.mem_append_right _ (h))) hown hK.1 hP 0 rfl rfl 5 (by decide) (hts (.fieldLink RX6 29 "ForeignKeyStore$Text" "argumentCount" "I") (List.mem_of_getElem? (i := 1) rfl)) (fun _ h9 => h9) rfl dX6_keep_28 ?_
      refine lv_iconst (v := iI (1)) hx hb dX6_keep_31 rfl ?_
      refine z_iadd hx hb dX6_keep_32 ?_
      refine va_put (D := D) (ci := 6) (v := .int (iI ((tac + 1)))) (ty := .int) (C := RX6) (T := TX6) (N := 6) hx hb hts (fun _ h => List.mem_cons_of_mem _ (List.mem_append_right _ (h))) tyX6 tyX6_ok nmX6 hown hK.1 hP hD hS 0 rfl rfl 5 (by decide) (hts (.fieldLink RX6 29 "ForeignKeyStore$Text" "argumentCount" "I") (List.mem_of_getElem? (i := 1) rfl)) (fun _ h9 => h9) rfl (by decide +kernel) rfl rfl (Nat.le_of_ble_eq_true rfl) dX6_keep_33 (fun H locs hP hD hS => ?_)
      have hP : va_P D vwCl [(ad 18, .inr (6, [.ref (ad 19), .int (iI (tl)), .int (iI (tp)), .int (iI (tq)), .ref (ad 20), .int (iI ((tac + 1)))])), (ad 20, .inl (cI, 4, .inl (iA (uI (TA) (tac) (a)))))] H := hP
      have hD : va_D AA [(ad 18, .inr (6, [.ref (ad 19), .int (iI (tl)), .int (iI (tp)), .int (iI (tq)), .ref (ad 20), .int (iI ((tac + 1)))])), (ad 20, .inl (cI, 4, .inl (iA (uI (TA) (tac) (a)))))] := hD
      refine lv_iconst (v := iI (1)) hx hb dX6_keep_36 rfl ?_
      refine z_mretZ ((uI (TA) (tac) (a), (tac + 1))) hx hb hr hlocks dX6_keep_37 (by omega) hP hD hS ?_
      unfold kpA; rw [if_neg (by omega)]
    · refine lv_iconst (v := iI (0)) hx hb dX6_keep_14 rfl ?_
      refine z_mretZ ((TA, tac)) hx hb hr hlocks dX6_keep_15 (by omega) hP hD hS ?_
      unfold kpA; rw [if_pos (by omega)]

