abbrev isV (ch : Int) : Prop := ch = 116 ∨ ch = 112 ∨ ch = 107 ∨ ch = 99 ∨ ch = 118
/-- an argument read at p: its value, -2 if there is none, and the place behind it -/
def vP (SG : Int → Int) (tl ch p : Int) : Int × Int := if ch = 116 ∨ ch = 112 then rD SG tl 3 p else if ch = 107 then rK SG tl p else if ch = 99 then rD SG tl 1 p else if (rS SG tl 110 p).1 = 0 then rK SG tl (rS SG tl 110 p).2 else (-1, (rS SG tl 110 p).2)
/-- a form read: 1 or 0, the place, the arguments -/
def rG (SG : Int → Int) (tl : Int) : List Int → Int → List Int → Int × Int × List Int
  | [], p, as => (1, p, as)
  | ch :: cs, p, as =>
    if isV ch then (if (vP SG tl ch p).1 = -2 then (0, (vP SG tl ch p).2, as) else rG SG tl cs (vP SG tl ch p).2 (as ++ [(vP SG tl ch p).1]))
    else (if (rS SG tl ch p).1 = 0 then (0, (rS SG tl ch p).2, as) else rG SG tl cs (rS SG tl ch p).2 as)
theorem rP_v {SG : Int → Int} {tl ch : Int} {st : PS} (h : isV ch) : rP SG tl ch st = kpA (vP SG tl ch st.1).1 (vP SG tl ch st.1).2 st.2.1 st.2.2 := by
  unfold rP vP
  rcases h with h | h | h | h | h <;> subst h <;> simp
  split <;> rfl
theorem rP_s {SG : Int → Int} {tl ch : Int} {st : PS} (h : ¬ isV ch) : rP SG tl ch st = ((rS SG tl ch st.1).1, ((rS SG tl ch st.1).2, st.2.1, st.2.2)) := by
  unfold rP
  rw [if_neg (by omega), if_neg (by omega), if_neg (by omega), if_neg (by omega), if_neg (by omega)]
def gdR (x : Int × PS) (y : Int × Int × List Int) : Prop := x.1 = y.1 ∧ x.2.1 = y.2.1 ∧ x.2.2.2 = (y.2.2.length : Int) ∧ (∀ j : Nat, j < y.2.2.length → x.2.2.1 (j : Int) = y.2.2.getD j 0) ∧ y.2.2.length ≤ 4
theorem rF_G {SG : Int → Int} {tl : Int} {i : Nat} : ∀ (cs : List Int) (k : Nat) (st : PS) (as : List Int), (∀ j : Nat, j < cs.length → chr i ((k + j : Nat) : Int) = cs.getD j 0) → st.2.2 = (as.length : Int) → as.length + cs.countP (fun ch => decide (isV ch)) ≤ 4 → (∀ j : Nat, j < as.length → st.2.1 (j : Int) = as.getD j 0) → gdR (rF SG tl i cs.length k st) (rG SG tl cs st.1 as)
  | [], k, st, as, _, h2, h3, h4 => ⟨rfl, rfl, h2, h4, by simp at h3; exact h3⟩
  | ch :: cs, k, st, as, h1, h2, h3, h4 => by
    have e1 : chr i (k : Int) = ch := by simpa using h1 0 (by simp)
    have h5 : ∀ j : Nat, j < cs.length → chr i ((k + 1 + j : Nat) : Int) = cs.getD j 0 := fun j hj => by
      have := h1 (j + 1) (by simp; omega)
      rw [show k + 1 + j = k + (j + 1) by omega, this]
      simp
    show gdR (rF SG tl i (cs.length + 1) k st) _
    by_cases q : isV ch
    · have h6 : as.length + 1 + cs.countP (fun ch => decide (isV ch)) ≤ 4 := by
        rw [List.countP_cons_of_pos (by simpa using q)] at h3
        omega
      have hp : rP SG tl (chr i (k : Int)) st = kpA (vP SG tl ch st.1).1 (vP SG tl ch st.1).2 st.2.1 st.2.2 := by rw [e1, rP_v q]
      rw [rG, if_pos q]
      by_cases z : (vP SG tl ch st.1).1 = -2
      · have hk : kpA (vP SG tl ch st.1).1 (vP SG tl ch st.1).2 st.2.1 st.2.2 = (0, ((vP SG tl ch st.1).2, st.2.1, st.2.2)) := if_pos (Or.inl z)
        rw [if_pos z, rF_t (by rw [hp, hk]), hp, hk]
        exact ⟨rfl, rfl, h2, h4, by show as.length ≤ 4; omega⟩
      · have hk : kpA (vP SG tl ch st.1).1 (vP SG tl ch st.1).2 st.2.1 st.2.2 = (1, ((vP SG tl ch st.1).2, uI st.2.1 st.2.2 (vP SG tl ch st.1).1, st.2.2 + 1)) := if_neg (by omega)
        rw [if_neg z, rF_f (by rw [hp, hk]; exact (by decide : ¬ (1 : Int) = 0)), hp, hk]
        refine rF_G cs (k + 1) _ (as ++ [(vP SG tl ch st.1).1]) h5 (by rw [List.length_append]; show st.2.2 + 1 = ((as.length + 1 : Nat) : Int); omega) (by rw [List.length_append]; show as.length + 1 + _ ≤ 4; omega) (fun j hj => ?_)
        simp at hj
        show uI st.2.1 st.2.2 (vP SG tl ch st.1).1 (j : Int) = _
        unfold uI
        by_cases w : j < as.length
        · rw [if_neg (by omega), h4 j w, List.getD_eq_getElem?_getD, List.getD_eq_getElem?_getD, List.getElem?_append_left w]
        · have w2 : j = as.length := by omega
          rw [if_pos (by omega), w2]
          simp
    · have h6 : as.length + cs.countP (fun ch => decide (isV ch)) ≤ 4 := by
        rw [List.countP_cons_of_neg (by simpa using q)] at h3
        exact h3
      have hp : rP SG tl (chr i (k : Int)) st = ((rS SG tl ch st.1).1, ((rS SG tl ch st.1).2, st.2.1, st.2.2)) := by rw [e1, rP_s q]
      rw [rG, if_neg q]
      by_cases z : (rS SG tl ch st.1).1 = 0
      · rw [if_pos z, rF_t (by rw [hp]; exact z), hp]
        exact ⟨rfl, rfl, h2, h4, by show as.length ≤ 4; omega⟩
      · rw [if_neg z, rF_f (by rw [hp]; exact z), hp]
        exact rF_G cs (k + 1) _ as h5 h2 h6 h4
theorem isLt_iff (x : Int) : isLt x ↔ x = 105 ∨ x = 117 ∨ x = 100 ∨ x = 99 ∨ x = 114 ∨ x = 115 ∨ x = 98 := by
  have e : ∀ k : Nat, chr 0 (k : Int) = ([105, 117, 100, 99, 114, 115, 98] : List Int).getD k 0 := fun k => by simp [chr, txt6]
  constructor
  · intro h
    refine Classical.byContradiction fun q => ?_
    have h2 := h.2
    rw [show tlen 0 = 7 from rfl] at h2
    simp only [ixF, e] at h2
    simp only [List.getD_cons_zero, List.getD_cons_succ] at h2
    rw [if_neg (by omega), if_neg (by omega), if_neg (by omega), if_neg (by omega), if_neg (by omega), if_neg (by omega), if_neg (by omega)] at h2
    omega
  · intro h
    rcases h with h | h | h | h | h | h | h <;> subst h <;> exact ⟨by decide, by decide⟩
noncomputable def cG (SG : Int → Int) (tl p : Int) : Int × Int × List Int := @ite _ (isLt (sgn SG tl p)) (Classical.propDecidable _) (rG SG tl (txt6.getD (frm (sgn SG tl p)) []) (p + 1) []) (0, p, [])
theorem cG_t {SG : Int → Int} {tl p : Int} (h : isLt (sgn SG tl p)) : cG SG tl p = rG SG tl (txt6.getD (frm (sgn SG tl p)) []) (p + 1) [] := if_pos h
theorem cG_f {SG : Int → Int} {tl p : Int} (h : ¬ isLt (sgn SG tl p)) : cG SG tl p = (0, p, []) := if_neg h
theorem rC_G (SG : Int → Int) (tl p : Int) (TA : Int → Int) : gdR (rC SG tl p TA) (cG SG tl p) := by
  by_cases h : isLt (sgn SG tl p)
  · rw [rC_t h, cG_t h]
    have h6 := frm_lt (sgn SG tl p)
    have hc : ∀ i : Nat, i < 6 → (txt6.getD i []).countP (fun ch => decide (isV ch)) ≤ 4 := by decide
    refine rF_G (txt6.getD (frm (sgn SG tl p)) []) 0 (p + 1, TA, 0) [] (fun j _ => by simp [chr]) rfl ?_ (fun j hj => absurd hj (by simp))
    have := hc _ h6
    simpa using this
  · rw [rC_f h, cG_f h]
    exact ⟨rfl, rfl, rfl, fun j hj => absurd hj (by simp), by simp⟩
theorem arg_G {x : Int × PS} {y : Int × Int × List Int} (h : gdR x y) (j : Nat) : arg x.2.2.1 x.2.2.2 (j : Int) = y.2.2.getD j 0 := by
  obtain ⟨-, -, h3, h4, h5⟩ := h
  unfold arg
  by_cases w : j < y.2.2.length
  · rw [if_pos (by omega), h4 j w]
  · rw [if_neg (by omega), List.getD_eq_getElem?_getD, List.getElem?_eq_none (by omega)]
    rfl
theorem rD_v {SG : Int → Int} {tl h p : Int} (g : ¬ (rD SG tl h p).1 = -2) : 0 ≤ (rD SG tl h p).1 ∧ (rD SG tl h p).1 ≤ h ∧ (rD SG tl h p).2 = p + 1 := by
  unfold rD at g ⊢
  split at g
  · rename_i k
    rw [if_pos k]
    exact ⟨k.1, k.2, rfl⟩
  · exact absurd rfl g
theorem rD_n {SG : Int → Int} {tl h p : Int} (hh : 0 ≤ h) (g : (rD SG tl h p).1 = -2) : (rD SG tl h p).2 = p := by
  unfold rD at g ⊢
  split at g
  · dsimp only at g; omega
  · rename_i k
    rw [if_neg k]
theorem rK_v {SG : Int → Int} {tl p : Int} (g : ¬ (rK SG tl p).1 = -2) : 0 ≤ (rK SG tl p).1 ∧ (rK SG tl p).1 ≤ 19 ∧ p + 1 ≤ (rK SG tl p).2 := by
  unfold rK at g ⊢
  by_cases h1 : (rD SG tl 9 p).1 = 1
  · have h2 := (rD_v (h := 9) (p := p) (SG := SG) (tl := tl) (by omega)).2.2
    rw [if_pos h1]
    by_cases h3 : (rD SG tl 9 (rD SG tl 9 p).2).1 = -2
    · rw [if_pos h3]
      have h4 := rD_n (by omega) h3
      dsimp only
      omega
    · rw [if_neg h3]
      have h4 := rD_v h3
      dsimp only
      omega
  · rw [if_neg h1] at g ⊢
    have h4 := rD_v g
    omega
theorem rS_1 {SG : Int → Int} {tl c p : Int} (g : ¬ (rS SG tl c p).1 = 0) : sgn SG tl p = c ∧ (rS SG tl c p).2 = p + 1 := by
  unfold rS at g ⊢
  split at g
  · rename_i k
    rw [if_pos k]
    exact ⟨k, rfl⟩
  · exact absurd rfl g
theorem rS_0 {SG : Int → Int} {tl c p : Int} (g : (rS SG tl c p).1 = 0) : ¬ sgn SG tl p = c ∧ (rS SG tl c p).2 = p := by
  unfold rS at g ⊢
  split at g
  · cases g
  · rename_i k
    rw [if_neg k]
    exact ⟨k, rfl⟩
theorem vP_t {SG : Int → Int} {tl p : Int} (g : ¬ (vP SG tl 116 p).1 = -2) : 0 ≤ (vP SG tl 116 p).1 ∧ (vP SG tl 116 p).1 ≤ 3 ∧ p + 1 ≤ (vP SG tl 116 p).2 := by
  have h := rD_v (h := 3) (p := p) (SG := SG) (tl := tl) g
  exact ⟨h.1, h.2.1, by rw [show (vP SG tl 116 p).2 = (rD SG tl 3 p).2 from rfl, h.2.2]; omega⟩
theorem vP_p {SG : Int → Int} {tl p : Int} (g : ¬ (vP SG tl 112 p).1 = -2) : 0 ≤ (vP SG tl 112 p).1 ∧ (vP SG tl 112 p).1 ≤ 3 ∧ p + 1 ≤ (vP SG tl 112 p).2 := by
  have h := rD_v (h := 3) (p := p) (SG := SG) (tl := tl) g
  exact ⟨h.1, h.2.1, by rw [show (vP SG tl 112 p).2 = (rD SG tl 3 p).2 from rfl, h.2.2]; omega⟩
theorem vP_c {SG : Int → Int} {tl p : Int} (g : ¬ (vP SG tl 99 p).1 = -2) : 0 ≤ (vP SG tl 99 p).1 ∧ (vP SG tl 99 p).1 ≤ 1 ∧ p + 1 ≤ (vP SG tl 99 p).2 := by
  have h := rD_v (h := 1) (p := p) (SG := SG) (tl := tl) g
  exact ⟨h.1, h.2.1, by rw [show (vP SG tl 99 p).2 = (rD SG tl 1 p).2 from rfl, h.2.2]; omega⟩
theorem vP_k {SG : Int → Int} {tl p : Int} (g : ¬ (vP SG tl 107 p).1 = -2) : 0 ≤ (vP SG tl 107 p).1 ∧ (vP SG tl 107 p).1 ≤ 19 ∧ p + 1 ≤ (vP SG tl 107 p).2 := rK_v (p := p) (SG := SG) (tl := tl) g
theorem vP_v {SG : Int → Int} {tl p : Int} (g : ¬ (vP SG tl 118 p).1 = -2) : -1 ≤ (vP SG tl 118 p).1 ∧ (vP SG tl 118 p).1 ≤ 19 ∧ p + 1 ≤ (vP SG tl 118 p).2 := by
  have e : vP SG tl 118 p = if (rS SG tl 110 p).1 = 0 then rK SG tl (rS SG tl 110 p).2 else (-1, (rS SG tl 110 p).2) := rfl
  rw [e] at g ⊢
  by_cases h : (rS SG tl 110 p).1 = 0
  · rw [if_pos h] at g ⊢
    have h1 := rK_v g
    have h2 := rS_0 h
    omega
  · rw [if_neg h]
    have h2 := rS_1 h
    dsimp only
    omega
theorem rG_vi {SG : Int → Int} {tl ch p : Int} {cs as : List Int} (q : isV ch) (h : (rG SG tl (ch :: cs) p as).1 = 1) : ¬ (vP SG tl ch p).1 = -2 ∧ rG SG tl (ch :: cs) p as = rG SG tl cs (vP SG tl ch p).2 (as ++ [(vP SG tl ch p).1]) := by
  rw [rG, if_pos q] at h ⊢
  by_cases z : (vP SG tl ch p).1 = -2
  · rw [if_pos z] at h; cases h
  · rw [if_neg z]; exact ⟨z, rfl⟩
theorem rG_si {SG : Int → Int} {tl ch p : Int} {cs as : List Int} (q : ¬ isV ch) (h : (rG SG tl (ch :: cs) p as).1 = 1) : rG SG tl (ch :: cs) p as = rG SG tl cs (p + 1) as := by
  rw [rG, if_neg q] at h ⊢
  by_cases z : (rS SG tl ch p).1 = 0
  · rw [if_pos z] at h; cases h
  · rw [if_neg z, (rS_1 z).2]
set_option maxHeartbeats 1000000 in
theorem cG_ok {SG : Int → Int} {tl p : Int} (h : (cG SG tl p).1 = 1) : aOK (sgn SG tl p) ((cG SG tl p).2.2.getD 0 0) ((cG SG tl p).2.2.getD 1 0) ((cG SG tl p).2.2.getD 2 0) ((cG SG tl p).2.2.getD 3 0) ∧ p + 1 ≤ (cG SG tl p).2.1 ∧ (sgn SG tl p = 105 ∨ sgn SG tl p = 117 → p + 8 ≤ (cG SG tl p).2.1) := by
  have hl : isLt (sgn SG tl p) := Classical.byContradiction fun q => by rw [cG_f q] at h; cases h
  rw [cG_t hl] at h ⊢
  generalize sgn SG tl p = x at h hl ⊢
  rcases (isLt_iff x).1 hl with e | e | e | e | e | e | e
  · subst e
    rw [show txt6.getD (frm 105) [] = [116, 44, 107, 44, 118, 44, 118] from rfl] at h ⊢
    obtain ⟨a1, a2⟩ := rG_vi (by decide) h
    rw [a2] at h ⊢
    have b1 := rG_si (by decide) h
    rw [b1] at h ⊢
    obtain ⟨a3, a4⟩ := rG_vi (by decide) h
    rw [a4] at h ⊢
    have b2 := rG_si (by decide) h
    rw [b2] at h ⊢
    obtain ⟨a5, a6⟩ := rG_vi (by decide) h
    rw [a6] at h ⊢
    have b3 := rG_si (by decide) h
    rw [b3] at h ⊢
    obtain ⟨a7, a8⟩ := rG_vi (by decide) h
    rw [a8]
    have c1 := vP_t a1
    have c2 := vP_k a3
    have c3 := vP_v a5
    have c4 := vP_v a7
    refine ⟨Or.inl ⟨rfl, c1.1, c1.2.1, c2.1, c2.2.1, c3.1, c3.2.1, c4.1, c4.2.1⟩, ?_, fun _ => ?_⟩
    · show _ ≤ (vP SG tl 118 _).2
      omega
    · show _ ≤ (vP SG tl 118 _).2
      omega
  · subst e
    rw [show txt6.getD (frm 117) [] = [116, 44, 107, 44, 99, 44, 118] from rfl] at h ⊢
    obtain ⟨a1, a2⟩ := rG_vi (by decide) h
    rw [a2] at h ⊢
    have b1 := rG_si (by decide) h
    rw [b1] at h ⊢
    obtain ⟨a3, a4⟩ := rG_vi (by decide) h
    rw [a4] at h ⊢
    have b2 := rG_si (by decide) h
    rw [b2] at h ⊢
    obtain ⟨a5, a6⟩ := rG_vi (by decide) h
    rw [a6] at h ⊢
    have b3 := rG_si (by decide) h
    rw [b3] at h ⊢
    obtain ⟨a7, a8⟩ := rG_vi (by decide) h
    rw [a8]
    have c1 := vP_t a1
    have c2 := vP_k a3
    have c3 := vP_c a5
    have c4 := vP_v a7
    refine ⟨Or.inr (Or.inl ⟨rfl, c1.1, c1.2.1, c2.1, c2.2.1, c3.1, c3.2.1, c4.1, c4.2.1⟩), ?_, fun _ => ?_⟩
    · show _ ≤ (vP SG tl 118 _).2
      omega
    · show _ ≤ (vP SG tl 118 _).2
      omega
  · subst e
    rw [show txt6.getD (frm 100) [] = [116, 44, 107] from rfl] at h ⊢
    obtain ⟨a1, a2⟩ := rG_vi (by decide) h
    rw [a2] at h ⊢
    have b1 := rG_si (by decide) h
    rw [b1] at h ⊢
    obtain ⟨a3, a4⟩ := rG_vi (by decide) h
    rw [a4]
    have c1 := vP_t a1
    have c2 := vP_k a3
    refine ⟨Or.inr (Or.inr (Or.inl ⟨rfl, c1.1, c1.2.1, c2.1, c2.2.1⟩)), ?_, fun q => by omega⟩
    show _ ≤ (vP SG tl 107 _).2
    omega
  · subst e
    exact ⟨Or.inr (Or.inr (Or.inr (Or.inr (Or.inl rfl)))), Int.le_refl _, fun q => by omega⟩
  · subst e
    exact ⟨Or.inr (Or.inr (Or.inr (Or.inr (Or.inr (Or.inl rfl))))), Int.le_refl _, fun q => by omega⟩
  · subst e
    exact ⟨Or.inr (Or.inr (Or.inr (Or.inr (Or.inr (Or.inr rfl))))), Int.le_refl _, fun q => by omega⟩
  · subst e
    rw [show txt6.getD (frm 98) [] = [112] from rfl] at h ⊢
    obtain ⟨a1, a2⟩ := rG_vi (by decide) h
    rw [a2]
    have c1 := vP_p a1
    refine ⟨Or.inr (Or.inr (Or.inr (Or.inl ⟨rfl, c1.1, c1.2.1⟩))), ?_, fun q => by omega⟩
    show _ ≤ (vP SG tl 112 _).2
    omega
noncomputable def eG (SG : Int → Int) (tl : Int) : Nat → Int → Int
  | 0, p => p
  | f + 1, p => if (cG SG tl p).1 = 0 then (cG SG tl p).2.1 else if tl ≤ (cG SG tl p).2.1 then -2 else if (rS SG tl 59 (cG SG tl p).2.1).1 = 0 then (rS SG tl 59 (cG SG tl p).2.1).2 else eG SG tl f (rS SG tl 59 (cG SG tl p).2.1).2
theorem eF_G (SG : Int → Int) (tl : Int) : ∀ (f : Nat) (p : Int) (TA : Int → Int), eF SG tl f p TA = eG SG tl f p
  | 0, _, _ => rfl
  | f + 1, p, TA => by
    have h := rC_G SG tl p TA
    rw [eF, eG, h.1, h.2.1, eF_G SG tl f]
theorem cmdLn_ge (tq : Int) (V : Int → Int) (r : Int) (Ln : Nat) (n : Int) : Ln ≤ cmdLn tq V r Ln n := by
  have h := gLn_ge Ln n
  unfold cmdLn cLn xLn
  repeat' split
  all_goals omega
theorem cmdLn_lt {tq : Int} {V : Int → Int} {r : Int} {Ln : Nat} {n : Int} (g : Ln < 100000) : cmdLn tq V r Ln n < 100000 := by
  have h := gLn_lt (n := n) g
  unfold cmdLn cLn xLn
  repeat' split
  all_goals omega
noncomputable def stp (P Ac Mo SG : Int → Int) (tl p : Int) (S : AS) : Int × AS := cmdF P Ac Mo (sgn SG tl p) ((cG SG tl p).2.2.getD 0 0) ((cG SG tl p).2.2.getD 1 0) ((cG SG tl p).2.2.getD 2 0) ((cG SG tl p).2.2.getD 3 0) S.1 S.2.1 S.2.2.1 S.2.2.2
noncomputable def stL (SG : Int → Int) (tl p : Int) (S : AS) (Ln : Nat) : Nat := cmdLn (sgn SG tl p) S.1 ((cG SG tl p).2.2.getD 0 0 * 20 + (cG SG tl p).2.2.getD 1 0) Ln (S.2.1.length : Int)
/-- the text executed from p on: how many commands, the store, the length of the changes' array -/
noncomputable def rtF (P Ac Mo SG : Int → Int) (tl : Int) : Nat → Int → Int → Int → AS → Nat → Int × AS × Nat
  | 0, ex, _, _, S, Ln => (ex, S, Ln)
  | f + 1, ex, ans, p, S, Ln => if ans ≤ -10 then (ex, S, Ln) else if (cG SG tl p).1 = 0 then (ex, S, Ln) else if (stp P Ac Mo SG tl p S).1 = -3 then (ex, (stp P Ac Mo SG tl p S).2, stL SG tl p S Ln) else rtF P Ac Mo SG tl f (ex + 1) (stp P Ac Mo SG tl p S).1 (rS SG tl 59 (cG SG tl p).2.1).2 (stp P Ac Mo SG tl p S).2 (stL SG tl p S Ln)
theorem rtF_ge (P Ac Mo SG : Int → Int) (tl : Int) : ∀ (f : Nat) (ex ans p : Int) (S : AS) (Ln : Nat), Ln ≤ (rtF P Ac Mo SG tl f ex ans p S Ln).2.2
  | 0, _, _, _, _, _ => Nat.le_refl _
  | f + 1, ex, ans, p, S, Ln => by
    have h1 : Ln ≤ stL SG tl p S Ln := cmdLn_ge _ _ _ _ _
    rw [rtF]
    repeat' split
    · exact Nat.le_refl _
    · exact Nat.le_refl _
    · exact h1
    · exact Nat.le_trans h1 (rtF_ge P Ac Mo SG tl f _ _ _ _ _)
theorem sgn_end (SG : Int → Int) (tl : Int) : sgn SG tl tl = -1 := if_neg (by omega)
theorem rt_step {SG : Int → Int} {tl p : Int} (hp : 0 ≤ p) (hb : (cG SG tl p).2.1 ≤ tl) (h1 : (cG SG tl p).1 = 1) (hv : ∃ f, eG SG tl f p = -2) : ((∃ f, eG SG tl f (rS SG tl 59 (cG SG tl p).2.1).2 = -2) ∨ (rS SG tl 59 (cG SG tl p).2.1).2 = tl) ∧ bud (sgn SG tl p) + 4 * ((tl + 1 - (rS SG tl 59 (cG SG tl p).2.1).2) / 9) ≤ 4 * ((tl + 1 - p) / 9) ∧ p ≤ (rS SG tl 59 (cG SG tl p).2.1).2 ∧ (rS SG tl 59 (cG SG tl p).2.1).2 ≤ tl := by
  obtain ⟨f, hf⟩ := hv
  have h2 := cG_ok h1
  have h3 : bud (sgn SG tl p) = 0 ∨ (bud (sgn SG tl p) = 4 ∧ p + 8 ≤ (cG SG tl p).2.1) := by
    unfold bud
    split
    · rename_i q; exact Or.inr ⟨rfl, h2.2.2 q⟩
    · exact Or.inl rfl
  cases f with
  | zero => rw [eG] at hf; omega
  | succ f =>
    rw [eG, if_neg (by omega)] at hf
    by_cases q : tl ≤ (cG SG tl p).2.1
    · have e : (cG SG tl p).2.1 = tl := by omega
      have e2 : (rS SG tl 59 (cG SG tl p).2.1).2 = tl := by
        rw [e]
        exact (congrArg Prod.snd (if_neg (by rw [sgn_end]; decide) : rS SG tl 59 tl = (0, tl)))
      rw [e2]
      exact ⟨Or.inr rfl, by omega, by omega, Int.le_refl _⟩
    · rw [if_neg q] at hf
      by_cases z : (rS SG tl 59 (cG SG tl p).2.1).1 = 0
      · rw [if_pos z] at hf
        have := (rS_0 z).2
        omega
      · rw [if_neg z] at hf
        have := (rS_1 z).2
        exact ⟨Or.inl ⟨f, hf⟩, by omega, by omega, by omega⟩
def spOK (SP : Int → Int) (sn : Int) : Prop := (0 ≤ sn ∧ sn ≤ 4) ∧ ∀ j : Int, 0 ≤ j → j < sn → 0 ≤ SP j ∧ SP j < 2147483648
theorem spOK_0 (SP : Int → Int) : spOK SP 0 := ⟨by omega, fun j h1 h2 => by omega⟩
theorem stp_sp {P Ac Mo SG V SP : Int → Int} {tl p sn : Int} {lg : Lg} (h : spOK SP sn) (hl : (lg.length : Int) < 2147483648) : spOK (stp P Ac Mo SG tl p (V, lg, SP, sn)).2.2.2.1 (stp P Ac Mo SG tl p (V, lg, SP, sn)).2.2.2.2 := by
  unfold stp cmdF
  split
  · exact h
  split
  · exact h
  split
  · exact h
  split
  · unfold comF
    split
    · exact spOK_0 _
    · exact h
  split
  · exact spOK_0 _
  split
  · unfold mkF
    dsimp only
    split
    · refine ⟨by have := h.1; dsimp only; omega, fun j h1 h2 => ?_⟩
      show 0 ≤ uI SP sn (lg.length : Int) j ∧ uI SP sn (lg.length : Int) j < 2147483648
      unfold uI
      split
      · omega
      · exact h.2 j h1 (by dsimp only at h2; omega)
    · exact h
  · unfold bkF
    dsimp only
    split
    · rename_i q
      have := h.1
      exact ⟨by dsimp only; omega, fun j h1 h2 => h.2 j h1 (by dsimp only at h2; omega)⟩
    · exact h
theorem cG_end (SG : Int → Int) (tl : Int) : (cG SG tl tl).1 = 0 := by
  rw [cG_f (by rw [sgn_end]; exact fun q => q.1 rfl)]
noncomputable def rtL (P Ac Mo SG : Int → Int) (tl : Int) (S : AS) (Ln : Nat) : Nat := if eG SG tl 80 0 = -2 then (rtF P Ac Mo SG tl 80 0 0 0 S Ln).2.2 else Ln
theorem rtL_t {P Ac Mo SG : Int → Int} {tl : Int} {S : AS} {Ln : Nat} (h : eG SG tl 80 0 = -2) : rtL P Ac Mo SG tl S Ln = (rtF P Ac Mo SG tl 80 0 0 0 S Ln).2.2 := if_pos h
theorem rtL_f {P Ac Mo SG : Int → Int} {tl : Int} {S : AS} {Ln : Nat} (h : ¬ eG SG tl 80 0 = -2) : rtL P Ac Mo SG tl S Ln = Ln := if_neg h
