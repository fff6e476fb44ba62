/-- the rows that a queue has had, in their order -/
def isQ (Qs : List Int) (Qa Qk : Int → Int) (ql : Int) : Prop := ql = (Qs.length : Int) ∧ (∀ i : Nat, i < Qs.length → Qa (i : Int) = Qs.getD i 0) ∧ (∀ j : Int, 0 ≤ j → j < 80 → (Qk j = 0 ∨ Qk j = 1) ∧ (Qk j = 1 ↔ j ∈ Qs)) ∧ (∀ x ∈ Qs, 0 ≤ x ∧ x < 80) ∧ Qs.Nodup
def addL (Qs : List Int) (r : Int) : List Int := if r ∈ Qs then Qs else Qs ++ [r]
theorem nodup_len : ∀ (n : Nat) (l : List Int), l.Nodup → (∀ x ∈ l, 0 ≤ x ∧ x < (n : Int)) → l.length ≤ n
  | 0, l, _, h => by
    cases l with
    | nil => exact Nat.le_refl 0
    | cons a t => have := h a List.mem_cons_self; omega
  | n + 1, l, hn, h => by
    by_cases hm : (n : Int) ∈ l
    · have h1 := nodup_len n (l.erase (n : Int)) (hn.erase _) (fun x hx => by
        have h2 := h x (List.mem_of_mem_erase hx)
        have h3 : x ≠ (n : Int) := fun q => by
          rw [q] at hx
          exact (List.Nodup.not_mem_erase hn) hx
        omega)
      have h4 := List.length_erase_of_mem hm
      have h5 : 0 < l.length := List.length_pos_of_mem hm
      omega
    · have h1 := nodup_len n l hn (fun x hx => by
        have h2 := h x hx
        have h3 : x ≠ (n : Int) := fun q => by
          rw [q] at hx
          exact hm hx
        omega)
      omega
theorem isQ_len {Qs : List Int} {Qa Qk : Int → Int} {ql : Int} (h : isQ Qs Qa Qk ql) : 0 ≤ ql ∧ ql ≤ 80 := by
  have h1 := nodup_len 80 Qs h.2.2.2.2 h.2.2.2.1
  have h2 := h.1
  omega
theorem isQ_k {Qs : List Int} {Qa Qk : Int → Int} {ql : Int} (h : isQ Qs Qa Qk ql) : ∀ j : Int, 0 ≤ j → j < 80 → 0 ≤ Qk j ∧ Qk j ≤ 1 := fun j h1 h2 => by
  have := (h.2.2.1 j h1 h2).1
  omega
theorem isQ_nil {Qa Qk : Int → Int} (h : ∀ j : Int, 0 ≤ j → j < 80 → Qk j = 0) : isQ [] Qa Qk 0 := by
  refine ⟨rfl, fun i hi => absurd hi (Nat.not_lt_zero i), fun j h1 h2 => ⟨Or.inl (h j h1 h2), ?_⟩, fun x hx => absurd hx List.not_mem_nil, List.nodup_nil⟩
  rw [h j h1 h2]
  simp
theorem isQ_in {Qs : List Int} {Qa Qk : Int → Int} {ql r : Int} (h : isQ Qs Qa Qk ql) (h1 : 0 ≤ r) (h2 : r < 80) (h3 : ¬ Qk r = 0) : isQ (addL Qs r) Qa Qk ql := by
  have h4 := h.2.2.1 r h1 h2
  have h5 : r ∈ Qs := h4.2.mp (by omega)
  unfold addL
  rw [if_pos h5]
  exact h
theorem isQ_out {Qs : List Int} {Qa Qk : Int → Int} {ql r : Int} (h : isQ Qs Qa Qk ql) (h1 : 0 ≤ r) (h2 : r < 80) (h3 : Qk r = 0) : r ∉ Qs := fun q => by
  have := (h.2.2.1 r h1 h2).2.mpr q
  omega
theorem isQ_lt {Qs : List Int} {Qa Qk : Int → Int} {ql r : Int} (h : isQ Qs Qa Qk ql) (h1 : 0 ≤ r) (h2 : r < 80) (h3 : r ∉ Qs) : ql < 80 := by
  have h5 := nodup_len 80 (r :: Qs) (List.nodup_cons.mpr ⟨h3, h.2.2.2.2⟩) (fun x hx => by
    rcases List.mem_cons.mp hx with q | q
    · omega
    · exact h.2.2.2.1 x q)
  have h6 := h.1
  simp at h5
  omega
theorem isQ_add {Qs : List Int} {Qa Qk : Int → Int} {ql r : Int} (h : isQ Qs Qa Qk ql) (h1 : 0 ≤ r) (h2 : r < 80) (h3 : Qk r = 0) : isQ (addL Qs r) (uI Qa ql r) (uI Qk r 1) (ql + 1) := by
  have h4 := isQ_out h h1 h2 h3
  have e0 := h.1
  unfold addL
  rw [if_neg h4]
  refine ⟨by rw [e0]; simp, fun i hi => ?_, fun j a b => ?_, fun x hx => ?_, ?_⟩
  · by_cases hl : i < Qs.length
    · rw [uI_n (by omega), h.2.1 i hl]
      simp [List.getD, List.getElem?_append_left hl]
    · have he : i = Qs.length := by simp at hi; omega
      subst he
      rw [← e0, uI_s]
      simp [List.getD]
  · by_cases hj : j = r
    · subst hj
      rw [uI_s]
      simp
    · rw [uI_n hj]
      refine ⟨(h.2.2.1 j a b).1, ?_⟩
      rw [(h.2.2.1 j a b).2]
      simp [hj]
  · rcases List.mem_append.mp hx with q | q
    · exact h.2.2.2.1 x q
    · have := List.mem_singleton.mp q
      omega
  · rw [List.nodup_append]
    exact ⟨h.2.2.2.2, by simp, fun x hx y hy => by
      have := List.mem_singleton.mp hy
      intro q
      exact h4 (by rw [← this, ← q]; exact hx)⟩
theorem isQ_at {Qs : List Int} {Qa Qk : Int → Int} {ql : Int} (h : isQ Qs Qa Qk ql) {i : Nat} (hi : (i : Int) < ql) : Qa (i : Int) = Qs.getD i 0 ∧ 0 ≤ Qa (i : Int) ∧ Qa (i : Int) < 80 := by
  have e0 := h.1
  have hl : i < Qs.length := by omega
  have e1 := h.2.1 i hl
  refine ⟨e1, ?_⟩
  rw [e1]
  have e2 : Qs.getD i 0 = Qs[i] := by simp [List.getD, hl]
  rw [e2]
  exact h.2.2.2.1 _ (List.getElem_mem hl)
theorem clr_s {K : Int → Int} {i : Nat} (h : ∀ j : Int, 0 ≤ j → j < (i : Int) → K j = 0) : ∀ j : Int, 0 ≤ j → j < ((i + 1 : Nat) : Int) → uI K (i : Int) 0 j = 0 := by
  intro j h1 h2
  by_cases hj : j = (i : Int)
  · rw [hj, uI_s]
  · rw [uI_n hj]
    exact h j h1 (by omega)
def qAt (Qa : Int → Int) (ql p : Int) : Int := if 0 ≤ p ∧ p < ql ∧ p < 80 then Qa p else -2
theorem qAt_i {Qa : Int → Int} {ql p : Int} (h : 0 ≤ p ∧ p < ql ∧ p < 80) : qAt Qa ql p = Qa p := if_pos h
noncomputable def addT (V : Int → Int) (Qs : List Int) (t : Int) : List Int := @ite (List Int) (hasR V t) (Classical.propDecidable _) (addL Qs t) Qs
theorem addT_t {V : Int → Int} {Qs : List Int} {t : Int} (h : hasR V t) : addT V Qs t = addL Qs t := if_pos h
theorem addT_f {V : Int → Int} {Qs : List Int} {t : Int} (h : ¬ hasR V t) : addT V Qs t = Qs := if_neg h
/-- the targets of a row, put into the queue -/
noncomputable def ftL (P V : Int → Int) (r : Int) (Qs : List Int) : Nat → List Int
  | 0 => Qs
  | c + 1 => addT V (ftL P V r Qs c) (tgt P V (r / 20 * 2 + (c : Int)) r)
noncomputable def bfs (P V : Int → Int) : Nat → Nat → List Int → List Int
  | 0, _, Qs => Qs
  | f + 1, pl, Qs => if pl < Qs.length then bfs P V f (pl + 1) (ftL P V (Qs.getD pl 0) Qs 2) else Qs
theorem bfs_t {P V : Int → Int} {f pl : Nat} {Qs : List Int} (h : pl < Qs.length) : bfs P V (f + 1) pl Qs = bfs P V f (pl + 1) (ftL P V (Qs.getD pl 0) Qs 2) := by
  rw [bfs, if_pos h]
theorem bfs_f {P V : Int → Int} {f pl : Nat} {Qs : List Int} (h : ¬ pl < Qs.length) : bfs P V f pl Qs = Qs := by
  cases f with
  | zero => rfl
  | succ f => rw [bfs, if_neg h]
/-- writing and undoing -/
def wrV (V : Int → Int) (r a b : Int) : Int → Int := uI (uI V (r * 2) a) (r * 2 + 1) b
def pk (r x y : Int) : Int := r * 1024 + x * 32 + y
def wrB (B : Int → Int) (n r : Int) (V : Int → Int) : Int → Int := uI B n (pk r (V (r * 2) - -2) (V (r * 2 + 1) - -2))
def wcV (V : Int → Int) (r c v : Int) : Int → Int := wrV V r (if c = 0 then v else vOf V r 0) (if c = 1 then v else vOf V r 1)
def reV (V : Int → Int) (ch : Int) : Int → Int := uI (uI V (ch / 1024 * 2) (ch / 32 % 32 + -2)) (ch / 1024 * 2 + 1) (ch % 32 + -2)
def unV (B : Int → Int) : Nat → (Int → Int) → Int → (Int → Int)
  | 0, V, _ => V
  | j + 1, V, n => unV B j (reV V (B (n - 1))) (n - 1)
def unS (n k : Int) : Nat := (n - k).toNat

set_option maxHeartbeats 600000 in
set_option maxRecDepth 100000 in
theorem c_X3_clear (l : Launch) (D : va_G) (cI cZ cC : ClassId) (sz : Nat) (q0 q1 q2 : Nat) (Qa Qk : Int → Int) (ql : Int) : zMv l yX3_clear wsX3_clear ({ frames := 0, cells := 0, slots := 0, locals := 0 }) D cI cZ cC [(q0, .inr (3, [.ref (q1), .ref (q2), .int (iI (ql))])), (q1, .inl (cI, 80, .inl (iA (Qa)))), (q2, .inl (cZ, 80, .inl (iA (Qk))))] sz [.ref (q0)] (0) (0) (fun (u : (Int → Int) × (Int → Int) × Int) => [(q0, .inr (3, [.ref (q1), .ref (q2), .int (iI (u.2.2))])), (q1, .inl (cI, 80, .inl (iA (u.1)))), (q2, .inl (cZ, 80, .inl (iA (u.2.1))))]) (fun u : (Int → Int) × (Int → Int) × Int => isQ [] u.1 u.2.1 u.2.2) := by
  refine z_ofMv (cc := cX3_clear) (maxL := 2) (ret := none) RX3 (by decide +kernel) rfl rfl (Nat.le_of_ble_eq_true rfl) ?_
  intro p0 en0 s0 m0 args0 below0 meth0 c0 ls AA hx hb hr hlocks hnm hml hown hts hP hD hS hA hK hl
  have hl : lv_has ls 2 [(0, .ref (q0))] := hl
  obtain ⟨H, hH⟩ : ∃ H, H = s0.heap := ⟨_, rfl⟩
  obtain ⟨locs, hlo⟩ : ∃ locs : List Loc, locs = [] := ⟨_, rfl⟩
  have hP : va_P D vwCl [(q0, .inr (3, [.ref (q1), .ref (q2), .int (iI (ql))])), (q1, .inl (cI, 80, .inl (iA (Qa)))), (q2, .inl (cZ, 80, .inl (iA (Qk))))] H := by rw [hH]; exact hP
  have hS : va_S AA s0.heap H locs := by rw [hH, hlo]; exact hS
  suffices hW : W p0 l en0 (headSpec wsX3_clear ({ frames := 0, cells := 0, slots := 0, locals := 0 })).room s0 m0 args0 below0 meth0 c0 H locs 0 0 (QMv below0 D ((fun (u : (Int → Int) × (Int → Int) × Int) => [(q0, .inr (3, [.ref (q1), .ref (q2), .int (iI (u.2.2))])), (q1, .inl (cI, 80, .inl (iA (u.1)))), (q2, .inl (cZ, 80, .inl (iA (u.2.1))))])) (fun u : (Int → Int) × (Int → Int) × Int => isQ [] u.1 u.2.1 u.2.2) AA args0 s0 (0) (0)) (F0 m0 0 ls []) by rw [hH, hlo] at hW; exact hW
  refine lv_aload_n hx hb dX3_clear_0 rfl (lv_at hl 0 rfl) ?_
  refine lv_iconst (v := iI (0)) hx hb dX3_clear_1 rfl ?_
  refine va_put (D := D) (ci := 3) (v := .int (iI (0))) (ty := .int) (C := RX3) (T := TX3) (N := 3) hx hb hts (fun _ h => List.mem_cons_of_mem _ (List.mem_append_right _ (h))) tyX3 tyX3_ok nmX3 hown hK.1 hP hD hS 0 rfl rfl 2 (by decide) (hts (.fieldLink RX3 19 "ForeignKeyStore$RowQueue" "length" "I") (List.mem_of_getElem? (i := 1) rfl)) (fun _ h9 => h9) rfl (by decide +kernel) rfl rfl (Nat.le_of_ble_eq_true rfl) dX3_clear_2 (fun H locs hP hD hS => ?_)
  have hP : va_P D vwCl [(q0, .inr (3, [.ref (q1), .ref (q2), .int (iI (0))])), (q1, .inl (cI, 80, .inl (iA (Qa)))), (q2, .inl (cZ, 80, .inl (iA (Qk))))] H := hP
  have hD : va_D AA [(q0, .inr (3, [.ref (q1), .ref (q2), .int (iI (0))])), (q1, .inl (cI, 80, .inl (iA (Qa)))), (q2, .inl (cZ, 80, .inl (iA (Qk))))] := hD
  refine lv_iconst (v := iI (0)) hx hb dX3_clear_5 rfl ?_
  refine lv_istore_n (lv' := [(1, .int (iI (0))), (0, .ref (q0))]) hx hb dX3_clear_6 rfl hl (by decide) rfl (fun ls hl => ?_)
  have loop7 : ∀ (fu : Nat) (i : Nat) (Qk : Int → Int), (g_i : i ≤ 80) → (g_n : 80 < i + fu) → (g_c : ∀ j : Int, 0 ≤ j → j < i → Qk j = 0) → ∀ (H : Heap) (locs : List Loc), va_P D vwCl [(q0, .inr (3, [.ref (q1), .ref (q2), .int (iI (0))])), (q1, .inl (cI, 80, .inl (iA (Qa)))), (q2, .inl (cZ, 80, .inl (iA (Qk))))] H → va_D AA [(q0, .inr (3, [.ref (q1), .ref (q2), .int (iI (0))])), (q1, .inl (cI, 80, .inl (iA (Qa)))), (q2, .inl (cZ, 80, .inl (iA (Qk))))] → va_S AA s0.heap H locs → ∀ ls : Array Slot, lv_has ls 2 [(1, .int (iI ((i : Int)))), (0, .ref (q0))] → W p0 l en0 (headSpec wsX3_clear ({ frames := 0, cells := 0, slots := 0, locals := 0 })).room s0 m0 args0 below0 meth0 c0 H locs 0 0 (QMv below0 D ((fun (u : (Int → Int) × (Int → Int) × Int) => [(q0, .inr (3, [.ref (q1), .ref (q2), .int (iI (u.2.2))])), (q1, .inl (cI, 80, .inl (iA (u.1)))), (q2, .inl (cZ, 80, .inl (iA (u.2.1))))])) (fun u : (Int → Int) × (Int → Int) × Int => isQ [] u.1 u.2.1 u.2.2) AA args0 s0 (0) (0)) (F0 m0 7 ls []) := by
    intro fu
    induction fu with
    | zero => intro i Qk g_i g_n g_c H locs hP hD hS ls hl; exfalso; omega
    | succ fu ih7 =>
      intro i Qk g_i g_n g_c H locs hP hD hS ls hl
      refine lv_iload_n hx hb dX3_clear_7 rfl (lv_at hl 0 rfl) ?_
      refine lv_bipush (v := iI (80)) hx hb dX3_clear_8 (by decide) ?_
      refine z_icmp_ge (tgt := 26) hx hb dX3_clear_10 (by decide) ⟨⟨by omega, by omega⟩, ⟨by omega, by omega⟩⟩ (fun c_1 => ?_) (fun c_1 => ?_)
      · refine z_vret ((Qa, Qk, 0)) hx hb hr hlocks dX3_clear_26 hP hD hS ?_
        exact isQ_nil (fun j h1 h2 => g_c j h1 (by omega))
      · refine lv_aload_n hx hb dX3_clear_13 rfl (lv_at hl 1 rfl) ?_
        refine va_get (D := D) (ci := 3) (v := .ref (q2)) (C := RX3) (T := TX3) (N := 3) hx hb hts (fun _ h => List.mem_cons_of_mem _ (List.mem_append_right _ (h))) hown hK.1 hP 0 rfl rfl 1 (by decide) (hts (.fieldLink RX3 15 "ForeignKeyStore$RowQueue" "known" "[Z") (List.mem_of_getElem? (i := 2) rfl)) (fun _ h9 => h9) rfl dX3_clear_14 ?_
        refine lv_iload_n hx hb dX3_clear_17 rfl (lv_at hl 0 rfl) ?_
        refine lv_iconst (v := iI (0)) hx hb dX3_clear_18 rfl ?_
        refine z_zast hx hb hK.1 hP hD hS 2 1 rfl rfl (by omega) (by decide) (by omega) dX3_clear_19 (fun H locs hP hD hS => ?_)
        have hP : va_P D vwCl [(q0, .inr (3, [.ref (q1), .ref (q2), .int (iI (0))])), (q1, .inl (cI, 80, .inl (iA (Qa)))), (q2, .inl (cZ, 80, .inl (iA (uI (Qk) ((i : Int)) (0)))))] H := hP
        have hD : va_D AA [(q0, .inr (3, [.ref (q1), .ref (q2), .int (iI (0))])), (q1, .inl (cI, 80, .inl (iA (Qa)))), (q2, .inl (cZ, 80, .inl (iA (uI (Qk) ((i : Int)) (0)))))] := hD
        refine lv_iinc (v := iI ((i : Int) + 1)) (lv' := [(1, .int (iI ((i : Int) + 1))), (0, .ref (q0))]) hx hb dX3_clear_20 hl (k := 0) rfl (iI_add ((i : Int)) (1)) (by decide) rfl (fun ls hl => ?_)
        refine lv_goto (tgt := 7) hx hb dX3_clear_23 (by decide) ?_
        exact ih7 (i + 1) _ (by omega) (by omega) (clr_s g_c) _ _ hP hD hS _ (lv_sub hl [0, 1] rfl)
  exact loop7 81 0 _ (by omega) (by omega) (fun j h1 h2 => by omega) _ _ hP hD hS _ (lv_sub hl [0, 1] rfl)

set_option maxHeartbeats 600000 in
set_option maxRecDepth 100000 in
theorem c_X3_add (l : Launch) (D : va_G) (cI cZ cC : ClassId) (sz : Nat) (q0 q1 q2 : Nat) (Qa Qk : Int → Int) (ql : Int) (Qs : List Int) (r : Int) (g_Q : isQ Qs Qa Qk ql) (g_r : 0 ≤ r ∧ r < 80) : zMv l yX3_add wsX3_add ({ frames := 0, cells := 0, slots := 0, locals := 0 }) D cI cZ cC [(q0, .inr (3, [.ref (q1), .ref (q2), .int (iI (ql))])), (q1, .inl (cI, 80, .inl (iA (Qa)))), (q2, .inl (cZ, 80, .inl (iA (Qk))))] sz [.ref (q0), .int (iI (r))] (0) (0) (fun (u : (Int → Int) × (Int → Int) × Int) => [(q0, .inr (3, [.ref (q1), .ref (q2), .int (iI (u.2.2))])), (q1, .inl (cI, 80, .inl (iA (u.1)))), (q2, .inl (cZ, 80, .inl (iA (u.2.1))))]) (fun u : (Int → Int) × (Int → Int) × Int => isQ (addL Qs r) u.1 u.2.1 u.2.2) := by
  refine z_ofMv (cc := cX3_add) (maxL := 2) (ret := none) RX3 (by decide +kernel) rfl rfl (Nat.le_of_ble_eq_true rfl) ?_
  intro p0 en0 s0 m0 args0 below0 meth0 c0 ls AA hx hb hr hlocks hnm hml hown hts hP hD hS hA hK hl
  have hl : lv_has ls 2 [(0, .ref (q0)), (1, .int (iI (r)))] := hl
  obtain ⟨H, hH⟩ : ∃ H, H = s0.heap := ⟨_, rfl⟩
  obtain ⟨locs, hlo⟩ : ∃ locs : List Loc, locs = [] := ⟨_, rfl⟩
  have hP : va_P D vwCl [(q0, .inr (3, [.ref (q1), .ref (q2), .int (iI (ql))])), (q1, .inl (cI, 80, .inl (iA (Qa)))), (q2, .inl (cZ, 80, .inl (iA (Qk))))] H := by rw [hH]; exact hP
  have hS : va_S AA s0.heap H locs := by rw [hH, hlo]; exact hS
  suffices hW : W p0 l en0 (headSpec wsX3_add ({ frames := 0, cells := 0, slots := 0, locals := 0 })).room s0 m0 args0 below0 meth0 c0 H locs 0 0 (QMv below0 D ((fun (u : (Int → Int) × (Int → Int) × Int) => [(q0, .inr (3, [.ref (q1), .ref (q2), .int (iI (u.2.2))])), (q1, .inl (cI, 80, .inl (iA (u.1)))), (q2, .inl (cZ, 80, .inl (iA (u.2.1))))])) (fun u : (Int → Int) × (Int → Int) × Int => isQ (addL Qs r) u.1 u.2.1 u.2.2) AA args0 s0 (0) (0)) (F0 m0 0 ls []) by rw [hH, hlo] at hW; exact hW
  have g_len := isQ_len g_Q
  have g_k := isQ_k g_Q
  refine lv_iload_n hx hb dX3_add_0 rfl (lv_at hl 1 rfl) ?_
  refine z_if_lt (tgt := 55) hx hb dX3_add_1 (by decide) ⟨by omega, by omega⟩ (fun c_1 => ?_) (fun c_1 => ?_)
  · exfalso
    omega
  · refine lv_iload_n hx hb dX3_add_4 rfl (lv_at hl 1 rfl) ?_
    refine lv_bipush (v := iI (80)) hx hb dX3_add_5 (by decide) ?_
    refine z_icmp_ge (tgt := 55) hx hb dX3_add_7 (by decide) ⟨⟨by omega, by omega⟩, ⟨by omega, by omega⟩⟩ (fun c_2 => ?_) (fun c_2 => ?_)
    · exfalso
      omega
    · refine lv_aload_n hx hb dX3_add_10 rfl (lv_at hl 0 rfl) ?_
      refine va_get (D := D) (ci := 3) (v := .ref (q2)) (C := RX3) (T := TX3) (N := 3) hx hb hts (fun _ h => List.mem_cons_of_mem _ (List.mem_append_right _ (h))) hown hK.1 hP 0 rfl rfl 1 (by decide) (hts (.fieldLink RX3 15 "ForeignKeyStore$RowQueue" "known" "[Z") (List.mem_of_getElem? (i := 1) rfl)) (fun _ h9 => h9) rfl dX3_add_11 ?_
      refine lv_iload_n hx hb dX3_add_14 rfl (lv_at hl 1 rfl) ?_
      refine z_zald hx hb hK.1 hP 2 1 rfl rfl (by omega) (by decide) dX3_add_15 ?_
      have hb_3 := g_k (r) (by omega) (by omega)
      refine z_if_ne (tgt := 55) hx hb dX3_add_16 (by decide) ⟨by omega, by omega⟩ (fun c_4 => ?_) (fun c_4 => ?_)
      · refine z_vret ((Qa, Qk, ql)) hx hb hr hlocks dX3_add_55 hP hD hS ?_
        exact isQ_in g_Q g_r.1 g_r.2 (by omega)
      · refine lv_aload_n hx hb dX3_add_19 rfl (lv_at hl 0 rfl) ?_
        refine va_get (D := D) (ci := 3) (v := .int (iI (ql))) (C := RX3) (T := TX3) (N := 3) hx hb hts (fun _ h => List.mem_cons_of_mem _ (List.mem_append_right _ (h))) hown hK.1 hP 0 rfl rfl 2 (by decide) (hts (.fieldLink RX3 19 "ForeignKeyStore$RowQueue" "length" "I") (List.mem_of_getElem? (i := 2) rfl)) (fun _ h9 => h9) rfl dX3_add_20 ?_
        refine lv_bipush (v := iI (80)) hx hb dX3_add_23 (by decide) ?_
        refine z_icmp_ge (tgt := 55) hx hb dX3_add_25 (by decide) ⟨⟨by omega, by omega⟩, ⟨by omega, by omega⟩⟩ (fun c_5 => ?_) (fun c_5 => ?_)
        · exfalso
          have h1 := isQ_lt g_Q g_r.1 g_r.2 (isQ_out g_Q g_r.1 g_r.2 (by omega)); omega
        · refine lv_aload_n hx hb dX3_add_28 rfl (lv_at hl 0 rfl) ?_
          refine va_get (D := D) (ci := 3) (v := .ref (q2)) (C := RX3) (T := TX3) (N := 3) hx hb hts (fun _ h => List.mem_cons_of_mem _ (List.mem_append_right _ (h))) hown hK.1 hP 0 rfl rfl 1 (by decide) (hts (.fieldLink RX3 15 "ForeignKeyStore$RowQueue" "known" "[Z") (List.mem_of_getElem? (i := 1) rfl)) (fun _ h9 => h9) rfl dX3_add_29 ?_
          refine lv_iload_n hx hb dX3_add_32 rfl (lv_at hl 1 rfl) ?_
          refine lv_iconst (v := iI (1)) hx hb dX3_add_33 rfl ?_
          refine z_zast hx hb hK.1 hP hD hS 2 1 rfl rfl (by omega) (by decide) (by omega) dX3_add_34 (fun H locs hP hD hS => ?_)
          have hP : va_P D vwCl [(q0, .inr (3, [.ref (q1), .ref (q2), .int (iI (ql))])), (q1, .inl (cI, 80, .inl (iA (Qa)))), (q2, .inl (cZ, 80, .inl (iA (uI (Qk) (r) (1)))))] H := hP
          have hD : va_D AA [(q0, .inr (3, [.ref (q1), .ref (q2), .int (iI (ql))])), (q1, .inl (cI, 80, .inl (iA (Qa)))), (q2, .inl (cZ, 80, .inl (iA (uI (Qk) (r) (1)))))] := hD
          refine lv_aload_n hx hb dX3_add_35 rfl (lv_at hl 0 rfl) ?_
          refine va_get (D := D) (ci := 3) (v := .ref (q1)) (C := RX3) (T := TX3) (N := 3) hx hb hts (fun _ h => List.mem_cons_of_mem _ (List.mem_append_right _ (h))) hown hK.1 hP 0 rfl rfl 0 (by decide) (hts (.fieldLink RX3 9 "ForeignKeyStore$RowQueue" "queue" "[I") (List.mem_of_getElem? (i := 3) rfl)) (fun _ h9 => h9) rfl dX3_add_36 ?_
          refine lv_aload_n hx hb dX3_add_39 rfl (lv_at hl 0 rfl) ?_
          refine va_get (D := D) (ci := 3) (v := .int (iI (ql))) (C := RX3) (T := TX3) (N := 3) hx hb hts (fun _ h => List.mem_cons_of_mem _ (List.mem_append_right _ (h))) hown hK.1 hP 0 rfl rfl 2 (by decide) (hts (.fieldLink RX3 19 "ForeignKeyStore$RowQueue" "length" "I") (List.mem_of_getElem? (i := 2) rfl)) (fun _ h9 => h9) rfl dX3_add_40 ?_
          refine lv_iload_n hx hb dX3_add_43 rfl (lv_at hl 1 rfl) ?_
          refine z_iast hx hb hK.1 hP hD hS 1 0 rfl rfl (by omega) (by decide) dX3_add_44 (fun H locs hP hD hS => ?_)
          have hP : va_P D vwCl [(q0, .inr (3, [.ref (q1), .ref (q2), .int (iI (ql))])), (q1, .inl (cI, 80, .inl (iA (uI (Qa) (ql) (r))))), (q2, .inl (cZ, 80, .inl (iA (uI (Qk) (r) (1)))))] H := hP
          have hD : va_D AA [(q0, .inr (3, [.ref (q1), .ref (q2), .int (iI (ql))])), (q1, .inl (cI, 80, .inl (iA (uI (Qa) (ql) (r))))), (q2, .inl (cZ, 80, .inl (iA (uI (Qk) (r) (1)))))] := hD
          refine lv_aload_n hx hb dX3_add_45 rfl (lv_at hl 0 rfl) ?_
          refine lv_dup hx hb dX3_add_46 rfl ?_
          refine va_get (D := D) (ci := 3) (v := .int (iI (ql))) (C := RX3) (T := TX3) (N := 3) hx hb hts (fun _ h => List.mem_cons_of_mem _ (List.mem_append_right _ (h))) hown hK.1 hP 0 rfl rfl 2 (by decide) (hts (.fieldLink RX3 19 "ForeignKeyStore$RowQueue" "length" "I") (List.mem_of_getElem? (i := 2) rfl)) (fun _ h9 => h9) rfl dX3_add_47 ?_
          refine lv_iconst (v := iI (1)) hx hb dX3_add_50 rfl ?_
          refine z_iadd hx hb dX3_add_51 ?_
          refine va_put (D := D) (ci := 3) (v := .int (iI ((ql + 1)))) (ty := .int) (C := RX3) (T := TX3) (N := 3) hx hb hts (fun _ h => List.mem_cons_of_mem _ (List.mem_append_right _ (h))) tyX3 tyX3_ok nmX3 hown hK.1 hP hD hS 0 rfl rfl 2 (by decide) (hts (.fieldLink RX3 19 "ForeignKeyStore$RowQueue" "length" "I") (List.mem_of_getElem? (i := 2) rfl)) (fun _ h9 => h9) rfl (by decide +kernel) rfl rfl (Nat.le_of_ble_eq_true rfl) dX3_add_52 (fun H locs hP hD hS => ?_)
          have hP : va_P D vwCl [(q0, .inr (3, [.ref (q1), .ref (q2), .int (iI ((ql + 1)))])), (q1, .inl (cI, 80, .inl (iA (uI (Qa) (ql) (r))))), (q2, .inl (cZ, 80, .inl (iA (uI (Qk) (r) (1)))))] H := hP
          have hD : va_D AA [(q0, .inr (3, [.ref (q1), .ref (q2), .int (iI ((ql + 1)))])), (q1, .inl (cI, 80, .inl (iA (uI (Qa) (ql) (r))))), (q2, .inl (cZ, 80, .inl (iA (uI (Qk) (r) (1)))))] := hD
          refine z_vret ((uI (Qa) (ql) (r), uI (Qk) (r) (1), (ql + 1))) hx hb hr hlocks dX3_add_55 hP hD hS ?_
          exact isQ_add g_Q g_r.1 g_r.2 (by omega)

set_option maxHeartbeats 600000 in
set_option maxRecDepth 100000 in
theorem c_X3_length (l : Launch) (D : va_G) (cI cZ cC : ClassId) (q0 q1 q2 : Nat) (ql : Int) : zRo l yX3_length wsX3_length ({ frames := 0, cells := 0, slots := 0, locals := 0 }) D cI cZ cC [(q0, .inr (3, [.ref (q1), .ref (q2), .int (iI (ql))]))] [.ref (q0)] (ql) := by
  refine z_ofRo (cc := cX3_length) (maxL := 1) (ret := (some .int)) RX3 (by decide +kernel) rfl rfl (Nat.le_of_ble_eq_true rfl) ?_
  intro p0 en0 s0 m0 args0 below0 meth0 c0 ls hx hb hr hlocks hml hown hts hP hK hl
  have hl : lv_has ls 1 [(0, .ref (q0))] := hl
  refine lv_aload_n hx hb dX3_length_0 rfl (lv_at hl 0 rfl) ?_
  refine va_get (D := D) (ci := 3) (v := .int (iI (ql))) (C := RX3) (T := TX3) (N := 3) hx hb hts (fun _ h => List.mem_cons_of_mem _ (List.mem_append_right _ (h))) hown hK.1 hP 0 rfl rfl 2 (by decide) (hts (.fieldLink RX3 19 "ForeignKeyStore$RowQueue" "length" "I") (List.mem_of_getElem? (i := 1) rfl)) (fun _ h9 => h9) rfl dX3_length_1 ?_
  refine z_rret hx hb hr hlocks dX3_length_4 ?_
  rfl

set_option maxHeartbeats 600000 in
set_option maxRecDepth 100000 in
theorem c_X3_rowAt (l : Launch) (D : va_G) (cI cZ cC : ClassId) (q0 q1 q2 : Nat) (Qa : Int → Int) (ql p : Int) (g_p : ib p) (g_l : 0 ≤ ql ∧ ql ≤ 80) : zRo l yX3_rowAt wsX3_rowAt ({ frames := 0, cells := 0, slots := 0, locals := 0 }) D cI cZ cC [(q0, .inr (3, [.ref (q1), .ref (q2), .int (iI (ql))])), (q1, .inl (cI, 80, .inl (iA (Qa))))] [.ref (q0), .int (iI (p))] (qAt Qa ql p) := by
  refine z_ofRo (cc := cX3_rowAt) (maxL := 2) (ret := (some .int)) RX3 (by decide +kernel) rfl rfl (Nat.le_of_ble_eq_true rfl) ?_
  intro p0 en0 s0 m0 args0 below0 meth0 c0 ls hx hb hr hlocks hml hown hts hP hK hl
  have hl : lv_has ls 2 [(0, .ref (q0)), (1, .int (iI (p)))] := hl
  refine lv_iload_n hx hb dX3_rowAt_0 rfl (lv_at hl 1 rfl) ?_
  refine z_if_lt (tgt := 27) hx hb dX3_rowAt_1 (by decide) ⟨by omega, by omega⟩ (fun c_1 => ?_) (fun c_1 => ?_)
  · refine lv_bipush (v := iI (-2)) hx hb dX3_rowAt_27 (by decide) ?_
    refine z_rret hx hb hr hlocks dX3_rowAt_29 ?_
    unfold qAt; split <;> omega
  · refine lv_iload_n hx hb dX3_rowAt_4 rfl (lv_at hl 1 rfl) ?_
    refine lv_aload_n hx hb dX3_rowAt_5 rfl (lv_at hl 0 rfl) ?_
    refine va_get (D := D) (ci := 3) (v := .int (iI (ql))) (C := RX3) (T := TX3) (N := 3) hx hb hts (fun _ h => List.mem_cons_of_mem _ (List.mem_append_right _ (h))) hown hK.1 hP 0 rfl rfl 2 (by decide) (hts (.fieldLink RX3 19 "ForeignKeyStore$RowQueue" "length" "I") (List.mem_of_getElem? (i := 1) rfl)) (fun _ h9 => h9) rfl dX3_rowAt_6 ?_
    refine z_icmp_ge (tgt := 27) hx hb dX3_rowAt_9 (by decide) ⟨⟨by omega, by omega⟩, ⟨by omega, by omega⟩⟩ (fun c_2 => ?_) (fun c_2 => ?_)
    · refine lv_bipush (v := iI (-2)) hx hb dX3_rowAt_27 (by decide) ?_
      refine z_rret hx hb hr hlocks dX3_rowAt_29 ?_
      unfold qAt; split <;> omega
    · refine lv_iload_n hx hb dX3_rowAt_12 rfl (lv_at hl 1 rfl) ?_
      refine lv_bipush (v := iI (80)) hx hb dX3_rowAt_13 (by decide) ?_
      refine z_icmp_ge (tgt := 27) hx hb dX3_rowAt_15 (by decide) ⟨⟨by omega, by omega⟩, ⟨by omega, by omega⟩⟩ (fun c_3 => ?_) (fun c_3 => ?_)
      · refine lv_bipush (v := iI (-2)) hx hb dX3_rowAt_27 (by decide) ?_
        refine z_rret hx hb hr hlocks dX3_rowAt_29 ?_
        unfold qAt; split <;> omega
      · refine lv_aload_n hx hb dX3_rowAt_18 rfl (lv_at hl 0 rfl) ?_
        refine va_get (D := D) (ci := 3) (v := .ref (q1)) (C := RX3) (T := TX3) (N := 3) hx hb hts (fun _ h => List.mem_cons_of_mem _ (List.mem_append_right _ (h))) hown hK.1 hP 0 rfl rfl 0 (by decide) (hts (.fieldLink RX3 9 "ForeignKeyStore$RowQueue" "queue" "[I") (List.mem_of_getElem? (i := 2) rfl)) (fun _ h9 => h9) rfl dX3_rowAt_19 ?_
        refine lv_iload_n hx hb dX3_rowAt_22 rfl (lv_at hl 1 rfl) ?_
        refine z_iald hx hb hK.1 hP 1 0 rfl rfl (by omega) (by decide) dX3_rowAt_23 ?_
        refine lv_goto (tgt := 29) hx hb dX3_rowAt_24 (by decide) ?_
        refine z_rret hx hb hr hlocks dX3_rowAt_29 ?_
        unfold qAt; split <;> omega

set_option maxHeartbeats 600000 in
set_option maxRecDepth 100000 in
theorem c_X2_countTo (l : Launch) (D : va_G) (cI cZ cC : ClassId) (ad : Nat → Nat) (be : Nat) (n : Int) (P V : Int → Int) (tg : Int) (g_V : ∀ j : Int, 0 ≤ j → j < 160 → -2 ≤ V j ∧ V j ≤ 19) (g_P : ∀ j : Int, 0 ≤ j → j < 8 → P j = -2 ∨ (0 ≤ P j ∧ P j < 4)) (g_tg : 0 ≤ tg ∧ tg < 80) : zRo l yX2_countTo wsX2_countTo ({ frames := 2, cells := 0, slots := 0, locals := 46 }) D cI cZ cC [(ad 8, .inr (2, [.ref (ad 1), .ref (ad 4), .ref (ad 9)])), (ad 4, .inr (0, [.ref (ad 1), .ref (ad 5), .ref (ad 6), .ref (ad 7)])), (ad 5, .inl (cI, 8, .inl (iA (P)))), (ad 1, .inr (4, [.ref (ad 2), .ref (be), .int (iI (n))])), (ad 2, .inl (cI, 160, .inl (iA (V))))] [.ref (ad 8), .int (iI (tg))] (sumN (fun k => sumN (fun i => bI (tgt P V k (k / 2 * 20 + i) = tg)) 20) 8) := by
  refine z_ofRo (cc := cX2_countTo) (maxL := 6) (ret := (some .int)) RX2 (by decide +kernel) rfl rfl (Nat.le_of_ble_eq_true rfl) ?_
  intro p0 en0 s0 m0 args0 below0 meth0 c0 ls hx hb hr hlocks hml hown hts hP hK hl
  have hl : lv_has ls 6 [(0, .ref (ad 8)), (1, .int (iI (tg)))] := hl
  refine lv_iconst (v := iI (0)) hx hb dX2_countTo_0 rfl ?_
  refine lv_istore_n (lv' := [(2, .int (iI (0))), (0, .ref (ad 8)), (1, .int (iI (tg)))]) hx hb dX2_countTo_1 rfl hl (by decide) rfl (fun ls hl => ?_)
  refine lv_iconst (v := iI (0)) hx hb dX2_countTo_2 rfl ?_
  refine lv_istore_n (lv' := [(3, .int (iI (0))), (2, .int (iI (0))), (0, .ref (ad 8)), (1, .int (iI (tg)))]) hx hb dX2_countTo_3 rfl hl (by decide) rfl (fun ls hl => ?_)
  have loop4 : ∀ (fu : Nat) (k : Nat) (cnt : Int), (g_i : k ≤ 8) → (g_n : 8 < k + fu) → (g_c : cnt = sumN (fun k => sumN (fun i => bI (tgt P V k (k / 2 * 20 + i) = tg)) 20) k) → ∀ ls : Array Slot, lv_has ls 6 [(3, .int (iI ((k : Int)))), (2, .int (iI (cnt))), (0, .ref (ad 8)), (1, .int (iI (tg)))] → W p0 l en0 (headSpec wsX2_countTo ({ frames := 2, cells := 0, slots := 0, locals := 46 })).room s0 m0 args0 below0 meth0 c0 s0.heap [] 0 0 (QRo below0 (sumN (fun k => sumN (fun i => bI (tgt P V k (k / 2 * 20 + i) = tg)) 20) 8) args0 s0) (F0 m0 4 ls []) := by
    intro fu
    induction fu with
    | zero => intro k cnt g_i g_n g_c ls hl; exfalso; omega
    | succ fu ih4 =>
      intro k cnt g_i g_n g_c ls hl
      refine lv_iload_n hx hb dX2_countTo_4 rfl (lv_at hl 0 rfl) ?_
      refine lv_bipush (v := iI (8)) hx hb dX2_countTo_5 (by decide) ?_
      refine z_icmp_ge (tgt := 60) hx hb dX2_countTo_7 (by decide) ⟨⟨by omega, by omega⟩, ⟨by omega, by omega⟩⟩ (fun c_1 => ?_) (fun c_1 => ?_)
      · refine lv_iload_n hx hb dX2_countTo_60 rfl (lv_at hl 1 rfl) ?_
        refine z_rret hx hb hr hlocks dX2_countTo_61 ?_
        rw [g_c]; congr 1; omega
      · refine lv_iconst (v := iI (0)) hx hb dX2_countTo_10 rfl ?_
        refine lv_istore (lv' := [(4, .int (iI (0))), (3, .int (iI ((k : Int)))), (2, .int (iI (cnt))), (0, .ref (ad 8)), (1, .int (iI (tg)))]) hx hb dX2_countTo_11 hl (by decide) rfl (fun ls hl => ?_)
        have loop13 : ∀ (fu : Nat) (i : Nat) (cn2 : Int), (g_i2 : i ≤ 20) → (g_n2 : 20 < i + fu) → (g_d : cn2 = cnt + sumN (fun i => bI (tgt P V k (k / 2 * 20 + i) = tg)) i) → ∀ ls : Array Slot, lv_has ls 6 [(4, .int (iI ((i : Int)))), (3, .int (iI ((k : Int)))), (2, .int (iI (cn2))), (0, .ref (ad 8)), (1, .int (iI (tg)))] → W p0 l en0 (headSpec wsX2_countTo ({ frames := 2, cells := 0, slots := 0, locals := 46 })).room s0 m0 args0 below0 meth0 c0 s0.heap [] 0 0 (QRo below0 (sumN (fun k => sumN (fun i => bI (tgt P V k (k / 2 * 20 + i) = tg)) 20) 8) args0 s0) (F0 m0 13 ls []) := by
          intro fu
          induction fu with
          | zero => intro i cn2 g_i2 g_n2 g_d ls hl; exfalso; omega
          | succ fu ih13 =>
            intro i cn2 g_i2 g_n2 g_d ls hl
            refine lv_iload hx hb dX2_countTo_13 (lv_at hl 0 rfl) ?_
            refine lv_bipush (v := iI (20)) hx hb dX2_countTo_15 (by decide) ?_
            refine z_icmp_ge (tgt := 54) hx hb dX2_countTo_17 (by decide) ⟨⟨by omega, by omega⟩, ⟨by omega, by omega⟩⟩ (fun c_2 => ?_) (fun c_2 => ?_)
            · refine lv_iinc (v := iI ((k : Int) + 1)) (lv' := [(3, .int (iI ((k : Int) + 1))), (4, .int (iI ((i : Int)))), (2, .int (iI (cn2))), (0, .ref (ad 8)), (1, .int (iI (tg)))]) hx hb dX2_countTo_54 hl (k := 1) rfl (iI_add ((k : Int)) (1)) (by decide) rfl (fun ls hl => ?_)
              refine lv_goto (tgt := 4) hx hb dX2_countTo_57 (by decide) ?_
              exact ih4 (k + 1) _ (by omega) (by omega) (by rw [sumN, ← g_c, g_d, show i = 20 by omega]) _ (lv_sub hl [0, 2, 3, 4] rfl)
            · refine lv_iload_n hx hb dX2_countTo_20 rfl (lv_at hl 1 rfl) ?_
              refine z_roN (As := [.int (iI ((k : Int)))]) (rest := []) ⟨hx, hb, hml, hown, hts⟩ (c_X7_tableOfConstraint l D cI cZ cC ((k : Int)) (by first | assumption | omega)) ⟨va_cnB (host := RX7) 1 hts gX2_countTo_X7_tableOfConstraint_n26 rfl rfl rfl (hK.2 _ (List.mem_of_getElem? (i := 13) rfl)) (hts (.initialized RX7) (List.mem_of_getElem? (i := 3) rfl)) (by decide +kernel) ⟨Nat.le_of_ble_eq_true rfl, Nat.le_of_ble_eq_true rfl⟩, (hts (.static yX7_tableOfConstraint) (List.mem_of_getElem? (i := 2) rfl)), trivial⟩ hP hK [] rfl rfl hl.1 rfl (Nat.le_of_ble_eq_true rfl) dX2_countTo_21 ⟨by omega, by omega⟩ ?_
              refine lv_iload hx hb dX2_countTo_24 (lv_at hl 0 rfl) ?_
              refine z_roN (As := [.int (iI ((((k : Int)) / 2))), .int (iI ((i : Int)))]) (rest := []) ⟨hx, hb, hml, hown, hts⟩ (c_X7_rowNumber l D cI cZ cC ((((k : Int)) / 2)) ((i : Int)) ) ⟨va_cnB (host := RX7) 2 hts gX2_countTo_X7_rowNumber_n30 rfl rfl rfl (hK.2 _ (List.mem_of_getElem? (i := 14) rfl)) (hts (.initialized RX7) (List.mem_of_getElem? (i := 3) rfl)) (by decide +kernel) ⟨Nat.le_of_ble_eq_true rfl, Nat.le_of_ble_eq_true rfl⟩, (hts (.static yX7_rowNumber) (List.mem_of_getElem? (i := 5) rfl)), trivial⟩ hP hK [] rfl rfl hl.1 rfl (Nat.le_of_ble_eq_true rfl) dX2_countTo_26 ⟨by omega, by omega⟩ ?_
              refine lv_istore (lv' := [(5, .int (iI ((((((k : Int)) / 2)) * 20 + ((i : Int)))))), (4, .int (iI ((i : Int)))), (3, .int (iI ((k : Int)))), (2, .int (iI (cn2))), (0, .ref (ad 8)), (1, .int (iI (tg)))]) hx hb dX2_countTo_29 hl (by decide) rfl (fun ls hl => ?_)
              refine lv_aload_n hx hb dX2_countTo_31 rfl (lv_at hl 4 rfl) ?_
              refine va_get (D := D) (ci := 2) (v := .ref (ad 4)) (C := RX2) (T := TX2) (N := 3) hx hb hts (fun _ h => List.mem_cons_of_mem _ (List.mem_append_left _ (List.mem_append_left _ (List.mem_append_right _ (h))))) hown hK.1 hP 0 rfl rfl 1 (by decide) (hts (.fieldLink RX2 22 "ForeignKeyStore$References" "constraints" "LForeignKeyStore$Constraints;") (List.mem_of_getElem? (i := 1) rfl)) (fun _ h9 => h9) rfl dX2_countTo_32 ?_
              refine lv_iload_n hx hb dX2_countTo_35 rfl (lv_at hl 2 rfl) ?_
              refine lv_iload hx hb dX2_countTo_36 (lv_at hl 0 rfl) ?_
              refine z_roV (As := [.int (iI ((k : Int))), .int (iI ((((((k : Int)) / 2)) * 20 + ((i : Int)))))]) (rest := []) ⟨hx, hb, hml, hown, hts⟩ (c_X0_targetOf l D cI cZ cC (ad) (be) (n) (P) (V) ((k : Int)) ((((((k : Int)) / 2)) * 20 + ((i : Int)))) (by first | assumption | omega) (by first | assumption | omega) (by first | assumption | omega) (by first | assumption | omega)) (cwV 2 hts gX2_countTo_X0_targetOf rfl rfl rfl (by decide +kernel) ⟨Nat.le_of_ble_eq_true rfl, Nat.le_of_ble_eq_true rfl⟩) hP hK [1, 2, 3, 4] rfl 1 0 rfl rfl rfl rfl hl.1 rfl (Nat.le_of_ble_eq_true rfl) dX2_countTo_38 ⟨by omega, by omega⟩ ?_
              have hf_3 := tgt_b g_V g_P (((k : Int))) (((((((k : Int)) / 2)) * 20 + ((i : Int)))))
              refine lv_iload_n hx hb dX2_countTo_41 rfl (lv_at hl 5 rfl) ?_
              refine z_icmp_ne (tgt := 48) hx hb dX2_countTo_42 (by decide) ⟨⟨by omega, by omega⟩, ⟨by omega, by omega⟩⟩ (fun c_4 => ?_) (fun c_4 => ?_)
              · refine lv_iinc (v := iI ((i : Int) + 1)) (lv' := [(4, .int (iI ((i : Int) + 1))), (5, .int (iI ((((((k : Int)) / 2)) * 20 + ((i : Int)))))), (3, .int (iI ((k : Int)))), (2, .int (iI (cn2))), (0, .ref (ad 8)), (1, .int (iI (tg)))]) hx hb dX2_countTo_48 hl (k := 1) rfl (iI_add ((i : Int)) (1)) (by decide) rfl (fun ls hl => ?_)
                refine lv_goto (tgt := 13) hx hb dX2_countTo_51 (by decide) ?_
                exact ih13 (i + 1) _ (by omega) (by omega) (by rw [sumN, bI_f (by omega)]; omega) _ (lv_sub hl [0, 2, 3, 4, 5] rfl)
              · refine lv_iinc (v := iI (cn2 + 1)) (lv' := [(2, .int (iI (cn2 + 1))), (5, .int (iI ((((((k : Int)) / 2)) * 20 + ((i : Int)))))), (4, .int (iI ((i : Int)))), (3, .int (iI ((k : Int)))), (0, .ref (ad 8)), (1, .int (iI (tg)))]) hx hb dX2_countTo_45 hl (k := 3) rfl (iI_add (cn2) (1)) (by decide) rfl (fun ls hl => ?_)
                refine lv_iinc (v := iI ((i : Int) + 1)) (lv' := [(4, .int (iI ((i : Int) + 1))), (2, .int (iI (cn2 + 1))), (5, .int (iI ((((((k : Int)) / 2)) * 20 + ((i : Int)))))), (3, .int (iI ((k : Int)))), (0, .ref (ad 8)), (1, .int (iI (tg)))]) hx hb dX2_countTo_48 hl (k := 2) rfl (iI_add ((i : Int)) (1)) (by decide) rfl (fun ls hl => ?_)
                refine lv_goto (tgt := 13) hx hb dX2_countTo_51 (by decide) ?_
                exact ih13 (i + 1) _ (by omega) (by omega) (by rw [sumN, bI_t (by omega)]; omega) _ (lv_sub hl [0, 3, 1, 4, 5] rfl)
        exact loop13 21 0 cnt (by omega) (by omega) (by rw [sumN]; omega) _ (lv_sub hl [0, 1, 2, 3, 4] rfl)
  exact loop4 9 0 0 (by omega) (by omega) rfl _ (lv_sub hl [0, 1, 2, 3] rfl)

set_option maxHeartbeats 600000 in
set_option maxRecDepth 100000 in
theorem c_X2_findTargets (l : Launch) (D : va_G) (cI cZ cC : ClassId) (sz : Nat) (ad : Nat → Nat) (be : Nat) (n : Int) (P V : Int → Int) (Qa Qk : Int → Int) (ql : Int) (Qs : List Int) (r : Int) (g_V : ∀ j : Int, 0 ≤ j → j < 160 → -2 ≤ V j ∧ V j ≤ 19) (g_P : ∀ j : Int, 0 ≤ j → j < 8 → P j = -2 ∨ (0 ≤ P j ∧ P j < 4)) (g_Q : isQ Qs Qa Qk ql) (g_r : 0 ≤ r ∧ r < 80) : zMv l yX2_findTargets wsX2_findTargets ({ frames := 2, cells := 0, slots := 0, locals := 46 }) D cI cZ cC [(ad 8, .inr (2, [.ref (ad 1), .ref (ad 4), .ref (ad 9)])), (ad 4, .inr (0, [.ref (ad 1), .ref (ad 5), .ref (ad 6), .ref (ad 7)])), (ad 5, .inl (cI, 8, .inl (iA (P)))), (ad 1, .inr (4, [.ref (ad 2), .ref (be), .int (iI (n))])), (ad 2, .inl (cI, 160, .inl (iA (V)))), (ad 9, .inr (3, [.ref (ad 10), .ref (ad 11), .int (iI (ql))])), (ad 10, .inl (cI, 80, .inl (iA (Qa)))), (ad 11, .inl (cZ, 80, .inl (iA (Qk))))] sz [.ref (ad 8), .int (iI (r))] (0) (0) (fun (u : (Int → Int) × (Int → Int) × Int) => [(ad 8, .inr (2, [.ref (ad 1), .ref (ad 4), .ref (ad 9)])), (ad 4, .inr (0, [.ref (ad 1), .ref (ad 5), .ref (ad 6), .ref (ad 7)])), (ad 5, .inl (cI, 8, .inl (iA (P)))), (ad 1, .inr (4, [.ref (ad 2), .ref (be), .int (iI (n))])), (ad 2, .inl (cI, 160, .inl (iA (V)))), (ad 9, .inr (3, [.ref (ad 10), .ref (ad 11), .int (iI (u.2.2))])), (ad 10, .inl (cI, 80, .inl (iA (u.1)))), (ad 11, .inl (cZ, 80, .inl (iA (u.2.1))))]) (fun u : (Int → Int) × (Int → Int) × Int => isQ (ftL P V r Qs 2) u.1 u.2.1 u.2.2) := by
  refine z_ofMv (cc := cX2_findTargets) (maxL := 5) (ret := none) RX2 (by decide +kernel) rfl rfl (Nat.le_of_ble_eq_true rfl) ?_
  intro p0 en0 s0 m0 args0 below0 meth0 c0 ls AA hx hb hr hlocks hnm hml hown hts hP hD hS hA hK hl
  have hl : lv_has ls 5 [(0, .ref (ad 8)), (1, .int (iI (r)))] := hl
  obtain ⟨H, hH⟩ : ∃ H, H = s0.heap := ⟨_, rfl⟩
  obtain ⟨locs, hlo⟩ : ∃ locs : List Loc, locs = [] := ⟨_, rfl⟩
  have hP : va_P D vwCl [(ad 8, .inr (2, [.ref (ad 1), .ref (ad 4), .ref (ad 9)])), (ad 4, .inr (0, [.ref (ad 1), .ref (ad 5), .ref (ad 6), .ref (ad 7)])), (ad 5, .inl (cI, 8, .inl (iA (P)))), (ad 1, .inr (4, [.ref (ad 2), .ref (be), .int (iI (n))])), (ad 2, .inl (cI, 160, .inl (iA (V)))), (ad 9, .inr (3, [.ref (ad 10), .ref (ad 11), .int (iI (ql))])), (ad 10, .inl (cI, 80, .inl (iA (Qa)))), (ad 11, .inl (cZ, 80, .inl (iA (Qk))))] H := by rw [hH]; exact hP
  have hS : va_S AA s0.heap H locs := by rw [hH, hlo]; exact hS
  suffices hW : W p0 l en0 (headSpec wsX2_findTargets ({ frames := 2, cells := 0, slots := 0, locals := 46 })).room s0 m0 args0 below0 meth0 c0 H locs 0 0 (QMv below0 D ((fun (u : (Int → Int) × (Int → Int) × Int) => [(ad 8, .inr (2, [.ref (ad 1), .ref (ad 4), .ref (ad 9)])), (ad 4, .inr (0, [.ref (ad 1), .ref (ad 5), .ref (ad 6), .ref (ad 7)])), (ad 5, .inl (cI, 8, .inl (iA (P)))), (ad 1, .inr (4, [.ref (ad 2), .ref (be), .int (iI (n))])), (ad 2, .inl (cI, 160, .inl (iA (V)))), (ad 9, .inr (3, [.ref (ad 10), .ref (ad 11), .int (iI (u.2.2))])), (ad 10, .inl (cI, 80, .inl (iA (u.1)))), (ad 11, .inl (cZ, 80, .inl (iA (u.2.1))))])) (fun u : (Int → Int) × (Int → Int) × Int => isQ (ftL P V r Qs 2) u.1 u.2.1 u.2.2) AA args0 s0 (0) (0)) (F0 m0 0 ls []) by rw [hH, hlo] at hW; exact hW
  refine lv_iconst (v := iI (0)) hx hb dX2_findTargets_0 rfl ?_
  refine lv_istore_n (lv' := [(2, .int (iI (0))), (0, .ref (ad 8)), (1, .int (iI (r)))]) hx hb dX2_findTargets_1 rfl hl (by decide) rfl (fun ls hl => ?_)
  have loop2 : ∀ (fu : Nat) (i : Nat) (Qa Qk : Int → Int) (ql : Int), (g_i : i ≤ 2) → (g_n : 2 < i + fu) → (g_Q : isQ (ftL P V r Qs i) Qa Qk ql) → ∀ (H : Heap) (locs : List Loc), va_P D vwCl [(ad 8, .inr (2, [.ref (ad 1), .ref (ad 4), .ref (ad 9)])), (ad 4, .inr (0, [.ref (ad 1), .ref (ad 5), .ref (ad 6), .ref (ad 7)])), (ad 5, .inl (cI, 8, .inl (iA (P)))), (ad 1, .inr (4, [.ref (ad 2), .ref (be), .int (iI (n))])), (ad 2, .inl (cI, 160, .inl (iA (V)))), (ad 9, .inr (3, [.ref (ad 10), .ref (ad 11), .int (iI (ql))])), (ad 10, .inl (cI, 80, .inl (iA (Qa)))), (ad 11, .inl (cZ, 80, .inl (iA (Qk))))] H → va_D AA [(ad 8, .inr (2, [.ref (ad 1), .ref (ad 4), .ref (ad 9)])), (ad 4, .inr (0, [.ref (ad 1), .ref (ad 5), .ref (ad 6), .ref (ad 7)])), (ad 5, .inl (cI, 8, .inl (iA (P)))), (ad 1, .inr (4, [.ref (ad 2), .ref (be), .int (iI (n))])), (ad 2, .inl (cI, 160, .inl (iA (V)))), (ad 9, .inr (3, [.ref (ad 10), .ref (ad 11), .int (iI (ql))])), (ad 10, .inl (cI, 80, .inl (iA (Qa)))), (ad 11, .inl (cZ, 80, .inl (iA (Qk))))] → va_S AA s0.heap H locs → ∀ ls : Array Slot, lv_has ls 5 [(2, .int (iI ((i : Int)))), (0, .ref (ad 8)), (1, .int (iI (r)))] → W p0 l en0 (headSpec wsX2_findTargets ({ frames := 2, cells := 0, slots := 0, locals := 46 })).room s0 m0 args0 below0 meth0 c0 H locs 0 0 (QMv below0 D ((fun (u : (Int → Int) × (Int → Int) × Int) => [(ad 8, .inr (2, [.ref (ad 1), .ref (ad 4), .ref (ad 9)])), (ad 4, .inr (0, [.ref (ad 1), .ref (ad 5), .ref (ad 6), .ref (ad 7)])), (ad 5, .inl (cI, 8, .inl (iA (P)))), (ad 1, .inr (4, [.ref (ad 2), .ref (be), .int (iI (n))])), (ad 2, .inl (cI, 160, .inl (iA (V)))), (ad 9, .inr (3, [.ref (ad 10), .ref (ad 11), .int (iI (u.2.2))])), (ad 10, .inl (cI, 80, .inl (iA (u.1)))), (ad 11, .inl (cZ, 80, .inl (iA (u.2.1))))])) (fun u : (Int → Int) × (Int → Int) × Int => isQ (ftL P V r Qs 2) u.1 u.2.1 u.2.2) AA args0 s0 (0) (0)) (F0 m0 2 ls []) := by
    intro fu
    induction fu with
    | zero => intro i Qa Qk ql g_i g_n g_Q H locs hP hD hS ls hl; exfalso; omega
    | succ fu ih2 =>
      intro i Qa Qk ql g_i g_n g_Q H locs hP hD hS ls hl
      refine lv_iload_n hx hb dX2_findTargets_2 rfl (lv_at hl 0 rfl) ?_
      refine lv_iconst (v := iI (2)) hx hb dX2_findTargets_3 rfl ?_
      refine z_icmp_ge (tgt := 54) hx hb dX2_findTargets_4 (by decide) ⟨⟨by omega, by omega⟩, ⟨by omega, by omega⟩⟩ (fun c_1 => ?_) (fun c_1 => ?_)
      · refine z_vret ((Qa, Qk, ql)) hx hb hr hlocks dX2_findTargets_54 hP hD hS ?_
        have h2 : i = 2 := by omega
        subst h2
        exact g_Q
      · refine lv_iload_n hx hb dX2_findTargets_7 rfl (lv_at hl 2 rfl) ?_
        refine z_roN (As := [.int (iI (r))]) (rest := []) ⟨hx, hb, hml, hown, hts⟩ (c_X7_tableOfRow l D cI cZ cC (r) (by first | assumption | omega)) ⟨va_cnB (host := RX7) 1 hts gX2_findTargets_X7_tableOfRow_n53 rfl rfl rfl (hK.2 _ (List.mem_of_getElem? (i := 15) rfl)) (hts (.initialized RX7) (List.mem_of_getElem? (i := 5) rfl)) (by decide +kernel) ⟨Nat.le_of_ble_eq_true rfl, Nat.le_of_ble_eq_true rfl⟩, (hts (.static yX7_tableOfRow) (List.mem_of_getElem? (i := 4) rfl)), trivial⟩ hP hK [] rfl rfl hl.1 rfl (Nat.le_of_ble_eq_true rfl) dX2_findTargets_8 ⟨by omega, by omega⟩ ?_
        refine lv_iload_n hx hb dX2_findTargets_11 rfl (lv_at hl 0 rfl) ?_
        refine z_roN (As := [.int (iI ((r / 20))), .int (iI ((i : Int)))]) (rest := []) ⟨hx, hb, hml, hown, hts⟩ (c_X7_constraintNumber l D cI cZ cC ((r / 20)) ((i : Int)) ) ⟨va_cnB (host := RX7) 2 hts gX2_findTargets_X7_constraintNumber_n56 rfl rfl rfl (hK.2 _ (List.mem_of_getElem? (i := 16) rfl)) (hts (.initialized RX7) (List.mem_of_getElem? (i := 5) rfl)) (by decide +kernel) ⟨Nat.le_of_ble_eq_true rfl, Nat.le_of_ble_eq_true rfl⟩, (hts (.static yX7_constraintNumber) (List.mem_of_getElem? (i := 7) rfl)), trivial⟩ hP hK [] rfl rfl hl.1 rfl (Nat.le_of_ble_eq_true rfl) dX2_findTargets_12 ⟨by omega, by omega⟩ ?_
        refine lv_istore_n (lv' := [(3, .int (iI ((((r / 20)) * 2 + ((i : Int)))))), (2, .int (iI ((i : Int)))), (0, .ref (ad 8)), (1, .int (iI (r)))]) hx hb dX2_findTargets_15 rfl hl (by decide) rfl (fun ls hl => ?_)
        refine lv_aload_n hx hb dX2_findTargets_16 rfl (lv_at hl 2 rfl) ?_
        refine va_get (D := D) (ci := 2) (v := .ref (ad 4)) (C := RX2) (T := TX2) (N := 3) hx hb hts (fun _ h => List.mem_cons_of_mem _ (List.mem_append_left _ (List.mem_append_left _ (List.mem_append_left _ (List.mem_append_right _ (h)))))) hown hK.1 hP 0 rfl rfl 1 (by decide) (hts (.fieldLink RX2 22 "ForeignKeyStore$References" "constraints" "LForeignKeyStore$Constraints;") (List.mem_of_getElem? (i := 1) rfl)) (fun _ h9 => h9) rfl dX2_findTargets_17 ?_
        refine lv_iload_n hx hb dX2_findTargets_20 rfl (lv_at hl 0 rfl) ?_
        refine lv_iload_n hx hb dX2_findTargets_21 rfl (lv_at hl 3 rfl) ?_
        refine z_roV (As := [.int (iI ((((r / 20)) * 2 + ((i : Int))))), .int (iI (r))]) (rest := []) ⟨hx, hb, hml, hown, hts⟩ (c_X0_targetOf l D cI cZ cC (ad) (be) (n) (P) (V) ((((r / 20)) * 2 + ((i : Int)))) (r) (by first | assumption | omega) (by first | assumption | omega) (by first | assumption | omega) (by first | assumption | omega)) (cwV 2 hts gX2_findTargets_X0_targetOf rfl rfl rfl (by decide +kernel) ⟨Nat.le_of_ble_eq_true rfl, Nat.le_of_ble_eq_true rfl⟩) hP hK [1, 2, 3, 4] rfl 1 0 rfl rfl rfl rfl hl.1 rfl (Nat.le_of_ble_eq_true rfl) dX2_findTargets_22 ⟨by omega, by omega⟩ ?_
        have hf_2 := tgt_b g_V g_P (((((r / 20)) * 2 + ((i : Int))))) (r)
        refine lv_istore (lv' := [(4, .int (iI ((tgt P V ((((r / 20)) * 2 + ((i : Int)))) r)))), (3, .int (iI ((((r / 20)) * 2 + ((i : Int)))))), (2, .int (iI ((i : Int)))), (0, .ref (ad 8)), (1, .int (iI (r)))]) hx hb dX2_findTargets_25 hl (by decide) rfl (fun ls hl => ?_)
        refine lv_aload_n hx hb dX2_findTargets_27 rfl (lv_at hl 3 rfl) ?_
        refine va_get (D := D) (ci := 2) (v := .ref (ad 1)) (C := RX2) (T := TX2) (N := 3) hx hb hts (fun _ h => List.mem_cons_of_mem _ (List.mem_append_left _ (List.mem_append_left _ (List.mem_append_left _ (List.mem_append_right _ (h)))))) hown hK.1 hP 0 rfl rfl 0 (by decide) (hts (.fieldLink RX2 18 "ForeignKeyStore$References" "rows" "LForeignKeyStore$Rows;") (List.mem_of_getElem? (i := 2) rfl)) (fun _ h9 => h9) rfl dX2_findTargets_28 ?_
        refine lv_iload hx hb dX2_findTargets_31 (lv_at hl 0 rfl) ?_
        refine z_roV (As := [.int (iI ((tgt P V ((((r / 20)) * 2 + ((i : Int)))) r)))]) (rest := []) ⟨hx, hb, hml, hown, hts⟩ (c_X4_has l D cI cZ cC (ad) (be) (n) (V) ((tgt P V ((((r / 20)) * 2 + ((i : Int)))) r)) (by first | assumption | omega) (by first | assumption | omega)) (cwV 1 hts gX2_findTargets_X4_has rfl rfl rfl (by decide +kernel) ⟨Nat.le_of_ble_eq_true rfl, Nat.le_of_ble_eq_true rfl⟩) hP hK [3, 4] rfl 3 4 rfl rfl rfl rfl hl.1 rfl (Nat.le_of_ble_eq_true rfl) dX2_findTargets_33 ⟨by omega, by omega⟩ ?_
        refine z_b_eq (tgt := 48) hx hb dX2_findTargets_36 (by decide) (fun c_3 => ?_) (fun c_3 => ?_)
        · refine lv_iinc (v := iI ((i : Int) + 1)) (lv' := [(2, .int (iI ((i : Int) + 1))), (4, .int (iI ((tgt P V ((((r / 20)) * 2 + ((i : Int)))) r)))), (3, .int (iI ((((r / 20)) * 2 + ((i : Int)))))), (0, .ref (ad 8)), (1, .int (iI (r)))]) hx hb dX2_findTargets_48 hl (k := 2) rfl (iI_add ((i : Int)) (1)) (by decide) rfl (fun ls hl => ?_)
          refine lv_goto (tgt := 2) hx hb dX2_findTargets_51 (by decide) ?_
          exact ih2 (i + 1) _ _ _ (by omega) (by omega) (by rw [ftL, addT_f c_3]; exact g_Q) _ _ hP hD hS _ (lv_sub hl [0, 3, 4] rfl)
        · refine lv_aload_n hx hb dX2_findTargets_39 rfl (lv_at hl 3 rfl) ?_
          refine va_get (D := D) (ci := 2) (v := .ref (ad 9)) (C := RX2) (T := TX2) (N := 3) hx hb hts (fun _ h => List.mem_cons_of_mem _ (List.mem_append_left _ (List.mem_append_left _ (List.mem_append_left _ (List.mem_append_right _ (h)))))) hown hK.1 hP 0 rfl rfl 2 (by decide) (hts (.fieldLink RX2 12 "ForeignKeyStore$References" "found" "LForeignKeyStore$RowQueue;") (List.mem_of_getElem? (i := 3) rfl)) (fun _ h9 => h9) rfl dX2_findTargets_40 ?_
          refine lv_iload hx hb dX2_findTargets_43 (lv_at hl 0 rfl) ?_
          refine z_mvV (As := [.int (iI ((tgt P V ((((r / 20)) * 2 + ((i : Int)))) r)))]) (rest := []) (wr := [(ad 8, .inr (2, [.ref (ad 1), .ref (ad 4), .ref (ad 9)])), (ad 4, .inr (0, [.ref (ad 1), .ref (ad 5), .ref (ad 6), .ref (ad 7)])), (ad 5, .inl (cI, 8, .inl (iA (P)))), (ad 1, .inr (4, [.ref (ad 2), .ref (be), .int (iI (n))])), (ad 2, .inl (cI, 160, .inl (iA (V))))]) (ws2 := (fun (u : (Int → Int) × (Int → Int) × Int) => [(ad 8, .inr (2, [.ref (ad 1), .ref (ad 4), .ref (ad 9)])), (ad 4, .inr (0, [.ref (ad 1), .ref (ad 5), .ref (ad 6), .ref (ad 7)])), (ad 5, .inl (cI, 8, .inl (iA (P)))), (ad 1, .inr (4, [.ref (ad 2), .ref (be), .int (iI (n))])), (ad 2, .inl (cI, 160, .inl (iA (V)))), (ad 9, .inr (3, [.ref (ad 10), .ref (ad 11), .int (iI (u.2.2))])), (ad 10, .inl (cI, 80, .inl (iA (u.1)))), (ad 11, .inl (cZ, 80, .inl (iA (u.2.1))))])) ⟨hx, hb, hml, hown, hts⟩ (c_X3_add l D cI cZ cC H.size (ad 9) (ad 10) (ad 11) (Qa) (Qk) (ql) (ftL P V r Qs i) ((tgt P V ((((r / 20)) * 2 + ((i : Int)))) r)) (by first | assumption | omega) (⟨c_3.1, c_3.2.1⟩)) (cwV 1 hts gX2_findTargets_X3_add rfl rfl rfl (by decide +kernel) ⟨Nat.le_of_ble_eq_true rfl, Nat.le_of_ble_eq_true rfl⟩) hP hD hS hA hK [5, 6, 7] [0, 1, 2, 3, 4] [0, 1, 2, 3, 4, 5, 6, 7] rfl (by decide) rfl (by decide) (by decide) (by decide) (fun _ => rfl) 5 3 rfl rfl rfl rfl hl.1 rfl (Nat.le_of_ble_eq_true rfl) dX2_findTargets_45 ⟨by omega, by omega⟩ (fun u H locs hq_4 hP hD hS => ?_)
          obtain ⟨Qa_5, Qk_6, ql_7⟩ := u
          have hP : va_P D vwCl [(ad 8, .inr (2, [.ref (ad 1), .ref (ad 4), .ref (ad 9)])), (ad 4, .inr (0, [.ref (ad 1), .ref (ad 5), .ref (ad 6), .ref (ad 7)])), (ad 5, .inl (cI, 8, .inl (iA (P)))), (ad 1, .inr (4, [.ref (ad 2), .ref (be), .int (iI (n))])), (ad 2, .inl (cI, 160, .inl (iA (V)))), (ad 9, .inr (3, [.ref (ad 10), .ref (ad 11), .int (iI (ql_7))])), (ad 10, .inl (cI, 80, .inl (iA (Qa_5)))), (ad 11, .inl (cZ, 80, .inl (iA (Qk_6))))] H := hP
          have hD : va_D AA [(ad 8, .inr (2, [.ref (ad 1), .ref (ad 4), .ref (ad 9)])), (ad 4, .inr (0, [.ref (ad 1), .ref (ad 5), .ref (ad 6), .ref (ad 7)])), (ad 5, .inl (cI, 8, .inl (iA (P)))), (ad 1, .inr (4, [.ref (ad 2), .ref (be), .int (iI (n))])), (ad 2, .inl (cI, 160, .inl (iA (V)))), (ad 9, .inr (3, [.ref (ad 10), .ref (ad 11), .int (iI (ql_7))])), (ad 10, .inl (cI, 80, .inl (iA (Qa_5)))), (ad 11, .inl (cZ, 80, .inl (iA (Qk_6))))] := hD
          try dsimp only at hq_4
          refine lv_iinc (v := iI ((i : Int) + 1)) (lv' := [(2, .int (iI ((i : Int) + 1))), (4, .int (iI ((tgt P V ((((r / 20)) * 2 + ((i : Int)))) r)))), (3, .int (iI ((((r / 20)) * 2 + ((i : Int)))))), (0, .ref (ad 8)), (1, .int (iI (r)))]) hx hb dX2_findTargets_48 hl (k := 2) rfl (iI_add ((i : Int)) (1)) (by decide) rfl (fun ls hl => ?_)
          refine lv_goto (tgt := 2) hx hb dX2_findTargets_51 (by decide) ?_
          exact ih2 (i + 1) _ _ _ (by omega) (by omega) (by rw [ftL, addT_t c_3]; exact hq_4) _ _ hP hD hS _ (lv_sub hl [0, 3, 4] rfl)
  exact loop2 3 0 _ _ _ (by omega) (by omega) g_Q _ _ hP hD hS _ (lv_sub hl [0, 1, 2] rfl)

set_option maxHeartbeats 600000 in
set_option maxRecDepth 100000 in
theorem c_X2_countAncestors (l : Launch) (D : va_G) (cI cZ cC : ClassId) (sz : Nat) (ad : Nat → Nat) (be : Nat) (n : Int) (P V : Int → Int) (Qa Qk : Int → Int) (ql : Int) (r : Int) (g_V : ∀ j : Int, 0 ≤ j → j < 160 → -2 ≤ V j ∧ V j ≤ 19) (g_P : ∀ j : Int, 0 ≤ j → j < 8 → P j = -2 ∨ (0 ≤ P j ∧ P j < 4)) (g_r : 0 ≤ r ∧ r < 80) : zMi l yX2_countAncestors wsX2_countAncestors ({ frames := 3, cells := 0, slots := 0, locals := 70 }) D cI cZ cC [(ad 8, .inr (2, [.ref (ad 1), .ref (ad 4), .ref (ad 9)])), (ad 4, .inr (0, [.ref (ad 1), .ref (ad 5), .ref (ad 6), .ref (ad 7)])), (ad 5, .inl (cI, 8, .inl (iA (P)))), (ad 1, .inr (4, [.ref (ad 2), .ref (be), .int (iI (n))])), (ad 2, .inl (cI, 160, .inl (iA (V)))), (ad 9, .inr (3, [.ref (ad 10), .ref (ad 11), .int (iI (ql))])), (ad 10, .inl (cI, 80, .inl (iA (Qa)))), (ad 11, .inl (cZ, 80, .inl (iA (Qk))))] sz [.ref (ad 8), .int (iI (r))] (0) (0) (fun (u : (Int → Int) × (Int → Int) × Int) => [(ad 8, .inr (2, [.ref (ad 1), .ref (ad 4), .ref (ad 9)])), (ad 4, .inr (0, [.ref (ad 1), .ref (ad 5), .ref (ad 6), .ref (ad 7)])), (ad 5, .inl (cI, 8, .inl (iA (P)))), (ad 1, .inr (4, [.ref (ad 2), .ref (be), .int (iI (n))])), (ad 2, .inl (cI, 160, .inl (iA (V)))), (ad 9, .inr (3, [.ref (ad 10), .ref (ad 11), .int (iI (u.2.2))])), (ad 10, .inl (cI, 80, .inl (iA (u.1)))), (ad 11, .inl (cZ, 80, .inl (iA (u.2.1))))]) (fun v (_ : (Int → Int) × (Int → Int) × Int) => v = ((bfs P V 81 0 (ftL P V r [] 2)).length : Int) ∧ True) := by
  refine z_ofMi (cc := cX2_countAncestors) (maxL := 3) (ret := (some .int)) RX2 (by decide +kernel) rfl rfl (Nat.le_of_ble_eq_true rfl) ?_
  intro p0 en0 s0 m0 args0 below0 meth0 c0 ls AA hx hb hr hlocks hml hown hts hP hD hS hA hK hl
  have hl : lv_has ls 3 [(0, .ref (ad 8)), (1, .int (iI (r)))] := hl
  obtain ⟨H, hH⟩ : ∃ H, H = s0.heap := ⟨_, rfl⟩
  obtain ⟨locs, hlo⟩ : ∃ locs : List Loc, locs = [] := ⟨_, rfl⟩
  have hP : va_P D vwCl [(ad 8, .inr (2, [.ref (ad 1), .ref (ad 4), .ref (ad 9)])), (ad 4, .inr (0, [.ref (ad 1), .ref (ad 5), .ref (ad 6), .ref (ad 7)])), (ad 5, .inl (cI, 8, .inl (iA (P)))), (ad 1, .inr (4, [.ref (ad 2), .ref (be), .int (iI (n))])), (ad 2, .inl (cI, 160, .inl (iA (V)))), (ad 9, .inr (3, [.ref (ad 10), .ref (ad 11), .int (iI (ql))])), (ad 10, .inl (cI, 80, .inl (iA (Qa)))), (ad 11, .inl (cZ, 80, .inl (iA (Qk))))] H := by rw [hH]; exact hP
  have hS : va_S AA s0.heap H locs := by rw [hH, hlo]; exact hS
  suffices hW : W p0 l en0 (headSpec wsX2_countAncestors ({ frames := 3, cells := 0, slots := 0, locals := 70 })).room s0 m0 args0 below0 meth0 c0 H locs 0 0 (QMi below0 D ((fun (u : (Int → Int) × (Int → Int) × Int) => [(ad 8, .inr (2, [.ref (ad 1), .ref (ad 4), .ref (ad 9)])), (ad 4, .inr (0, [.ref (ad 1), .ref (ad 5), .ref (ad 6), .ref (ad 7)])), (ad 5, .inl (cI, 8, .inl (iA (P)))), (ad 1, .inr (4, [.ref (ad 2), .ref (be), .int (iI (n))])), (ad 2, .inl (cI, 160, .inl (iA (V)))), (ad 9, .inr (3, [.ref (ad 10), .ref (ad 11), .int (iI (u.2.2))])), (ad 10, .inl (cI, 80, .inl (iA (u.1)))), (ad 11, .inl (cZ, 80, .inl (iA (u.2.1))))])) (fun v (_ : (Int → Int) × (Int → Int) × Int) => v = ((bfs P V 81 0 (ftL P V r [] 2)).length : Int) ∧ True) AA args0 s0 (0) (0)) (F0 m0 0 ls []) by rw [hH, hlo] at hW; exact hW
  refine lv_aload_n hx hb dX2_countAncestors_0 rfl (lv_at hl 0 rfl) ?_
  refine va_get (D := D) (ci := 2) (v := .ref (ad 9)) (C := RX2) (T := TX2) (N := 3) hx hb hts (fun _ h => List.mem_cons_of_mem _ (List.mem_append_left _ (List.mem_append_left _ (List.mem_append_left _ (List.mem_append_right _ (h)))))) hown hK.1 hP 0 rfl rfl 2 (by decide) (hts (.fieldLink RX2 12 "ForeignKeyStore$References" "found" "LForeignKeyStore$RowQueue;") (List.mem_of_getElem? (i := 1) rfl)) (fun _ h9 => h9) rfl dX2_countAncestors_1 ?_
  refine z_mvV (As := []) (rest := []) (wr := [(ad 8, .inr (2, [.ref (ad 1), .ref (ad 4), .ref (ad 9)])), (ad 4, .inr (0, [.ref (ad 1), .ref (ad 5), .ref (ad 6), .ref (ad 7)])), (ad 5, .inl (cI, 8, .inl (iA (P)))), (ad 1, .inr (4, [.ref (ad 2), .ref (be), .int (iI (n))])), (ad 2, .inl (cI, 160, .inl (iA (V))))]) (ws2 := (fun (u : (Int → Int) × (Int → Int) × Int) => [(ad 8, .inr (2, [.ref (ad 1), .ref (ad 4), .ref (ad 9)])), (ad 4, .inr (0, [.ref (ad 1), .ref (ad 5), .ref (ad 6), .ref (ad 7)])), (ad 5, .inl (cI, 8, .inl (iA (P)))), (ad 1, .inr (4, [.ref (ad 2), .ref (be), .int (iI (n))])), (ad 2, .inl (cI, 160, .inl (iA (V)))), (ad 9, .inr (3, [.ref (ad 10), .ref (ad 11), .int (iI (u.2.2))])), (ad 10, .inl (cI, 80, .inl (iA (u.1)))), (ad 11, .inl (cZ, 80, .inl (iA (u.2.1))))])) ⟨hx, hb, hml, hown, hts⟩ (c_X3_clear l D cI cZ cC H.size (ad 9) (ad 10) (ad 11) (Qa) (Qk) (ql) ) (cwV 0 hts gX2_countAncestors_X3_clear rfl rfl rfl (by decide +kernel) ⟨Nat.le_of_ble_eq_true rfl, Nat.le_of_ble_eq_true rfl⟩) hP hD hS hA hK [5, 6, 7] [0, 1, 2, 3, 4] [0, 1, 2, 3, 4, 5, 6, 7] rfl (by decide) rfl (by decide) (by decide) (by decide) (fun _ => rfl) 5 3 rfl rfl rfl rfl hl.1 rfl (Nat.le_of_ble_eq_true rfl) dX2_countAncestors_4 ⟨by omega, by omega⟩ (fun u H locs hq_1 hP hD hS => ?_)
  obtain ⟨Qa_2, Qk_3, ql_4⟩ := u
  have hP : va_P D vwCl [(ad 8, .inr (2, [.ref (ad 1), .ref (ad 4), .ref (ad 9)])), (ad 4, .inr (0, [.ref (ad 1), .ref (ad 5), .ref (ad 6), .ref (ad 7)])), (ad 5, .inl (cI, 8, .inl (iA (P)))), (ad 1, .inr (4, [.ref (ad 2), .ref (be), .int (iI (n))])), (ad 2, .inl (cI, 160, .inl (iA (V)))), (ad 9, .inr (3, [.ref (ad 10), .ref (ad 11), .int (iI (ql_4))])), (ad 10, .inl (cI, 80, .inl (iA (Qa_2)))), (ad 11, .inl (cZ, 80, .inl (iA (Qk_3))))] H := hP
  have hD : va_D AA [(ad 8, .inr (2, [.ref (ad 1), .ref (ad 4), .ref (ad 9)])), (ad 4, .inr (0, [.ref (ad 1), .ref (ad 5), .ref (ad 6), .ref (ad 7)])), (ad 5, .inl (cI, 8, .inl (iA (P)))), (ad 1, .inr (4, [.ref (ad 2), .ref (be), .int (iI (n))])), (ad 2, .inl (cI, 160, .inl (iA (V)))), (ad 9, .inr (3, [.ref (ad 10), .ref (ad 11), .int (iI (ql_4))])), (ad 10, .inl (cI, 80, .inl (iA (Qa_2)))), (ad 11, .inl (cZ, 80, .inl (iA (Qk_3))))] := hD
  try dsimp only at hq_1
  refine lv_aload_n hx hb dX2_countAncestors_7 rfl (lv_at hl 0 rfl) ?_
  refine lv_iload_n hx hb dX2_countAncestors_8 rfl (lv_at hl 1 rfl) ?_
  refine z_mvV (As := [.int (iI (r))]) (rest := []) (wr := []) (ws2 := (fun (u : (Int → Int) × (Int → Int) × Int) => [(ad 8, .inr (2, [.ref (ad 1), .ref (ad 4), .ref (ad 9)])), (ad 4, .inr (0, [.ref (ad 1), .ref (ad 5), .ref (ad 6), .ref (ad 7)])), (ad 5, .inl (cI, 8, .inl (iA (P)))), (ad 1, .inr (4, [.ref (ad 2), .ref (be), .int (iI (n))])), (ad 2, .inl (cI, 160, .inl (iA (V)))), (ad 9, .inr (3, [.ref (ad 10), .ref (ad 11), .int (iI (u.2.2))])), (ad 10, .inl (cI, 80, .inl (iA (u.1)))), (ad 11, .inl (cZ, 80, .inl (iA (u.2.1))))])) ⟨hx, hb, hml, hown, hts⟩ (c_X2_findTargets l D cI cZ cC H.size (ad) (be) (n) (P) (V) (Qa_2) (Qk_3) (ql_4) ([]) (r) (by first | assumption | omega) (by first | assumption | omega) (by first | assumption | omega) (by first | assumption | omega)) (cwV 1 hts gX2_countAncestors_X2_findTargets rfl rfl rfl (by decide +kernel) ⟨Nat.le_of_ble_eq_true rfl, Nat.le_of_ble_eq_true rfl⟩) hP hD hS hA hK [0, 1, 2, 3, 4, 5, 6, 7] [] [0, 1, 2, 3, 4, 5, 6, 7] rfl (by decide) rfl (by decide) (by decide) (by decide) (fun _ => rfl) 0 2 rfl rfl rfl rfl hl.1 rfl (Nat.le_of_ble_eq_true rfl) dX2_countAncestors_9 ⟨by omega, by omega⟩ (fun u H locs hq_5 hP hD hS => ?_)
  obtain ⟨Qa_6, Qk_7, ql_8⟩ := u
  have hP : va_P D vwCl [(ad 8, .inr (2, [.ref (ad 1), .ref (ad 4), .ref (ad 9)])), (ad 4, .inr (0, [.ref (ad 1), .ref (ad 5), .ref (ad 6), .ref (ad 7)])), (ad 5, .inl (cI, 8, .inl (iA (P)))), (ad 1, .inr (4, [.ref (ad 2), .ref (be), .int (iI (n))])), (ad 2, .inl (cI, 160, .inl (iA (V)))), (ad 9, .inr (3, [.ref (ad 10), .ref (ad 11), .int (iI (ql_8))])), (ad 10, .inl (cI, 80, .inl (iA (Qa_6)))), (ad 11, .inl (cZ, 80, .inl (iA (Qk_7))))] H := hP
  have hD : va_D AA [(ad 8, .inr (2, [.ref (ad 1), .ref (ad 4), .ref (ad 9)])), (ad 4, .inr (0, [.ref (ad 1), .ref (ad 5), .ref (ad 6), .ref (ad 7)])), (ad 5, .inl (cI, 8, .inl (iA (P)))), (ad 1, .inr (4, [.ref (ad 2), .ref (be), .int (iI (n))])), (ad 2, .inl (cI, 160, .inl (iA (V)))), (ad 9, .inr (3, [.ref (ad 10), .ref (ad 11), .int (iI (ql_8))])), (ad 10, .inl (cI, 80, .inl (iA (Qa_6)))), (ad 11, .inl (cZ, 80, .inl (iA (Qk_7))))] := hD
  try dsimp only at hq_5
  refine lv_iconst (v := iI (0)) hx hb dX2_countAncestors_12 rfl ?_
  refine lv_istore_n (lv' := [(2, .int (iI (0))), (0, .ref (ad 8)), (1, .int (iI (r)))]) hx hb dX2_countAncestors_13 rfl hl (by decide) rfl (fun ls hl => ?_)
  have loop14 : ∀ (fu : Nat) (i : Nat) (Qs : List Int) (Qa Qk : Int → Int) (ql : Int), (g_i : i ≤ 80) → (g_n : 80 < i + fu) → (g_Q : isQ Qs Qa Qk ql) → (g_c : bfs P V 81 0 (ftL P V r [] 2) = bfs P V (81 - i) i Qs) → ∀ (H : Heap) (locs : List Loc), va_P D vwCl [(ad 8, .inr (2, [.ref (ad 1), .ref (ad 4), .ref (ad 9)])), (ad 4, .inr (0, [.ref (ad 1), .ref (ad 5), .ref (ad 6), .ref (ad 7)])), (ad 5, .inl (cI, 8, .inl (iA (P)))), (ad 1, .inr (4, [.ref (ad 2), .ref (be), .int (iI (n))])), (ad 2, .inl (cI, 160, .inl (iA (V)))), (ad 9, .inr (3, [.ref (ad 10), .ref (ad 11), .int (iI (ql))])), (ad 10, .inl (cI, 80, .inl (iA (Qa)))), (ad 11, .inl (cZ, 80, .inl (iA (Qk))))] H → va_D AA [(ad 8, .inr (2, [.ref (ad 1), .ref (ad 4), .ref (ad 9)])), (ad 4, .inr (0, [.ref (ad 1), .ref (ad 5), .ref (ad 6), .ref (ad 7)])), (ad 5, .inl (cI, 8, .inl (iA (P)))), (ad 1, .inr (4, [.ref (ad 2), .ref (be), .int (iI (n))])), (ad 2, .inl (cI, 160, .inl (iA (V)))), (ad 9, .inr (3, [.ref (ad 10), .ref (ad 11), .int (iI (ql))])), (ad 10, .inl (cI, 80, .inl (iA (Qa)))), (ad 11, .inl (cZ, 80, .inl (iA (Qk))))] → va_S AA s0.heap H locs → ∀ ls : Array Slot, lv_has ls 3 [(2, .int (iI ((i : Int)))), (0, .ref (ad 8)), (1, .int (iI (r)))] → W p0 l en0 (headSpec wsX2_countAncestors ({ frames := 3, cells := 0, slots := 0, locals := 70 })).room s0 m0 args0 below0 meth0 c0 H locs 0 0 (QMi below0 D ((fun (u : (Int → Int) × (Int → Int) × Int) => [(ad 8, .inr (2, [.ref (ad 1), .ref (ad 4), .ref (ad 9)])), (ad 4, .inr (0, [.ref (ad 1), .ref (ad 5), .ref (ad 6), .ref (ad 7)])), (ad 5, .inl (cI, 8, .inl (iA (P)))), (ad 1, .inr (4, [.ref (ad 2), .ref (be), .int (iI (n))])), (ad 2, .inl (cI, 160, .inl (iA (V)))), (ad 9, .inr (3, [.ref (ad 10), .ref (ad 11), .int (iI (u.2.2))])), (ad 10, .inl (cI, 80, .inl (iA (u.1)))), (ad 11, .inl (cZ, 80, .inl (iA (u.2.1))))])) (fun v (_ : (Int → Int) × (Int → Int) × Int) => v = ((bfs P V 81 0 (ftL P V r [] 2)).length : Int) ∧ True) AA args0 s0 (0) (0)) (F0 m0 14 ls []) := by
    intro fu
    induction fu with
    | zero => intro i Qs Qa Qk ql g_i g_n g_Q g_c H locs hP hD hS ls hl; exfalso; omega
    | succ fu ih14 =>
      intro i Qs Qa Qk ql g_i g_n g_Q g_c H locs hP hD hS ls hl
      have g_len := isQ_len g_Q
      have e0 := g_Q.1
      refine lv_iload_n hx hb dX2_countAncestors_14 rfl (lv_at hl 0 rfl) ?_
      refine lv_aload_n hx hb dX2_countAncestors_15 rfl (lv_at hl 1 rfl) ?_
      refine va_get (D := D) (ci := 2) (v := .ref (ad 9)) (C := RX2) (T := TX2) (N := 3) hx hb hts (fun _ h => List.mem_cons_of_mem _ (List.mem_append_left _ (List.mem_append_left _ (List.mem_append_left _ (List.mem_append_right _ (h)))))) hown hK.1 hP 0 rfl rfl 2 (by decide) (hts (.fieldLink RX2 12 "ForeignKeyStore$References" "found" "LForeignKeyStore$RowQueue;") (List.mem_of_getElem? (i := 1) rfl)) (fun _ h9 => h9) rfl dX2_countAncestors_16 ?_
      refine z_roV (As := []) (rest := [.int (iI ((i : Int)))]) ⟨hx, hb, hml, hown, hts⟩ (c_X3_length l D cI cZ cC (ad 9) (ad 10) (ad 11) (ql) ) (cwV 0 hts gX2_countAncestors_X3_length rfl rfl rfl (by decide +kernel) ⟨Nat.le_of_ble_eq_true rfl, Nat.le_of_ble_eq_true rfl⟩) hP hK [5] rfl 5 3 rfl rfl rfl rfl hl.1 rfl (Nat.le_of_ble_eq_true rfl) dX2_countAncestors_19 ⟨by omega, by omega⟩ ?_
      refine z_icmp_ge (tgt := 49) hx hb dX2_countAncestors_22 (by decide) ⟨⟨by omega, by omega⟩, ⟨by omega, by omega⟩⟩ (fun c_9 => ?_) (fun c_9 => ?_)
      · refine lv_aload_n hx hb dX2_countAncestors_49 rfl (lv_at hl 1 rfl) ?_
        refine va_get (D := D) (ci := 2) (v := .ref (ad 9)) (C := RX2) (T := TX2) (N := 3) hx hb hts (fun _ h => List.mem_cons_of_mem _ (List.mem_append_left _ (List.mem_append_left _ (List.mem_append_left _ (List.mem_append_right _ (h)))))) hown hK.1 hP 0 rfl rfl 2 (by decide) (hts (.fieldLink RX2 12 "ForeignKeyStore$References" "found" "LForeignKeyStore$RowQueue;") (List.mem_of_getElem? (i := 1) rfl)) (fun _ h9 => h9) rfl dX2_countAncestors_50 ?_
        refine z_roV (As := []) (rest := []) ⟨hx, hb, hml, hown, hts⟩ (c_X3_length l D cI cZ cC (ad 9) (ad 10) (ad 11) (ql) ) (cwV 0 hts gX2_countAncestors_X3_length rfl rfl rfl (by decide +kernel) ⟨Nat.le_of_ble_eq_true rfl, Nat.le_of_ble_eq_true rfl⟩) hP hK [5] rfl 5 3 rfl rfl rfl rfl hl.1 rfl (Nat.le_of_ble_eq_true rfl) dX2_countAncestors_53 ⟨by omega, by omega⟩ ?_
        refine z_mret ((Qa, Qk, ql)) hx hb hr hlocks dX2_countAncestors_56 hP hD hS ?_
        refine ⟨?_, trivial⟩; have e0 := g_Q.1; rw [g_c, bfs_f (by omega)]; exact e0
      · refine lv_iload_n hx hb dX2_countAncestors_25 rfl (lv_at hl 0 rfl) ?_
        refine lv_bipush (v := iI (80)) hx hb dX2_countAncestors_26 (by decide) ?_
        refine z_icmp_ge (tgt := 49) hx hb dX2_countAncestors_28 (by decide) ⟨⟨by omega, by omega⟩, ⟨by omega, by omega⟩⟩ (fun c_10 => ?_) (fun c_10 => ?_)
        · refine lv_aload_n hx hb dX2_countAncestors_49 rfl (lv_at hl 1 rfl) ?_
          refine va_get (D := D) (ci := 2) (v := .ref (ad 9)) (C := RX2) (T := TX2) (N := 3) hx hb hts (fun _ h => List.mem_cons_of_mem _ (List.mem_append_left _ (List.mem_append_left _ (List.mem_append_left _ (List.mem_append_right _ (h)))))) hown hK.1 hP 0 rfl rfl 2 (by decide) (hts (.fieldLink RX2 12 "ForeignKeyStore$References" "found" "LForeignKeyStore$RowQueue;") (List.mem_of_getElem? (i := 1) rfl)) (fun _ h9 => h9) rfl dX2_countAncestors_50 ?_
          refine z_roV (As := []) (rest := []) ⟨hx, hb, hml, hown, hts⟩ (c_X3_length l D cI cZ cC (ad 9) (ad 10) (ad 11) (ql) ) (cwV 0 hts gX2_countAncestors_X3_length rfl rfl rfl (by decide +kernel) ⟨Nat.le_of_ble_eq_true rfl, Nat.le_of_ble_eq_true rfl⟩) hP hK [5] rfl 5 3 rfl rfl rfl rfl hl.1 rfl (Nat.le_of_ble_eq_true rfl) dX2_countAncestors_53 ⟨by omega, by omega⟩ ?_
          refine z_mret ((Qa, Qk, ql)) hx hb hr hlocks dX2_countAncestors_56 hP hD hS ?_
          refine ⟨?_, trivial⟩; have e0 := g_Q.1; rw [g_c, bfs_f (by omega)]; exact e0
        · refine lv_aload_n hx hb dX2_countAncestors_31 rfl (lv_at hl 1 rfl) ?_
          refine lv_aload_n hx hb dX2_countAncestors_32 rfl (lv_at hl 1 rfl) ?_
          refine va_get (D := D) (ci := 2) (v := .ref (ad 9)) (C := RX2) (T := TX2) (N := 3) hx hb hts (fun _ h => List.mem_cons_of_mem _ (List.mem_append_left _ (List.mem_append_left _ (List.mem_append_left _ (List.mem_append_right _ (h)))))) hown hK.1 hP 0 rfl rfl 2 (by decide) (hts (.fieldLink RX2 12 "ForeignKeyStore$References" "found" "LForeignKeyStore$RowQueue;") (List.mem_of_getElem? (i := 1) rfl)) (fun _ h9 => h9) rfl dX2_countAncestors_33 ?_
          refine lv_iload_n hx hb dX2_countAncestors_36 rfl (lv_at hl 0 rfl) ?_
          refine z_roV (As := [.int (iI ((i : Int)))]) (rest := [.ref (ad 8)]) ⟨hx, hb, hml, hown, hts⟩ (c_X3_rowAt l D cI cZ cC (ad 9) (ad 10) (ad 11) (Qa) (ql) ((i : Int)) (by first | assumption | omega) (by first | assumption | omega)) (cwV 1 hts gX2_countAncestors_X3_rowAt rfl rfl rfl (by decide +kernel) ⟨Nat.le_of_ble_eq_true rfl, Nat.le_of_ble_eq_true rfl⟩) hP hK [5, 6] rfl 5 3 rfl rfl rfl rfl hl.1 rfl (Nat.le_of_ble_eq_true rfl) dX2_countAncestors_37 ⟨by omega, by omega⟩ ?_
          refine z_mvV (As := [.int (iI ((qAt Qa ql ((i : Int)))))]) (rest := []) (wr := []) (ws2 := (fun (u : (Int → Int) × (Int → Int) × Int) => [(ad 8, .inr (2, [.ref (ad 1), .ref (ad 4), .ref (ad 9)])), (ad 4, .inr (0, [.ref (ad 1), .ref (ad 5), .ref (ad 6), .ref (ad 7)])), (ad 5, .inl (cI, 8, .inl (iA (P)))), (ad 1, .inr (4, [.ref (ad 2), .ref (be), .int (iI (n))])), (ad 2, .inl (cI, 160, .inl (iA (V)))), (ad 9, .inr (3, [.ref (ad 10), .ref (ad 11), .int (iI (u.2.2))])), (ad 10, .inl (cI, 80, .inl (iA (u.1)))), (ad 11, .inl (cZ, 80, .inl (iA (u.2.1))))])) ⟨hx, hb, hml, hown, hts⟩ (c_X2_findTargets l D cI cZ cC H.size (ad) (be) (n) (P) (V) (Qa) (Qk) (ql) (Qs) ((qAt Qa ql ((i : Int)))) (by first | assumption | omega) (by first | assumption | omega) (by first | assumption | omega) (by rw [qAt_i ⟨by omega, by omega, by omega⟩]; exact (isQ_at g_Q (by omega)).2)) (cwV 1 hts gX2_countAncestors_X2_findTargets rfl rfl rfl (by decide +kernel) ⟨Nat.le_of_ble_eq_true rfl, Nat.le_of_ble_eq_true rfl⟩) hP hD hS hA hK [0, 1, 2, 3, 4, 5, 6, 7] [] [0, 1, 2, 3, 4, 5, 6, 7] rfl (by decide) rfl (by decide) (by decide) (by decide) (fun _ => rfl) 0 2 rfl rfl rfl rfl hl.1 rfl (Nat.le_of_ble_eq_true rfl) dX2_countAncestors_40 ⟨by omega, by omega⟩ (fun u H locs hq_11 hP hD hS => ?_)
          obtain ⟨Qa_12, Qk_13, ql_14⟩ := u
          have hP : va_P D vwCl [(ad 8, .inr (2, [.ref (ad 1), .ref (ad 4), .ref (ad 9)])), (ad 4, .inr (0, [.ref (ad 1), .ref (ad 5), .ref (ad 6), .ref (ad 7)])), (ad 5, .inl (cI, 8, .inl (iA (P)))), (ad 1, .inr (4, [.ref (ad 2), .ref (be), .int (iI (n))])), (ad 2, .inl (cI, 160, .inl (iA (V)))), (ad 9, .inr (3, [.ref (ad 10), .ref (ad 11), .int (iI (ql_14))])), (ad 10, .inl (cI, 80, .inl (iA (Qa_12)))), (ad 11, .inl (cZ, 80, .inl (iA (Qk_13))))] H := hP
          have hD : va_D AA [(ad 8, .inr (2, [.ref (ad 1), .ref (ad 4), .ref (ad 9)])), (ad 4, .inr (0, [.ref (ad 1), .ref (ad 5), .ref (ad 6), .ref (ad 7)])), (ad 5, .inl (cI, 8, .inl (iA (P)))), (ad 1, .inr (4, [.ref (ad 2), .ref (be), .int (iI (n))])), (ad 2, .inl (cI, 160, .inl (iA (V)))), (ad 9, .inr (3, [.ref (ad 10), .ref (ad 11), .int (iI (ql_14))])), (ad 10, .inl (cI, 80, .inl (iA (Qa_12)))), (ad 11, .inl (cZ, 80, .inl (iA (Qk_13))))] := hD
          try dsimp only at hq_11
          refine lv_iinc (v := iI ((i : Int) + 1)) (lv' := [(2, .int (iI ((i : Int) + 1))), (0, .ref (ad 8)), (1, .int (iI (r)))]) hx hb dX2_countAncestors_43 hl (k := 0) rfl (iI_add ((i : Int)) (1)) (by decide) rfl (fun ls hl => ?_)
          refine lv_goto (tgt := 14) hx hb dX2_countAncestors_46 (by decide) ?_
          exact ih14 (i + 1) _ _ _ _ (by omega) (by omega) hq_11 (by rw [g_c, show 81 - i = (81 - (i + 1)) + 1 by omega, bfs_t (by omega), qAt_i ⟨by omega, by omega, by omega⟩, (isQ_at g_Q (by omega)).1]) _ _ hP hD hS _ (lv_sub hl [0, 1, 2] rfl)
  exact loop14 81 0 _ _ _ _ (by omega) (by omega) hq_5 rfl _ _ hP hD hS _ (lv_sub hl [0, 1, 2] rfl)

set_option maxHeartbeats 600000 in
set_option maxRecDepth 100000 in
theorem c_X4_write (l : Launch) (D : va_G) (cI cZ cC : ClassId) (sz : Nat) (ad : Nat → Nat) (be Ln : Nat) (n : Int) (V B : Int → Int) (r a b : Int) (g_V : ∀ j : Int, 0 ≤ j → j < 160 → -2 ≤ V j ∧ V j ≤ 19) (g_r : 0 ≤ r ∧ r < 80) (g_n : 0 ≤ n ∧ n < (Ln : Int) ∧ Ln < 2147483648) : zMv l yX4_write wsX4_write ({ frames := 0, cells := 0, slots := 0, locals := 0 }) D cI cZ cC [(ad 1, .inr (4, [.ref (ad 2), .ref (be), .int (iI (n))])), (ad 2, .inl (cI, 160, .inl (iA (V)))), (be, .inl (cI, Ln, .inl (iA (B))))] sz [.ref (ad 1), .int (iI (r)), .int (iI (a)), .int (iI (b))] (0) (0) (fun (u : Unit) => [(ad 1, .inr (4, [.ref (ad 2), .ref (be), .int (iI (n + 1))])), (ad 2, .inl (cI, 160, .inl (iA (wrV V r a b)))), (be, .inl (cI, Ln, .inl (iA (wrB B n r V))))]) (fun _ => True) := by
  refine z_ofMv (cc := cX4_write) (maxL := 7) (ret := none) RX4 (by decide +kernel) rfl rfl (Nat.le_of_ble_eq_true rfl) ?_
  intro p0 en0 s0 m0 args0 below0 meth0 c0 ls AA hx hb hr hlocks hnm hml hown hts hP hD hS hA hK hl
  have hl : lv_has ls 7 [(0, .ref (ad 1)), (1, .int (iI (r))), (2, .int (iI (a))), (3, .int (iI (b)))] := hl
  obtain ⟨H, hH⟩ : ∃ H, H = s0.heap := ⟨_, rfl⟩
  obtain ⟨locs, hlo⟩ : ∃ locs : List Loc, locs = [] := ⟨_, rfl⟩
  have hP : va_P D vwCl [(ad 1, .inr (4, [.ref (ad 2), .ref (be), .int (iI (n))])), (ad 2, .inl (cI, 160, .inl (iA (V)))), (be, .inl (cI, Ln, .inl (iA (B))))] H := by rw [hH]; exact hP
  have hS : va_S AA s0.heap H locs := by rw [hH, hlo]; exact hS
  suffices hW : W p0 l en0 (headSpec wsX4_write ({ frames := 0, cells := 0, slots := 0, locals := 0 })).room s0 m0 args0 below0 meth0 c0 H locs 0 0 (QMv below0 D ((fun (u : Unit) => [(ad 1, .inr (4, [.ref (ad 2), .ref (be), .int (iI (n + 1))])), (ad 2, .inl (cI, 160, .inl (iA (wrV V r a b)))), (be, .inl (cI, Ln, .inl (iA (wrB B n r V))))])) (fun _ => True) AA args0 s0 (0) (0)) (F0 m0 0 ls []) by rw [hH, hlo] at hW; exact hW
  refine lv_iload_n hx hb dX4_write_0 rfl (lv_at hl 1 rfl) ?_
  refine z_if_lt (tgt := 29) hx hb dX4_write_1 (by decide) ⟨by omega, by omega⟩ (fun c_1 => ?_) (fun c_1 => ?_)
  · exfalso
    omega
  · refine lv_iload_n hx hb dX4_write_4 rfl (lv_at hl 1 rfl) ?_
    refine lv_bipush (v := iI (80)) hx hb dX4_write_5 (by decide) ?_
    refine z_icmp_ge (tgt := 29) hx hb dX4_write_7 (by decide) ⟨⟨by omega, by omega⟩, ⟨by omega, by omega⟩⟩ (fun c_2 => ?_) (fun c_2 => ?_)
    · exfalso
      omega
    · refine lv_aload_n hx hb dX4_write_10 rfl (lv_at hl 0 rfl) ?_
      refine va_get (D := D) (ci := 4) (v := .int (iI (n))) (C := RX4) (T := TX4) (N := 3) hx hb hts (fun _ h => List.mem_cons_of_mem _ (List.mem_append_right _ (h))) hown hK.1 hP 0 rfl rfl 2 (by decide) (hts (.fieldLink RX4 18 "ForeignKeyStore$Rows" "changeCount" "I") (List.mem_of_getElem? (i := 1) rfl)) (fun _ h9 => h9) rfl dX4_write_11 ?_
      refine z_if_lt (tgt := 29) hx hb dX4_write_14 (by decide) ⟨by omega, by omega⟩ (fun c_3 => ?_) (fun c_3 => ?_)
      · exfalso
        omega
      · refine lv_aload_n hx hb dX4_write_17 rfl (lv_at hl 0 rfl) ?_
        refine va_get (D := D) (ci := 4) (v := .int (iI (n))) (C := RX4) (T := TX4) (N := 3) hx hb hts (fun _ h => List.mem_cons_of_mem _ (List.mem_append_right _ (h))) hown hK.1 hP 0 rfl rfl 2 (by decide) (hts (.fieldLink RX4 18 "ForeignKeyStore$Rows" "changeCount" "I") (List.mem_of_getElem? (i := 1) rfl)) (fun _ h9 => h9) rfl dX4_write_18 ?_
        refine lv_aload_n hx hb dX4_write_21 rfl (lv_at hl 0 rfl) ?_
        refine va_get (D := D) (ci := 4) (v := .ref (be)) (C := RX4) (T := TX4) (N := 3) hx hb hts (fun _ h => List.mem_cons_of_mem _ (List.mem_append_right _ (h))) hown hK.1 hP 0 rfl rfl 1 (by decide) (hts (.fieldLink RX4 15 "ForeignKeyStore$Rows" "before" "[I") (List.mem_of_getElem? (i := 2) rfl)) (fun _ h9 => h9) rfl dX4_write_22 ?_
        refine va_alen hx hb hK.1 hP 2 0 rfl rfl (v := iI (((Ln : Nat) : Int))) (iI_nI _).symm dX4_write_25 ?_
        refine z_icmp_lt (tgt := 30) hx hb dX4_write_26 (by decide) ⟨⟨by omega, by omega⟩, ⟨by omega, by omega⟩⟩ (fun c_4 => ?_) (fun c_4 => ?_)
        · refine lv_iload_n hx hb dX4_write_30 rfl (lv_at hl 1 rfl) ?_
          refine lv_iconst (v := iI (2)) hx hb dX4_write_31 rfl ?_
          refine z_imul hx hb dX4_write_32 ?_
          refine lv_istore (lv' := [(4, .int (iI ((r * 2)))), (0, .ref (ad 1)), (1, .int (iI (r))), (2, .int (iI (a))), (3, .int (iI (b)))]) hx hb dX4_write_33 hl (by decide) rfl (fun ls hl => ?_)
          refine lv_aload_n hx hb dX4_write_35 rfl (lv_at hl 1 rfl) ?_
          refine va_get (D := D) (ci := 4) (v := .ref (ad 2)) (C := RX4) (T := TX4) (N := 3) hx hb hts (fun _ h => List.mem_cons_of_mem _ (List.mem_append_right _ (h))) hown hK.1 hP 0 rfl rfl 0 (by decide) (hts (.fieldLink RX4 9 "ForeignKeyStore$Rows" "values" "[I") (List.mem_of_getElem? (i := 3) rfl)) (fun _ h9 => h9) rfl dX4_write_36 ?_
          refine lv_iload hx hb dX4_write_39 (lv_at hl 0 rfl) ?_
          refine z_iald hx hb hK.1 hP 1 0 rfl rfl (by omega) (by decide) dX4_write_41 ?_
          have hb_5 := g_V ((r * 2)) (by omega) (by omega)
          refine lv_bipush (v := iI (-2)) hx hb dX4_write_42 (by decide) ?_
          refine z_isub hx hb dX4_write_44 ?_
          refine lv_istore (lv' := [(5, .int (iI (((V ((r * 2))) - (-2))))), (4, .int (iI ((r * 2)))), (0, .ref (ad 1)), (1, .int (iI (r))), (2, .int (iI (a))), (3, .int (iI (b)))]) hx hb dX4_write_45 hl (by decide) rfl (fun ls hl => ?_)
          refine lv_aload_n hx hb dX4_write_47 rfl (lv_at hl 2 rfl) ?_
          refine va_get (D := D) (ci := 4) (v := .ref (ad 2)) (C := RX4) (T := TX4) (N := 3) hx hb hts (fun _ h => List.mem_cons_of_mem _ (List.mem_append_right _ (h))) hown hK.1 hP 0 rfl rfl 0 (by decide) (hts (.fieldLink RX4 9 "ForeignKeyStore$Rows" "values" "[I") (List.mem_of_getElem? (i := 3) rfl)) (fun _ h9 => h9) rfl dX4_write_48 ?_
          refine lv_iload hx hb dX4_write_51 (lv_at hl 1 rfl) ?_
          refine lv_iconst (v := iI (1)) hx hb dX4_write_53 rfl ?_
          refine z_iadd hx hb dX4_write_54 ?_
          refine z_iald hx hb hK.1 hP 1 0 rfl rfl (by omega) (by decide) dX4_write_55 ?_
          have hb_6 := g_V (((r * 2) + 1)) (by omega) (by omega)
          refine lv_bipush (v := iI (-2)) hx hb dX4_write_56 (by decide) ?_
          refine z_isub hx hb dX4_write_58 ?_
          refine lv_istore (lv' := [(6, .int (iI (((V (((r * 2) + 1))) - (-2))))), (5, .int (iI (((V ((r * 2))) - (-2))))), (4, .int (iI ((r * 2)))), (0, .ref (ad 1)), (1, .int (iI (r))), (2, .int (iI (a))), (3, .int (iI (b)))]) hx hb dX4_write_59 hl (by decide) rfl (fun ls hl => ?_)
          refine lv_aload_n hx hb dX4_write_61 rfl (lv_at hl 3 rfl) ?_
          refine va_get (D := D) (ci := 4) (v := .ref (be)) (C := RX4) (T := TX4) (N := 3) hx hb hts (fun _ h => List.mem_cons_of_mem _ (List.mem_append_right _ (h))) hown hK.1 hP 0 rfl rfl 1 (by decide) (hts (.fieldLink RX4 15 "ForeignKeyStore$Rows" "before" "[I") (List.mem_of_getElem? (i := 2) rfl)) (fun _ h9 => h9) rfl dX4_write_62 ?_
          refine lv_aload_n hx hb dX4_write_65 rfl (lv_at hl 3 rfl) ?_
          refine va_get (D := D) (ci := 4) (v := .int (iI (n))) (C := RX4) (T := TX4) (N := 3) hx hb hts (fun _ h => List.mem_cons_of_mem _ (List.mem_append_right _ (h))) hown hK.1 hP 0 rfl rfl 2 (by decide) (hts (.fieldLink RX4 18 "ForeignKeyStore$Rows" "changeCount" "I") (List.mem_of_getElem? (i := 1) rfl)) (fun _ h9 => h9) rfl dX4_write_66 ?_
          refine lv_iload_n hx hb dX4_write_69 rfl (lv_at hl 4 rfl) ?_
          refine lv_bipush (v := iI (10)) hx hb dX4_write_70 (by decide) ?_
          refine z_ishl hx hb 10 1024 dX4_write_72 (by decide) rfl (by omega) ?_
          refine lv_iload hx hb dX4_write_73 (lv_at hl 1 rfl) ?_
          refine lv_iconst (v := iI (5)) hx hb dX4_write_75 rfl ?_
          refine z_ishl hx hb 5 32 dX4_write_76 (by decide) rfl (by omega) ?_
          refine z_ior (z := r) hx hb 10 1024 dX4_write_77 rfl ⟨by omega, by omega⟩ ⟨by omega, by omega⟩ (by omega) (by omega) ?_
          refine lv_iload hx hb dX4_write_78 (lv_at hl 0 rfl) ?_
          refine z_ior (z := r * 32 + (V (r * 2) - -2)) hx hb 5 32 dX4_write_80 rfl ⟨by omega, by omega⟩ ⟨by omega, by omega⟩ (by omega) (by omega) ?_
          refine z_iast hx hb hK.1 hP hD hS 2 0 rfl rfl (by omega) (by omega) dX4_write_81 (fun H locs hP hD hS => ?_)
          have hP : va_P D vwCl [(ad 1, .inr (4, [.ref (ad 2), .ref (be), .int (iI (n))])), (ad 2, .inl (cI, 160, .inl (iA (V)))), (be, .inl (cI, Ln, .inl (iA (uI (B) (n) ((((r * 1024) + (((V ((r * 2))) - (-2)) * 32)) + ((V (((r * 2) + 1))) - (-2))))))))] H := hP
          have hD : va_D AA [(ad 1, .inr (4, [.ref (ad 2), .ref (be), .int (iI (n))])), (ad 2, .inl (cI, 160, .inl (iA (V)))), (be, .inl (cI, Ln, .inl (iA (uI (B) (n) ((((r * 1024) + (((V ((r * 2))) - (-2)) * 32)) + ((V (((r * 2) + 1))) - (-2))))))))] := hD
          refine lv_aload_n hx hb dX4_write_82 rfl (lv_at hl 3 rfl) ?_
          refine lv_dup hx hb dX4_write_83 rfl ?_
          refine va_get (D := D) (ci := 4) (v := .int (iI (n))) (C := RX4) (T := TX4) (N := 3) hx hb hts (fun _ h => List.mem_cons_of_mem _ (List.mem_append_right _ (h))) hown hK.1 hP 0 rfl rfl 2 (by decide) (hts (.fieldLink RX4 18 "ForeignKeyStore$Rows" "changeCount" "I") (List.mem_of_getElem? (i := 1) rfl)) (fun _ h9 => h9) rfl dX4_write_84 ?_
          refine lv_iconst (v := iI (1)) hx hb dX4_write_87 rfl ?_
          refine z_iadd hx hb dX4_write_88 ?_
          refine va_put (D := D) (ci := 4) (v := .int (iI ((n + 1)))) (ty := .int) (C := RX4) (T := TX4) (N := 3) hx hb hts (fun _ h => List.mem_cons_of_mem _ (List.mem_append_right _ (h))) tyX4 tyX4_ok nmX4 hown hK.1 hP hD hS 0 rfl rfl 2 (by decide) (hts (.fieldLink RX4 18 "ForeignKeyStore$Rows" "changeCount" "I") (List.mem_of_getElem? (i := 1) rfl)) (fun _ h9 => h9) rfl (by decide +kernel) rfl rfl (Nat.le_of_ble_eq_true rfl) dX4_write_89 (fun H locs hP hD hS => ?_)
          have hP : va_P D vwCl [(ad 1, .inr (4, [.ref (ad 2), .ref (be), .int (iI ((n + 1)))])), (ad 2, .inl (cI, 160, .inl (iA (V)))), (be, .inl (cI, Ln, .inl (iA (uI (B) (n) ((((r * 1024) + (((V ((r * 2))) - (-2)) * 32)) + ((V (((r * 2) + 1))) - (-2))))))))] H := hP
          have hD : va_D AA [(ad 1, .inr (4, [.ref (ad 2), .ref (be), .int (iI ((n + 1)))])), (ad 2, .inl (cI, 160, .inl (iA (V)))), (be, .inl (cI, Ln, .inl (iA (uI (B) (n) ((((r * 1024) + (((V ((r * 2))) - (-2)) * 32)) + ((V (((r * 2) + 1))) - (-2))))))))] := hD
          refine lv_aload_n hx hb dX4_write_92 rfl (lv_at hl 3 rfl) ?_
          refine va_get (D := D) (ci := 4) (v := .ref (ad 2)) (C := RX4) (T := TX4) (N := 3) hx hb hts (fun _ h => List.mem_cons_of_mem _ (List.mem_append_right _ (h))) hown hK.1 hP 0 rfl rfl 0 (by decide) (hts (.fieldLink RX4 9 "ForeignKeyStore$Rows" "values" "[I") (List.mem_of_getElem? (i := 3) rfl)) (fun _ h9 => h9) rfl dX4_write_93 ?_
          refine lv_iload hx hb dX4_write_96 (lv_at hl 2 rfl) ?_
          refine lv_iload_n hx hb dX4_write_98 rfl (lv_at hl 5 rfl) ?_
          refine z_iast hx hb hK.1 hP hD hS 1 0 rfl rfl (by omega) (by decide) dX4_write_99 (fun H locs hP hD hS => ?_)
          have hP : va_P D vwCl [(ad 1, .inr (4, [.ref (ad 2), .ref (be), .int (iI ((n + 1)))])), (ad 2, .inl (cI, 160, .inl (iA (uI (V) ((r * 2)) (a))))), (be, .inl (cI, Ln, .inl (iA (uI (B) (n) ((((r * 1024) + (((V ((r * 2))) - (-2)) * 32)) + ((V (((r * 2) + 1))) - (-2))))))))] H := hP
          have hD : va_D AA [(ad 1, .inr (4, [.ref (ad 2), .ref (be), .int (iI ((n + 1)))])), (ad 2, .inl (cI, 160, .inl (iA (uI (V) ((r * 2)) (a))))), (be, .inl (cI, Ln, .inl (iA (uI (B) (n) ((((r * 1024) + (((V ((r * 2))) - (-2)) * 32)) + ((V (((r * 2) + 1))) - (-2))))))))] := hD
          refine lv_aload_n hx hb dX4_write_100 rfl (lv_at hl 3 rfl) ?_
          refine va_get (D := D) (ci := 4) (v := .ref (ad 2)) (C := RX4) (T := TX4) (N := 3) hx hb hts (fun _ h => List.mem_cons_of_mem _ (List.mem_append_right _ (h))) hown hK.1 hP 0 rfl rfl 0 (by decide) (hts (.fieldLink RX4 9 "ForeignKeyStore$Rows" "values" "[I") (List.mem_of_getElem? (i := 3) rfl)) (fun _ h9 => h9) rfl dX4_write_101 ?_
          refine lv_iload hx hb dX4_write_104 (lv_at hl 2 rfl) ?_
          refine lv_iconst (v := iI (1)) hx hb dX4_write_106 rfl ?_
          refine z_iadd hx hb dX4_write_107 ?_
          refine lv_iload_n hx hb dX4_write_108 rfl (lv_at hl 6 rfl) ?_
          refine z_iast hx hb hK.1 hP hD hS 1 0 rfl rfl (by omega) (by decide) dX4_write_109 (fun H locs hP hD hS => ?_)
          have hP : va_P D vwCl [(ad 1, .inr (4, [.ref (ad 2), .ref (be), .int (iI ((n + 1)))])), (ad 2, .inl (cI, 160, .inl (iA (uI (uI (V) ((r * 2)) (a)) (((r * 2) + 1)) (b))))), (be, .inl (cI, Ln, .inl (iA (uI (B) (n) ((((r * 1024) + (((V ((r * 2))) - (-2)) * 32)) + ((V (((r * 2) + 1))) - (-2))))))))] H := hP
          have hD : va_D AA [(ad 1, .inr (4, [.ref (ad 2), .ref (be), .int (iI ((n + 1)))])), (ad 2, .inl (cI, 160, .inl (iA (uI (uI (V) ((r * 2)) (a)) (((r * 2) + 1)) (b))))), (be, .inl (cI, Ln, .inl (iA (uI (B) (n) ((((r * 1024) + (((V ((r * 2))) - (-2)) * 32)) + ((V (((r * 2) + 1))) - (-2))))))))] := hD
          refine z_vret (()) hx hb hr hlocks dX4_write_110 hP hD hS ?_
          exact trivial
        · exfalso
          omega

set_option maxHeartbeats 600000 in
set_option maxRecDepth 100000 in
theorem c_X4_writeColumn (l : Launch) (D : va_G) (cI cZ cC : ClassId) (sz : Nat) (ad : Nat → Nat) (be Ln : Nat) (n : Int) (V B : Int → Int) (r c v : Int) (g_V : ∀ j : Int, 0 ≤ j → j < 160 → -2 ≤ V j ∧ V j ≤ 19) (g_r : 0 ≤ r ∧ r < 80) (g_n : 0 ≤ n ∧ n < (Ln : Int) ∧ Ln < 2147483648) (g_c : c = 0 ∨ c = 1) : zMv l yX4_writeColumn wsX4_writeColumn ({ frames := 1, cells := 0, slots := 0, locals := 26 }) D cI cZ cC [(ad 1, .inr (4, [.ref (ad 2), .ref (be), .int (iI (n))])), (ad 2, .inl (cI, 160, .inl (iA (V)))), (be, .inl (cI, Ln, .inl (iA (B))))] sz [.ref (ad 1), .int (iI (r)), .int (iI (c)), .int (iI (v))] (0) (0) (fun (u : Unit) => [(ad 1, .inr (4, [.ref (ad 2), .ref (be), .int (iI (n + 1))])), (ad 2, .inl (cI, 160, .inl (iA (wcV V r c v)))), (be, .inl (cI, Ln, .inl (iA (wrB B n r V))))]) (fun _ => True) := by
  refine z_ofMv (cc := cX4_writeColumn) (maxL := 6) (ret := none) RX4 (by decide +kernel) rfl rfl (Nat.le_of_ble_eq_true rfl) ?_
  intro p0 en0 s0 m0 args0 below0 meth0 c0 ls AA hx hb hr hlocks hnm hml hown hts hP hD hS hA hK hl
  have hl : lv_has ls 6 [(0, .ref (ad 1)), (1, .int (iI (r))), (2, .int (iI (c))), (3, .int (iI (v)))] := hl
  obtain ⟨H, hH⟩ : ∃ H, H = s0.heap := ⟨_, rfl⟩
  obtain ⟨locs, hlo⟩ : ∃ locs : List Loc, locs = [] := ⟨_, rfl⟩
  have hP : va_P D vwCl [(ad 1, .inr (4, [.ref (ad 2), .ref (be), .int (iI (n))])), (ad 2, .inl (cI, 160, .inl (iA (V)))), (be, .inl (cI, Ln, .inl (iA (B))))] H := by rw [hH]; exact hP
  have hS : va_S AA s0.heap H locs := by rw [hH, hlo]; exact hS
  suffices hW : W p0 l en0 (headSpec wsX4_writeColumn ({ frames := 1, cells := 0, slots := 0, locals := 26 })).room s0 m0 args0 below0 meth0 c0 H locs 0 0 (QMv below0 D ((fun (u : Unit) => [(ad 1, .inr (4, [.ref (ad 2), .ref (be), .int (iI (n + 1))])), (ad 2, .inl (cI, 160, .inl (iA (wcV V r c v)))), (be, .inl (cI, Ln, .inl (iA (wrB B n r V))))])) (fun _ => True) AA args0 s0 (0) (0)) (F0 m0 0 ls []) by rw [hH, hlo] at hW; exact hW
  refine lv_iload_n hx hb dX4_writeColumn_0 rfl (lv_at hl 2 rfl) ?_
  refine z_if_ne (tgt := 8) hx hb dX4_writeColumn_1 (by decide) ⟨by omega, by omega⟩ (fun c_1 => ?_) (fun c_1 => ?_)
  · refine lv_aload_n hx hb dX4_writeColumn_8 rfl (lv_at hl 0 rfl) ?_
    refine lv_iload_n hx hb dX4_writeColumn_9 rfl (lv_at hl 1 rfl) ?_
    refine lv_iconst (v := iI (0)) hx hb dX4_writeColumn_10 rfl ?_
    refine z_roV (As := [.int (iI (r)), .int (iI (0))]) (rest := []) ⟨hx, hb, hml, hown, hts⟩ (c_X4_valueOf l D cI cZ cC (ad) (be) (n) (V) (r) (0) (by first | assumption | omega) (by first | assumption | omega)) (cwV 2 hts gX4_writeColumn_X4_valueOf rfl rfl rfl (by decide +kernel) ⟨Nat.le_of_ble_eq_true rfl, Nat.le_of_ble_eq_true rfl⟩) hP hK [0, 1] rfl 0 4 rfl rfl rfl rfl hl.1 rfl (Nat.le_of_ble_eq_true rfl) dX4_writeColumn_11 ⟨by omega, by omega⟩ ?_
    have hf_2 := vOf_b g_V (r) (0)
    refine lv_istore (lv' := [(4, .int (iI ((vOf V r 0)))), (0, .ref (ad 1)), (1, .int (iI (r))), (2, .int (iI (c))), (3, .int (iI (v)))]) hx hb dX4_writeColumn_14 hl (by decide) rfl (fun ls hl => ?_)
    refine lv_iload_n hx hb dX4_writeColumn_16 rfl (lv_at hl 3 rfl) ?_
    refine lv_iconst (v := iI (1)) hx hb dX4_writeColumn_17 rfl ?_
    refine z_icmp_ne (tgt := 25) hx hb dX4_writeColumn_18 (by decide) ⟨⟨by omega, by omega⟩, ⟨by omega, by omega⟩⟩ (fun c_3 => ?_) (fun c_3 => ?_)
    · exfalso
      omega
    · refine lv_iload_n hx hb dX4_writeColumn_21 rfl (lv_at hl 4 rfl) ?_
      refine lv_goto (tgt := 31) hx hb dX4_writeColumn_22 (by decide) ?_
      refine lv_istore (lv' := [(5, .int (iI (v))), (4, .int (iI ((vOf V r 0)))), (0, .ref (ad 1)), (1, .int (iI (r))), (2, .int (iI (c))), (3, .int (iI (v)))]) hx hb dX4_writeColumn_31 hl (by decide) rfl (fun ls hl => ?_)
      refine lv_aload_n hx hb dX4_writeColumn_33 rfl (lv_at hl 2 rfl) ?_
      refine lv_iload_n hx hb dX4_writeColumn_34 rfl (lv_at hl 3 rfl) ?_
      refine lv_iload hx hb dX4_writeColumn_35 (lv_at hl 1 rfl) ?_
      refine lv_iload hx hb dX4_writeColumn_37 (lv_at hl 0 rfl) ?_
      refine z_mvV (As := [.int (iI (r)), .int (iI ((vOf V r 0))), .int (iI (v))]) (rest := []) (wr := []) (ws2 := (fun (u : Unit) => [(ad 1, .inr (4, [.ref (ad 2), .ref (be), .int (iI (n + 1))])), (ad 2, .inl (cI, 160, .inl (iA (wrV V r ((vOf V r 0)) v)))), (be, .inl (cI, Ln, .inl (iA (wrB B n r V))))])) ⟨hx, hb, hml, hown, hts⟩ (c_X4_write l D cI cZ cC H.size (ad) (be) (Ln) (n) (V) (B) (r) ((vOf V r 0)) (v) (by first | assumption | omega) (by first | assumption | omega) (by first | assumption | omega)) (cwV 3 hts gX4_writeColumn_X4_write rfl rfl rfl (by decide +kernel) ⟨Nat.le_of_ble_eq_true rfl, Nat.le_of_ble_eq_true rfl⟩) hP hD hS hA hK [0, 1, 2] [] [0, 1, 2] rfl (by decide) rfl (by decide) (by decide) (by decide) (fun _ => rfl) 0 4 rfl rfl rfl rfl hl.1 rfl (Nat.le_of_ble_eq_true rfl) dX4_writeColumn_39 ⟨by omega, by omega⟩ (fun u H locs hq_4 hP hD hS => ?_)
      have hP : va_P D vwCl [(ad 1, .inr (4, [.ref (ad 2), .ref (be), .int (iI (n + 1))])), (ad 2, .inl (cI, 160, .inl (iA (wrV V r ((vOf V r 0)) v)))), (be, .inl (cI, Ln, .inl (iA (wrB B n r V))))] H := hP
      have hD : va_D AA [(ad 1, .inr (4, [.ref (ad 2), .ref (be), .int (iI (n + 1))])), (ad 2, .inl (cI, 160, .inl (iA (wrV V r ((vOf V r 0)) v)))), (be, .inl (cI, Ln, .inl (iA (wrB B n r V))))] := hD
      try dsimp only at hq_4
      have hz : wrV V r ((vOf V r 0)) v = wcV V r c v := by
        unfold wcV
        rw [if_neg (by omega), if_pos (by omega)]
      rw [hz] at hP hD
      refine z_vret (()) hx hb hr hlocks dX4_writeColumn_42 hP hD hS ?_
      exact trivial
  · refine lv_iload_n hx hb dX4_writeColumn_4 rfl (lv_at hl 3 rfl) ?_
    refine lv_goto (tgt := 14) hx hb dX4_writeColumn_5 (by decide) ?_
    refine lv_istore (lv' := [(4, .int (iI (v))), (0, .ref (ad 1)), (1, .int (iI (r))), (2, .int (iI (c))), (3, .int (iI (v)))]) hx hb dX4_writeColumn_14 hl (by decide) rfl (fun ls hl => ?_)
    refine lv_iload_n hx hb dX4_writeColumn_16 rfl (lv_at hl 3 rfl) ?_
    refine lv_iconst (v := iI (1)) hx hb dX4_writeColumn_17 rfl ?_
    refine z_icmp_ne (tgt := 25) hx hb dX4_writeColumn_18 (by decide) ⟨⟨by omega, by omega⟩, ⟨by omega, by omega⟩⟩ (fun c_5 => ?_) (fun c_5 => ?_)
    · refine lv_aload_n hx hb dX4_writeColumn_25 rfl (lv_at hl 1 rfl) ?_
      refine lv_iload_n hx hb dX4_writeColumn_26 rfl (lv_at hl 2 rfl) ?_
      refine lv_iconst (v := iI (1)) hx hb dX4_writeColumn_27 rfl ?_
      refine z_roV (As := [.int (iI (r)), .int (iI (1))]) (rest := []) ⟨hx, hb, hml, hown, hts⟩ (c_X4_valueOf l D cI cZ cC (ad) (be) (n) (V) (r) (1) (by first | assumption | omega) (by first | assumption | omega)) (cwV 2 hts gX4_writeColumn_X4_valueOf rfl rfl rfl (by decide +kernel) ⟨Nat.le_of_ble_eq_true rfl, Nat.le_of_ble_eq_true rfl⟩) hP hK [0, 1] rfl 0 4 rfl rfl rfl rfl hl.1 rfl (Nat.le_of_ble_eq_true rfl) dX4_writeColumn_28 ⟨by omega, by omega⟩ ?_
      have hf_6 := vOf_b g_V (r) (1)
      refine lv_istore (lv' := [(5, .int (iI ((vOf V r 1)))), (4, .int (iI (v))), (0, .ref (ad 1)), (1, .int (iI (r))), (2, .int (iI (c))), (3, .int (iI (v)))]) hx hb dX4_writeColumn_31 hl (by decide) rfl (fun ls hl => ?_)
      refine lv_aload_n hx hb dX4_writeColumn_33 rfl (lv_at hl 2 rfl) ?_
      refine lv_iload_n hx hb dX4_writeColumn_34 rfl (lv_at hl 3 rfl) ?_
      refine lv_iload hx hb dX4_writeColumn_35 (lv_at hl 1 rfl) ?_
      refine lv_iload hx hb dX4_writeColumn_37 (lv_at hl 0 rfl) ?_
      refine z_mvV (As := [.int (iI (r)), .int (iI (v)), .int (iI ((vOf V r 1)))]) (rest := []) (wr := []) (ws2 := (fun (u : Unit) => [(ad 1, .inr (4, [.ref (ad 2), .ref (be), .int (iI (n + 1))])), (ad 2, .inl (cI, 160, .inl (iA (wrV V r v ((vOf V r 1)))))), (be, .inl (cI, Ln, .inl (iA (wrB B n r V))))])) ⟨hx, hb, hml, hown, hts⟩ (c_X4_write l D cI cZ cC H.size (ad) (be) (Ln) (n) (V) (B) (r) (v) ((vOf V r 1)) (by first | assumption | omega) (by first | assumption | omega) (by first | assumption | omega)) (cwV 3 hts gX4_writeColumn_X4_write rfl rfl rfl (by decide +kernel) ⟨Nat.le_of_ble_eq_true rfl, Nat.le_of_ble_eq_true rfl⟩) hP hD hS hA hK [0, 1, 2] [] [0, 1, 2] rfl (by decide) rfl (by decide) (by decide) (by decide) (fun _ => rfl) 0 4 rfl rfl rfl rfl hl.1 rfl (Nat.le_of_ble_eq_true rfl) dX4_writeColumn_39 ⟨by omega, by omega⟩ (fun u H locs hq_7 hP hD hS => ?_)
      have hP : va_P D vwCl [(ad 1, .inr (4, [.ref (ad 2), .ref (be), .int (iI (n + 1))])), (ad 2, .inl (cI, 160, .inl (iA (wrV V r v ((vOf V r 1)))))), (be, .inl (cI, Ln, .inl (iA (wrB B n r V))))] H := hP
      have hD : va_D AA [(ad 1, .inr (4, [.ref (ad 2), .ref (be), .int (iI (n + 1))])), (ad 2, .inl (cI, 160, .inl (iA (wrV V r v ((vOf V r 1)))))), (be, .inl (cI, Ln, .inl (iA (wrB B n r V))))] := hD
      try dsimp only at hq_7
      have hz : wrV V r v ((vOf V r 1)) = wcV V r c v := by
        unfold wcV
        rw [if_pos (by omega), if_neg (by omega)]
      rw [hz] at hP hD
      refine z_vret (()) hx hb hr hlocks dX4_writeColumn_42 hP hD hS ?_
      exact trivial
    · exfalso
      omega

set_option maxHeartbeats 600000 in
set_option maxRecDepth 100000 in
theorem c_X4_erase (l : Launch) (D : va_G) (cI cZ cC : ClassId) (sz : Nat) (ad : Nat → Nat) (be Ln : Nat) (n : Int) (V B : Int → Int) (r : Int) (g_V : ∀ j : Int, 0 ≤ j → j < 160 → -2 ≤ V j ∧ V j ≤ 19) (g_r : 0 ≤ r ∧ r < 80) (g_n : 0 ≤ n ∧ n < (Ln : Int) ∧ Ln < 2147483648) : zMv l yX4_erase wsX4_erase ({ frames := 1, cells := 0, slots := 0, locals := 26 }) D cI cZ cC [(ad 1, .inr (4, [.ref (ad 2), .ref (be), .int (iI (n))])), (ad 2, .inl (cI, 160, .inl (iA (V)))), (be, .inl (cI, Ln, .inl (iA (B))))] sz [.ref (ad 1), .int (iI (r))] (0) (0) (fun (u : Unit) => [(ad 1, .inr (4, [.ref (ad 2), .ref (be), .int (iI (n + 1))])), (ad 2, .inl (cI, 160, .inl (iA (wrV V r (-2) (-2))))), (be, .inl (cI, Ln, .inl (iA (wrB B n r V))))]) (fun _ => True) := by
  refine z_ofMv (cc := cX4_erase) (maxL := 2) (ret := none) RX4 (by decide +kernel) rfl rfl (Nat.le_of_ble_eq_true rfl) ?_
  intro p0 en0 s0 m0 args0 below0 meth0 c0 ls AA hx hb hr hlocks hnm hml hown hts hP hD hS hA hK hl
  have hl : lv_has ls 2 [(0, .ref (ad 1)), (1, .int (iI (r)))] := hl
  obtain ⟨H, hH⟩ : ∃ H, H = s0.heap := ⟨_, rfl⟩
  obtain ⟨locs, hlo⟩ : ∃ locs : List Loc, locs = [] := ⟨_, rfl⟩
  have hP : va_P D vwCl [(ad 1, .inr (4, [.ref (ad 2), .ref (be), .int (iI (n))])), (ad 2, .inl (cI, 160, .inl (iA (V)))), (be, .inl (cI, Ln, .inl (iA (B))))] H := by rw [hH]; exact hP
  have hS : va_S AA s0.heap H locs := by rw [hH, hlo]; exact hS
  suffices hW : W p0 l en0 (headSpec wsX4_erase ({ frames := 1, cells := 0, slots := 0, locals := 26 })).room s0 m0 args0 below0 meth0 c0 H locs 0 0 (QMv below0 D ((fun (u : Unit) => [(ad 1, .inr (4, [.ref (ad 2), .ref (be), .int (iI (n + 1))])), (ad 2, .inl (cI, 160, .inl (iA (wrV V r (-2) (-2))))), (be, .inl (cI, Ln, .inl (iA (wrB B n r V))))])) (fun _ => True) AA args0 s0 (0) (0)) (F0 m0 0 ls []) by rw [hH, hlo] at hW; exact hW
  refine lv_aload_n hx hb dX4_erase_0 rfl (lv_at hl 0 rfl) ?_
  refine lv_iload_n hx hb dX4_erase_1 rfl (lv_at hl 1 rfl) ?_
  refine lv_bipush (v := iI (-2)) hx hb dX4_erase_2 (by decide) ?_
  refine lv_bipush (v := iI (-2)) hx hb dX4_erase_4 (by decide) ?_
  refine z_mvV (As := [.int (iI (r)), .int (iI ((-2))), .int (iI ((-2)))]) (rest := []) (wr := []) (ws2 := (fun (u : Unit) => [(ad 1, .inr (4, [.ref (ad 2), .ref (be), .int (iI (n + 1))])), (ad 2, .inl (cI, 160, .inl (iA (wrV V r ((-2)) ((-2)))))), (be, .inl (cI, Ln, .inl (iA (wrB B n r V))))])) ⟨hx, hb, hml, hown, hts⟩ (c_X4_write l D cI cZ cC H.size (ad) (be) (Ln) (n) (V) (B) (r) ((-2)) ((-2)) (by first | assumption | omega) (by first | assumption | omega) (by first | assumption | omega)) (cwV 3 hts gX4_erase_X4_write rfl rfl rfl (by decide +kernel) ⟨Nat.le_of_ble_eq_true rfl, Nat.le_of_ble_eq_true rfl⟩) hP hD hS hA hK [0, 1, 2] [] [0, 1, 2] rfl (by decide) rfl (by decide) (by decide) (by decide) (fun _ => rfl) 0 4 rfl rfl rfl rfl hl.1 rfl (Nat.le_of_ble_eq_true rfl) dX4_erase_6 ⟨by omega, by omega⟩ (fun u H locs hq_1 hP hD hS => ?_)
  have hP : va_P D vwCl [(ad 1, .inr (4, [.ref (ad 2), .ref (be), .int (iI (n + 1))])), (ad 2, .inl (cI, 160, .inl (iA (wrV V r ((-2)) ((-2)))))), (be, .inl (cI, Ln, .inl (iA (wrB B n r V))))] H := hP
  have hD : va_D AA [(ad 1, .inr (4, [.ref (ad 2), .ref (be), .int (iI (n + 1))])), (ad 2, .inl (cI, 160, .inl (iA (wrV V r ((-2)) ((-2)))))), (be, .inl (cI, Ln, .inl (iA (wrB B n r V))))] := hD
  try dsimp only at hq_1
  refine z_vret (()) hx hb hr hlocks dX4_erase_9 hP hD hS ?_
  exact trivial

set_option maxHeartbeats 600000 in
set_option maxRecDepth 100000 in
theorem c_X4_forgetChanges (l : Launch) (D : va_G) (cI cZ cC : ClassId) (sz : Nat) (ad : Nat → Nat) (be : Nat) (n : Int) : zMv l yX4_forgetChanges wsX4_forgetChanges ({ frames := 0, cells := 0, slots := 0, locals := 0 }) D cI cZ cC [(ad 1, .inr (4, [.ref (ad 2), .ref (be), .int (iI (n))]))] sz [.ref (ad 1)] (0) (0) (fun (u : Unit) => [(ad 1, .inr (4, [.ref (ad 2), .ref (be), .int (iI (0))]))]) (fun _ => True) := by
  refine z_ofMv (cc := cX4_forgetChanges) (maxL := 1) (ret := none) RX4 (by decide +kernel) rfl rfl (Nat.le_of_ble_eq_true rfl) ?_
  intro p0 en0 s0 m0 args0 below0 meth0 c0 ls AA hx hb hr hlocks hnm hml hown hts hP hD hS hA hK hl
  have hl : lv_has ls 1 [(0, .ref (ad 1))] := hl
  obtain ⟨H, hH⟩ : ∃ H, H = s0.heap := ⟨_, rfl⟩
  obtain ⟨locs, hlo⟩ : ∃ locs : List Loc, locs = [] := ⟨_, rfl⟩
  have hP : va_P D vwCl [(ad 1, .inr (4, [.ref (ad 2), .ref (be), .int (iI (n))]))] H := by rw [hH]; exact hP
  have hS : va_S AA s0.heap H locs := by rw [hH, hlo]; exact hS
  suffices hW : W p0 l en0 (headSpec wsX4_forgetChanges ({ frames := 0, cells := 0, slots := 0, locals := 0 })).room s0 m0 args0 below0 meth0 c0 H locs 0 0 (QMv below0 D ((fun (u : Unit) => [(ad 1, .inr (4, [.ref (ad 2), .ref (be), .int (iI (0))]))])) (fun _ => True) AA args0 s0 (0) (0)) (F0 m0 0 ls []) by rw [hH, hlo] at hW; exact hW
  refine lv_aload_n hx hb dX4_forgetChanges_0 rfl (lv_at hl 0 rfl) ?_
  refine lv_iconst (v := iI (0)) hx hb dX4_forgetChanges_1 rfl ?_
  refine va_put (D := D) (ci := 4) (v := .int (iI (0))) (ty := .int) (C := RX4) (T := TX4) (N := 3) hx hb hts (fun _ h => List.mem_cons_of_mem _ (List.mem_append_right _ (h))) tyX4 tyX4_ok nmX4 hown hK.1 hP hD hS 0 rfl rfl 2 (by decide) (hts (.fieldLink RX4 18 "ForeignKeyStore$Rows" "changeCount" "I") (List.mem_of_getElem? (i := 1) rfl)) (fun _ h9 => h9) rfl (by decide +kernel) rfl rfl (Nat.le_of_ble_eq_true rfl) dX4_forgetChanges_2 (fun H locs hP hD hS => ?_)
  have hP : va_P D vwCl [(ad 1, .inr (4, [.ref (ad 2), .ref (be), .int (iI (0))]))] H := hP
  have hD : va_D AA [(ad 1, .inr (4, [.ref (ad 2), .ref (be), .int (iI (0))]))] := hD
  refine z_vret (()) hx hb hr hlocks dX4_forgetChanges_5 hP hD hS ?_
  exact trivial

set_option maxHeartbeats 600000 in
set_option maxRecDepth 100000 in
theorem c_X4_restore (l : Launch) (D : va_G) (cI cZ cC : ClassId) (sz : Nat) (ad : Nat → Nat) (be : Nat) (n : Int) (V : Int → Int) (ch : Int) (g_ch : 0 ≤ ch ∧ ch < 81920) : zMv l yX4_restore wsX4_restore ({ frames := 0, cells := 0, slots := 0, locals := 0 }) D cI cZ cC [(ad 1, .inr (4, [.ref (ad 2), .ref (be), .int (iI (n))])), (ad 2, .inl (cI, 160, .inl (iA (V))))] sz [.ref (ad 1), .int (iI (ch))] (0) (0) (fun (u : Unit) => [(ad 1, .inr (4, [.ref (ad 2), .ref (be), .int (iI (n))])), (ad 2, .inl (cI, 160, .inl (iA (reV V ch))))]) (fun _ => True) := by
  refine z_ofMv (cc := cX4_restore) (maxL := 3) (ret := none) RX4 (by decide +kernel) rfl rfl (Nat.le_of_ble_eq_true rfl) ?_
  intro p0 en0 s0 m0 args0 below0 meth0 c0 ls AA hx hb hr hlocks hnm hml hown hts hP hD hS hA hK hl
  have hl : lv_has ls 3 [(0, .ref (ad 1)), (1, .int (iI (ch)))] := hl
  obtain ⟨H, hH⟩ : ∃ H, H = s0.heap := ⟨_, rfl⟩
  obtain ⟨locs, hlo⟩ : ∃ locs : List Loc, locs = [] := ⟨_, rfl⟩
  have hP : va_P D vwCl [(ad 1, .inr (4, [.ref (ad 2), .ref (be), .int (iI (n))])), (ad 2, .inl (cI, 160, .inl (iA (V))))] H := by rw [hH]; exact hP
  have hS : va_S AA s0.heap H locs := by rw [hH, hlo]; exact hS
  suffices hW : W p0 l en0 (headSpec wsX4_restore ({ frames := 0, cells := 0, slots := 0, locals := 0 })).room s0 m0 args0 below0 meth0 c0 H locs 0 0 (QMv below0 D ((fun (u : Unit) => [(ad 1, .inr (4, [.ref (ad 2), .ref (be), .int (iI (n))])), (ad 2, .inl (cI, 160, .inl (iA (reV V ch))))])) (fun _ => True) AA args0 s0 (0) (0)) (F0 m0 0 ls []) by rw [hH, hlo] at hW; exact hW
  refine lv_iload_n hx hb dX4_restore_0 rfl (lv_at hl 1 rfl) ?_
  refine lv_bipush (v := iI (10)) hx hb dX4_restore_1 (by decide) ?_
  refine z_ishr hx hb 10 1024 dX4_restore_3 (by decide) rfl (by omega) ?_
  refine lv_istore_n (lv' := [(2, .int (iI ((ch / 1024)))), (0, .ref (ad 1)), (1, .int (iI (ch)))]) hx hb dX4_restore_4 rfl hl (by decide) rfl (fun ls hl => ?_)
  refine lv_iload_n hx hb dX4_restore_5 rfl (lv_at hl 0 rfl) ?_
  refine z_if_lt (tgt := 49) hx hb dX4_restore_6 (by decide) ⟨by omega, by omega⟩ (fun c_1 => ?_) (fun c_1 => ?_)
  · exfalso
    omega
  · refine lv_iload_n hx hb dX4_restore_9 rfl (lv_at hl 0 rfl) ?_
    refine lv_bipush (v := iI (80)) hx hb dX4_restore_10 (by decide) ?_
    refine z_icmp_ge (tgt := 49) hx hb dX4_restore_12 (by decide) ⟨⟨by omega, by omega⟩, ⟨by omega, by omega⟩⟩ (fun c_2 => ?_) (fun c_2 => ?_)
    · exfalso
      omega
    · refine lv_aload_n hx hb dX4_restore_15 rfl (lv_at hl 1 rfl) ?_
      refine va_get (D := D) (ci := 4) (v := .ref (ad 2)) (C := RX4) (T := TX4) (N := 3) hx hb hts (fun _ h => List.mem_cons_of_mem _ (List.mem_append_right _ (h))) hown hK.1 hP 0 rfl rfl 0 (by decide) (hts (.fieldLink RX4 9 "ForeignKeyStore$Rows" "values" "[I") (List.mem_of_getElem? (i := 1) rfl)) (fun _ h9 => h9) rfl dX4_restore_16 ?_
      refine lv_iload_n hx hb dX4_restore_19 rfl (lv_at hl 0 rfl) ?_
      refine lv_iconst (v := iI (2)) hx hb dX4_restore_20 rfl ?_
      refine z_imul hx hb dX4_restore_21 ?_
      refine lv_iload_n hx hb dX4_restore_22 rfl (lv_at hl 2 rfl) ?_
      refine lv_iconst (v := iI (5)) hx hb dX4_restore_23 rfl ?_
      refine z_ishr hx hb 5 32 dX4_restore_24 (by decide) rfl (by omega) ?_
      refine lv_bipush (v := iI (31)) hx hb dX4_restore_25 (by decide) ?_
      refine z_iand hx hb 5 32 dX4_restore_27 (by decide) rfl (by omega) ?_
      refine lv_bipush (v := iI (-2)) hx hb dX4_restore_28 (by decide) ?_
      refine z_iadd hx hb dX4_restore_30 ?_
      refine z_iast hx hb hK.1 hP hD hS 1 0 rfl rfl (by omega) (by decide) dX4_restore_31 (fun H locs hP hD hS => ?_)
      have hP : va_P D vwCl [(ad 1, .inr (4, [.ref (ad 2), .ref (be), .int (iI (n))])), (ad 2, .inl (cI, 160, .inl (iA (uI (V) (((ch / 1024) * 2)) ((((ch / 32) % 32) + (-2)))))))] H := hP
      have hD : va_D AA [(ad 1, .inr (4, [.ref (ad 2), .ref (be), .int (iI (n))])), (ad 2, .inl (cI, 160, .inl (iA (uI (V) (((ch / 1024) * 2)) ((((ch / 32) % 32) + (-2)))))))] := hD
      refine lv_aload_n hx hb dX4_restore_32 rfl (lv_at hl 1 rfl) ?_
      refine va_get (D := D) (ci := 4) (v := .ref (ad 2)) (C := RX4) (T := TX4) (N := 3) hx hb hts (fun _ h => List.mem_cons_of_mem _ (List.mem_append_right _ (h))) hown hK.1 hP 0 rfl rfl 0 (by decide) (hts (.fieldLink RX4 9 "ForeignKeyStore$Rows" "values" "[I") (List.mem_of_getElem? (i := 1) rfl)) (fun _ h9 => h9) rfl dX4_restore_33 ?_
      refine lv_iload_n hx hb dX4_restore_36 rfl (lv_at hl 0 rfl) ?_
      refine lv_iconst (v := iI (2)) hx hb dX4_restore_37 rfl ?_
      refine z_imul hx hb dX4_restore_38 ?_
      refine lv_iconst (v := iI (1)) hx hb dX4_restore_39 rfl ?_
      refine z_iadd hx hb dX4_restore_40 ?_
      refine lv_iload_n hx hb dX4_restore_41 rfl (lv_at hl 2 rfl) ?_
      refine lv_bipush (v := iI (31)) hx hb dX4_restore_42 (by decide) ?_
      refine z_iand hx hb 5 32 dX4_restore_44 (by decide) rfl (by omega) ?_
      refine lv_bipush (v := iI (-2)) hx hb dX4_restore_45 (by decide) ?_
      refine z_iadd hx hb dX4_restore_47 ?_
      refine z_iast hx hb hK.1 hP hD hS 1 0 rfl rfl (by omega) (by decide) dX4_restore_48 (fun H locs hP hD hS => ?_)
      have hP : va_P D vwCl [(ad 1, .inr (4, [.ref (ad 2), .ref (be), .int (iI (n))])), (ad 2, .inl (cI, 160, .inl (iA (uI (uI (V) (((ch / 1024) * 2)) ((((ch / 32) % 32) + (-2)))) ((((ch / 1024) * 2) + 1)) (((ch % 32) + (-2)))))))] H := hP
      have hD : va_D AA [(ad 1, .inr (4, [.ref (ad 2), .ref (be), .int (iI (n))])), (ad 2, .inl (cI, 160, .inl (iA (uI (uI (V) (((ch / 1024) * 2)) ((((ch / 32) % 32) + (-2)))) ((((ch / 1024) * 2) + 1)) (((ch % 32) + (-2)))))))] := hD
      refine z_vret (()) hx hb hr hlocks dX4_restore_49 hP hD hS ?_
      exact trivial

set_option maxHeartbeats 600000 in
set_option maxRecDepth 100000 in
theorem c_X4_undoTo (l : Launch) (D : va_G) (cI cZ cC : ClassId) (sz : Nat) (ad : Nat → Nat) (be Ln : Nat) (n : Int) (V B : Int → Int) (k : Int) (g_n : 0 ≤ n ∧ n ≤ (Ln : Int) ∧ Ln < 2147483648) (g_k : 0 ≤ k ∧ k < 2147483648) (g_B : ∀ j : Int, 0 ≤ j → j < n → 0 ≤ B j ∧ B j < 81920) : zMi l yX4_undoTo wsX4_undoTo ({ frames := 1, cells := 0, slots := 0, locals := 22 }) D cI cZ cC [(ad 1, .inr (4, [.ref (ad 2), .ref (be), .int (iI (n))])), (ad 2, .inl (cI, 160, .inl (iA (V)))), (be, .inl (cI, Ln, .inl (iA (B))))] sz [.ref (ad 1), .int (iI (k))] (0) (0) (fun (u : Unit) => [(ad 1, .inr (4, [.ref (ad 2), .ref (be), .int (iI (n - (unS n k : Int)))])), (ad 2, .inl (cI, 160, .inl (iA (unV B (unS n k) V n)))), (be, .inl (cI, Ln, .inl (iA (B))))]) (fun v _ => v = (unS n k : Int) ∧ True) := by
  refine z_ofMi (cc := cX4_undoTo) (maxL := 3) (ret := (some .int)) RX4 (by decide +kernel) rfl rfl (Nat.le_of_ble_eq_true rfl) ?_
  intro p0 en0 s0 m0 args0 below0 meth0 c0 ls AA hx hb hr hlocks hml hown hts hP hD hS hA hK hl
  have hl : lv_has ls 3 [(0, .ref (ad 1)), (1, .int (iI (k)))] := hl
  obtain ⟨H, hH⟩ : ∃ H, H = s0.heap := ⟨_, rfl⟩
  obtain ⟨locs, hlo⟩ : ∃ locs : List Loc, locs = [] := ⟨_, rfl⟩
  have hP : va_P D vwCl [(ad 1, .inr (4, [.ref (ad 2), .ref (be), .int (iI (n))])), (ad 2, .inl (cI, 160, .inl (iA (V)))), (be, .inl (cI, Ln, .inl (iA (B))))] H := by rw [hH]; exact hP
  have hS : va_S AA s0.heap H locs := by rw [hH, hlo]; exact hS
  suffices hW : W p0 l en0 (headSpec wsX4_undoTo ({ frames := 1, cells := 0, slots := 0, locals := 22 })).room s0 m0 args0 below0 meth0 c0 H locs 0 0 (QMi below0 D ((fun (u : Unit) => [(ad 1, .inr (4, [.ref (ad 2), .ref (be), .int (iI (n - (unS n k : Int)))])), (ad 2, .inl (cI, 160, .inl (iA (unV B (unS n k) V n)))), (be, .inl (cI, Ln, .inl (iA (B))))])) (fun v _ => v = (unS n k : Int) ∧ True) AA args0 s0 (0) (0)) (F0 m0 0 ls []) by rw [hH, hlo] at hW; exact hW
  have g_u : unS n k = (n - k).toNat := rfl
  refine lv_iconst (v := iI (0)) hx hb dX4_undoTo_0 rfl ?_
  refine lv_istore_n (lv' := [(2, .int (iI (0))), (0, .ref (ad 1)), (1, .int (iI (k)))]) hx hb dX4_undoTo_1 rfl hl (by decide) rfl (fun ls hl => ?_)
  have loop2 : ∀ (fu : Nat) (i : Nat) (m : Int) (Vx : Int → Int), (g_i : i ≤ unS n k) → (g_fu : unS n k < i + fu) → (g_m : m = n - (i : Int)) → (g_c : unV B (unS n k) V n = unV B (unS n k - i) Vx m) → ∀ (H : Heap) (locs : List Loc), va_P D vwCl [(ad 1, .inr (4, [.ref (ad 2), .ref (be), .int (iI (m))])), (ad 2, .inl (cI, 160, .inl (iA (Vx)))), (be, .inl (cI, Ln, .inl (iA (B))))] H → va_D AA [(ad 1, .inr (4, [.ref (ad 2), .ref (be), .int (iI (m))])), (ad 2, .inl (cI, 160, .inl (iA (Vx)))), (be, .inl (cI, Ln, .inl (iA (B))))] → va_S AA s0.heap H locs → ∀ ls : Array Slot, lv_has ls 3 [(2, .int (iI ((i : Int)))), (0, .ref (ad 1)), (1, .int (iI (k)))] → W p0 l en0 (headSpec wsX4_undoTo ({ frames := 1, cells := 0, slots := 0, locals := 22 })).room s0 m0 args0 below0 meth0 c0 H locs 0 0 (QMi below0 D ((fun (u : Unit) => [(ad 1, .inr (4, [.ref (ad 2), .ref (be), .int (iI (n - (unS n k : Int)))])), (ad 2, .inl (cI, 160, .inl (iA (unV B (unS n k) V n)))), (be, .inl (cI, Ln, .inl (iA (B))))])) (fun v _ => v = (unS n k : Int) ∧ True) AA args0 s0 (0) (0)) (F0 m0 2 ls []) := by
    intro fu
    induction fu with
    | zero => intro i m Vx g_i g_fu g_m g_c H locs hP hD hS ls hl; exfalso; omega
    | succ fu ih2 =>
      intro i m Vx g_i g_fu g_m g_c H locs hP hD hS ls hl
      have hB := fun q : 0 ≤ m - 1 => g_B (m - 1) q (by omega)
      refine lv_aload_n hx hb dX4_undoTo_2 rfl (lv_at hl 1 rfl) ?_
      refine va_get (D := D) (ci := 4) (v := .int (iI (m))) (C := RX4) (T := TX4) (N := 3) hx hb hts (fun _ h => List.mem_cons_of_mem _ (List.mem_append_right _ (h))) hown hK.1 hP 0 rfl rfl 2 (by decide) (hts (.fieldLink RX4 18 "ForeignKeyStore$Rows" "changeCount" "I") (List.mem_of_getElem? (i := 1) rfl)) (fun _ h9 => h9) rfl dX4_undoTo_3 ?_
      refine lv_iload_n hx hb dX4_undoTo_6 rfl (lv_at hl 2 rfl) ?_
      refine z_icmp_le (tgt := 58) hx hb dX4_undoTo_7 (by decide) ⟨⟨by omega, by omega⟩, ⟨by omega, by omega⟩⟩ (fun c_1 => ?_) (fun c_1 => ?_)
      · refine lv_iload_n hx hb dX4_undoTo_58 rfl (lv_at hl 0 rfl) ?_
        have hz : i = unS n k := by omega
        have hz2 : m = n - (unS n k : Int) := by omega
        rw [hz, Nat.sub_self, unV] at g_c
        rw [← g_c, hz2] at hP hD
        refine z_mret (()) hx hb hr hlocks dX4_undoTo_59 hP hD hS ?_
        exact ⟨by omega, trivial⟩
      · refine lv_aload_n hx hb dX4_undoTo_10 rfl (lv_at hl 1 rfl) ?_
        refine va_get (D := D) (ci := 4) (v := .int (iI (m))) (C := RX4) (T := TX4) (N := 3) hx hb hts (fun _ h => List.mem_cons_of_mem _ (List.mem_append_right _ (h))) hown hK.1 hP 0 rfl rfl 2 (by decide) (hts (.fieldLink RX4 18 "ForeignKeyStore$Rows" "changeCount" "I") (List.mem_of_getElem? (i := 1) rfl)) (fun _ h9 => h9) rfl dX4_undoTo_11 ?_
        refine z_if_le (tgt := 58) hx hb dX4_undoTo_14 (by decide) ⟨by omega, by omega⟩ (fun c_2 => ?_) (fun c_2 => ?_)
        · refine lv_iload_n hx hb dX4_undoTo_58 rfl (lv_at hl 0 rfl) ?_
          have hz : i = unS n k := by omega
          have hz2 : m = n - (unS n k : Int) := by omega
          rw [hz, Nat.sub_self, unV] at g_c
          rw [← g_c, hz2] at hP hD
          refine z_mret (()) hx hb hr hlocks dX4_undoTo_59 hP hD hS ?_
          exact ⟨by omega, trivial⟩
        · refine lv_aload_n hx hb dX4_undoTo_17 rfl (lv_at hl 1 rfl) ?_
          refine va_get (D := D) (ci := 4) (v := .int (iI (m))) (C := RX4) (T := TX4) (N := 3) hx hb hts (fun _ h => List.mem_cons_of_mem _ (List.mem_append_right _ (h))) hown hK.1 hP 0 rfl rfl 2 (by decide) (hts (.fieldLink RX4 18 "ForeignKeyStore$Rows" "changeCount" "I") (List.mem_of_getElem? (i := 1) rfl)) (fun _ h9 => h9) rfl dX4_undoTo_18 ?_
          refine lv_aload_n hx hb dX4_undoTo_21 rfl (lv_at hl 1 rfl) ?_
          refine va_get (D := D) (ci := 4) (v := .ref (be)) (C := RX4) (T := TX4) (N := 3) hx hb hts (fun _ h => List.mem_cons_of_mem _ (List.mem_append_right _ (h))) hown hK.1 hP 0 rfl rfl 1 (by decide) (hts (.fieldLink RX4 15 "ForeignKeyStore$Rows" "before" "[I") (List.mem_of_getElem? (i := 2) rfl)) (fun _ h9 => h9) rfl dX4_undoTo_22 ?_
          refine va_alen hx hb hK.1 hP 2 0 rfl rfl (v := iI (((Ln : Nat) : Int))) (iI_nI _).symm dX4_undoTo_25 ?_
          refine z_icmp_gt (tgt := 58) hx hb dX4_undoTo_26 (by decide) ⟨⟨by omega, by omega⟩, ⟨by omega, by omega⟩⟩ (fun c_3 => ?_) (fun c_3 => ?_)
          · refine lv_iload_n hx hb dX4_undoTo_58 rfl (lv_at hl 0 rfl) ?_
            have hz : i = unS n k := by omega
            have hz2 : m = n - (unS n k : Int) := by omega
            rw [hz, Nat.sub_self, unV] at g_c
            rw [← g_c, hz2] at hP hD
            refine z_mret (()) hx hb hr hlocks dX4_undoTo_59 hP hD hS ?_
            exact ⟨by omega, trivial⟩
          · refine lv_aload_n hx hb dX4_undoTo_29 rfl (lv_at hl 1 rfl) ?_
            refine lv_dup hx hb dX4_undoTo_30 rfl ?_
            refine va_get (D := D) (ci := 4) (v := .int (iI (m))) (C := RX4) (T := TX4) (N := 3) hx hb hts (fun _ h => List.mem_cons_of_mem _ (List.mem_append_right _ (h))) hown hK.1 hP 0 rfl rfl 2 (by decide) (hts (.fieldLink RX4 18 "ForeignKeyStore$Rows" "changeCount" "I") (List.mem_of_getElem? (i := 1) rfl)) (fun _ h9 => h9) rfl dX4_undoTo_31 ?_
            refine lv_iconst (v := iI (1)) hx hb dX4_undoTo_34 rfl ?_
            refine z_isub hx hb dX4_undoTo_35 ?_
            refine va_put (D := D) (ci := 4) (v := .int (iI ((m - 1)))) (ty := .int) (C := RX4) (T := TX4) (N := 3) hx hb hts (fun _ h => List.mem_cons_of_mem _ (List.mem_append_right _ (h))) tyX4 tyX4_ok nmX4 hown hK.1 hP hD hS 0 rfl rfl 2 (by decide) (hts (.fieldLink RX4 18 "ForeignKeyStore$Rows" "changeCount" "I") (List.mem_of_getElem? (i := 1) rfl)) (fun _ h9 => h9) rfl (by decide +kernel) rfl rfl (Nat.le_of_ble_eq_true rfl) dX4_undoTo_36 (fun H locs hP hD hS => ?_)
            have hP : va_P D vwCl [(ad 1, .inr (4, [.ref (ad 2), .ref (be), .int (iI ((m - 1)))])), (ad 2, .inl (cI, 160, .inl (iA (Vx)))), (be, .inl (cI, Ln, .inl (iA (B))))] H := hP
            have hD : va_D AA [(ad 1, .inr (4, [.ref (ad 2), .ref (be), .int (iI ((m - 1)))])), (ad 2, .inl (cI, 160, .inl (iA (Vx)))), (be, .inl (cI, Ln, .inl (iA (B))))] := hD
            refine lv_aload_n hx hb dX4_undoTo_39 rfl (lv_at hl 1 rfl) ?_
            refine lv_aload_n hx hb dX4_undoTo_40 rfl (lv_at hl 1 rfl) ?_
            refine va_get (D := D) (ci := 4) (v := .ref (be)) (C := RX4) (T := TX4) (N := 3) hx hb hts (fun _ h => List.mem_cons_of_mem _ (List.mem_append_right _ (h))) hown hK.1 hP 0 rfl rfl 1 (by decide) (hts (.fieldLink RX4 15 "ForeignKeyStore$Rows" "before" "[I") (List.mem_of_getElem? (i := 2) rfl)) (fun _ h9 => h9) rfl dX4_undoTo_41 ?_
            refine lv_aload_n hx hb dX4_undoTo_44 rfl (lv_at hl 1 rfl) ?_
            refine va_get (D := D) (ci := 4) (v := .int (iI ((m - 1)))) (C := RX4) (T := TX4) (N := 3) hx hb hts (fun _ h => List.mem_cons_of_mem _ (List.mem_append_right _ (h))) hown hK.1 hP 0 rfl rfl 2 (by decide) (hts (.fieldLink RX4 18 "ForeignKeyStore$Rows" "changeCount" "I") (List.mem_of_getElem? (i := 1) rfl)) (fun _ h9 => h9) rfl dX4_undoTo_45 ?_
            refine z_iald hx hb hK.1 hP 2 0 rfl rfl (by omega) (by omega) dX4_undoTo_48 ?_
            refine z_mvV (As := [.int (iI ((B ((m - 1)))))]) (rest := []) (wr := [(be, .inl (cI, Ln, .inl (iA (B))))]) (ws2 := (fun (u : Unit) => [(ad 1, .inr (4, [.ref (ad 2), .ref (be), .int (iI (((m - 1))))])), (ad 2, .inl (cI, 160, .inl (iA (reV Vx ((B ((m - 1)))))))), (be, .inl (cI, Ln, .inl (iA (B))))])) ⟨hx, hb, hml, hown, hts⟩ (c_X4_restore l D cI cZ cC H.size (ad) (be) ((m - 1)) (Vx) ((B ((m - 1)))) (by first | assumption | omega)) (cwV 1 hts gX4_undoTo_X4_restore rfl rfl rfl (by decide +kernel) ⟨Nat.le_of_ble_eq_true rfl, Nat.le_of_ble_eq_true rfl⟩) hP hD hS hA hK [0, 1] [2] [1, 2, 0] rfl (by decide) rfl (by decide) (by decide) (by decide) (fun _ => rfl) 0 4 rfl rfl rfl rfl hl.1 rfl (Nat.le_of_ble_eq_true rfl) dX4_undoTo_49 ⟨by omega, by omega⟩ (fun u H locs hq_4 hP hD hS => ?_)
            have hP : va_P D vwCl [(ad 1, .inr (4, [.ref (ad 2), .ref (be), .int (iI (((m - 1))))])), (ad 2, .inl (cI, 160, .inl (iA (reV Vx ((B ((m - 1)))))))), (be, .inl (cI, Ln, .inl (iA (B))))] H := hP
            have hD : va_D AA [(ad 1, .inr (4, [.ref (ad 2), .ref (be), .int (iI (((m - 1))))])), (ad 2, .inl (cI, 160, .inl (iA (reV Vx ((B ((m - 1)))))))), (be, .inl (cI, Ln, .inl (iA (B))))] := hD
            try dsimp only at hq_4
            refine lv_iinc (v := iI ((i : Int) + 1)) (lv' := [(2, .int (iI ((i : Int) + 1))), (0, .ref (ad 1)), (1, .int (iI (k)))]) hx hb dX4_undoTo_52 hl (k := 0) rfl (iI_add ((i : Int)) (1)) (by decide) rfl (fun ls hl => ?_)
            refine lv_goto (tgt := 2) hx hb dX4_undoTo_55 (by decide) ?_
            exact ih2 (i + 1) _ _ (by omega) (by omega) (by omega) (by rw [g_c, show unS n k - i = (unS n k - (i + 1)) + 1 by omega, unV]) _ _ hP hD hS _ (lv_sub hl [0, 1, 2] rfl)
  exact loop2 (unS n k + 1) 0 n V (by omega) (by omega) (by omega) rfl _ _ hP hD hS _ (lv_sub hl [0, 1, 2] rfl)

set_option maxHeartbeats 600000 in
set_option maxRecDepth 100000 in
theorem c_X5_count (l : Launch) (D : va_G) (cI cZ cC : ClassId) (ad : Nat → Nat) (sn : Int) : zRo l yX5_count wsX5_count ({ frames := 0, cells := 0, slots := 0, locals := 0 }) D cI cZ cC [(ad 16, .inr (5, [.ref (ad 17), .int (iI (sn))]))] [.ref (ad 16)] (sn) := by
  refine z_ofRo (cc := cX5_count) (maxL := 1) (ret := (some .int)) RX5 (by decide +kernel) rfl rfl (Nat.le_of_ble_eq_true rfl) ?_
  intro p0 en0 s0 m0 args0 below0 meth0 c0 ls hx hb hr hlocks hml hown hts hP hK hl
  have hl : lv_has ls 1 [(0, .ref (ad 16))] := hl
  refine lv_aload_n hx hb dX5_count_0 rfl (lv_at hl 0 rfl) ?_
  refine va_get (D := D) (ci := 5) (v := .int (iI (sn))) (C := RX5) (T := TX5) (N := 2) hx hb hts (fun _ h => List.mem_cons_of_mem _ (List.mem_append_right _ (h))) hown hK.1 hP 0 rfl rfl 1 (by decide) (hts (.fieldLink RX5 15 "ForeignKeyStore$SavePointList" "count" "I") (List.mem_of_getElem? (i := 1) rfl)) (fun _ h9 => h9) rfl dX5_count_1 ?_
  refine z_rret hx hb hr hlocks dX5_count_4 ?_
  rfl

set_option maxHeartbeats 600000 in
set_option maxRecDepth 100000 in
theorem c_X5_add (l : Launch) (D : va_G) (cI cZ cC : ClassId) (sz : Nat) (ad : Nat → Nat) (sn : Int) (SP : Int → Int) (x : Int) (g_s : 0 ≤ sn ∧ sn < 4) : zMv l yX5_add wsX5_add ({ frames := 0, cells := 0, slots := 0, locals := 0 }) D cI cZ cC [(ad 16, .inr (5, [.ref (ad 17), .int (iI (sn))])), (ad 17, .inl (cI, 4, .inl (iA (SP))))] sz [.ref (ad 16), .int (iI (x))] (0) (0) (fun (u : Unit) => [(ad 16, .inr (5, [.ref (ad 17), .int (iI (sn + 1))])), (ad 17, .inl (cI, 4, .inl (iA (uI SP sn x))))]) (fun _ => True) := by
  refine z_ofMv (cc := cX5_add) (maxL := 2) (ret := none) RX5 (by decide +kernel) rfl rfl (Nat.le_of_ble_eq_true rfl) ?_
  intro p0 en0 s0 m0 args0 below0 meth0 c0 ls AA hx hb hr hlocks hnm hml hown hts hP hD hS hA hK hl
  have hl : lv_has ls 2 [(0, .ref (ad 16)), (1, .int (iI (x)))] := hl
  obtain ⟨H, hH⟩ : ∃ H, H = s0.heap := ⟨_, rfl⟩
  obtain ⟨locs, hlo⟩ : ∃ locs : List Loc, locs = [] := ⟨_, rfl⟩
  have hP : va_P D vwCl [(ad 16, .inr (5, [.ref (ad 17), .int (iI (sn))])), (ad 17, .inl (cI, 4, .inl (iA (SP))))] H := by rw [hH]; exact hP
  have hS : va_S AA s0.heap H locs := by rw [hH, hlo]; exact hS
  suffices hW : W p0 l en0 (headSpec wsX5_add ({ frames := 0, cells := 0, slots := 0, locals := 0 })).room s0 m0 args0 below0 meth0 c0 H locs 0 0 (QMv below0 D ((fun (u : Unit) => [(ad 16, .inr (5, [.ref (ad 17), .int (iI (sn + 1))])), (ad 17, .inl (cI, 4, .inl (iA (uI SP sn x))))])) (fun _ => True) AA args0 s0 (0) (0)) (F0 m0 0 ls []) by rw [hH, hlo] at hW; exact hW
  refine lv_aload_n hx hb dX5_add_0 rfl (lv_at hl 0 rfl) ?_
  refine va_get (D := D) (ci := 5) (v := .int (iI (sn))) (C := RX5) (T := TX5) (N := 2) hx hb hts (fun _ h => List.mem_cons_of_mem _ (List.mem_append_right _ (h))) hown hK.1 hP 0 rfl rfl 1 (by decide) (hts (.fieldLink RX5 15 "ForeignKeyStore$SavePointList" "count" "I") (List.mem_of_getElem? (i := 1) rfl)) (fun _ h9 => h9) rfl dX5_add_1 ?_
  refine lv_iconst (v := iI (4)) hx hb dX5_add_4 rfl ?_
  refine z_icmp_ge (tgt := 28) hx hb dX5_add_5 (by decide) ⟨⟨by omega, by omega⟩, ⟨by omega, by omega⟩⟩ (fun c_1 => ?_) (fun c_1 => ?_)
  · exfalso
    omega
  · refine lv_aload_n hx hb dX5_add_8 rfl (lv_at hl 0 rfl) ?_
    refine va_get (D := D) (ci := 5) (v := .ref (ad 17)) (C := RX5) (T := TX5) (N := 2) hx hb hts (fun _ h => List.mem_cons_of_mem _ (List.mem_append_right _ (h))) hown hK.1 hP 0 rfl rfl 0 (by decide) (hts (.fieldLink RX5 9 "ForeignKeyStore$SavePointList" "changeCounts" "[I") (List.mem_of_getElem? (i := 2) rfl)) (fun _ h9 => h9) rfl dX5_add_9 ?_
    refine lv_aload_n hx hb dX5_add_12 rfl (lv_at hl 0 rfl) ?_
    refine va_get (D := D) (ci := 5) (v := .int (iI (sn))) (C := RX5) (T := TX5) (N := 2) hx hb hts (fun _ h => List.mem_cons_of_mem _ (List.mem_append_right _ (h))) hown hK.1 hP 0 rfl rfl 1 (by decide) (hts (.fieldLink RX5 15 "ForeignKeyStore$SavePointList" "count" "I") (List.mem_of_getElem? (i := 1) rfl)) (fun _ h9 => h9) rfl dX5_add_13 ?_
    refine lv_iload_n hx hb dX5_add_16 rfl (lv_at hl 1 rfl) ?_
    refine z_iast hx hb hK.1 hP hD hS 1 0 rfl rfl (by omega) (by decide) dX5_add_17 (fun H locs hP hD hS => ?_)
    have hP : va_P D vwCl [(ad 16, .inr (5, [.ref (ad 17), .int (iI (sn))])), (ad 17, .inl (cI, 4, .inl (iA (uI (SP) (sn) (x)))))] H := hP
    have hD : va_D AA [(ad 16, .inr (5, [.ref (ad 17), .int (iI (sn))])), (ad 17, .inl (cI, 4, .inl (iA (uI (SP) (sn) (x)))))] := hD
    refine lv_aload_n hx hb dX5_add_18 rfl (lv_at hl 0 rfl) ?_
    refine lv_dup hx hb dX5_add_19 rfl ?_
    refine va_get (D := D) (ci := 5) (v := .int (iI (sn))) (C := RX5) (T := TX5) (N := 2) hx hb hts (fun _ h => List.mem_cons_of_mem _ (List.mem_append_right _ (h))) hown hK.1 hP 0 rfl rfl 1 (by decide) (hts (.fieldLink RX5 15 "ForeignKeyStore$SavePointList" "count" "I") (List.mem_of_getElem? (i := 1) rfl)) (fun _ h9 => h9) rfl dX5_add_20 ?_
    refine lv_iconst (v := iI (1)) hx hb dX5_add_23 rfl ?_
    refine z_iadd hx hb dX5_add_24 ?_
    refine va_put (D := D) (ci := 5) (v := .int (iI ((sn + 1)))) (ty := .int) (C := RX5) (T := TX5) (N := 2) hx hb hts (fun _ h => List.mem_cons_of_mem _ (List.mem_append_right _ (h))) tyX5 tyX5_ok nmX5 hown hK.1 hP hD hS 0 rfl rfl 1 (by decide) (hts (.fieldLink RX5 15 "ForeignKeyStore$SavePointList" "count" "I") (List.mem_of_getElem? (i := 1) rfl)) (fun _ h9 => h9) rfl (by decide +kernel) rfl rfl (Nat.le_of_ble_eq_true rfl) dX5_add_25 (fun H locs hP hD hS => ?_)
    have hP : va_P D vwCl [(ad 16, .inr (5, [.ref (ad 17), .int (iI ((sn + 1)))])), (ad 17, .inl (cI, 4, .inl (iA (uI (SP) (sn) (x)))))] H := hP
    have hD : va_D AA [(ad 16, .inr (5, [.ref (ad 17), .int (iI ((sn + 1)))])), (ad 17, .inl (cI, 4, .inl (iA (uI (SP) (sn) (x)))))] := hD
    refine z_vret (()) hx hb hr hlocks dX5_add_28 hP hD hS ?_
    exact trivial

set_option maxHeartbeats 600000 in
set_option maxRecDepth 100000 in
theorem c_X5_changesAt (l : Launch) (D : va_G) (cI cZ cC : ClassId) (ad : Nat → Nat) (sn : Int) (SP : Int → Int) (x : Int) (g_s : 0 ≤ x ∧ x < 4) : zRo l yX5_changesAt wsX5_changesAt ({ frames := 0, cells := 0, slots := 0, locals := 0 }) D cI cZ cC [(ad 16, .inr (5, [.ref (ad 17), .int (iI (sn))])), (ad 17, .inl (cI, 4, .inl (iA (SP))))] [.ref (ad 16), .int (iI (x))] (SP x) := by
  refine z_ofRo (cc := cX5_changesAt) (maxL := 2) (ret := (some .int)) RX5 (by decide +kernel) rfl rfl (Nat.le_of_ble_eq_true rfl) ?_
  intro p0 en0 s0 m0 args0 below0 meth0 c0 ls hx hb hr hlocks hml hown hts hP hK hl
  have hl : lv_has ls 2 [(0, .ref (ad 16)), (1, .int (iI (x)))] := hl
  refine lv_iload_n hx hb dX5_changesAt_0 rfl (lv_at hl 1 rfl) ?_
  refine z_if_lt (tgt := 18) hx hb dX5_changesAt_1 (by decide) ⟨by omega, by omega⟩ (fun c_1 => ?_) (fun c_1 => ?_)
  · exfalso
    omega
  · refine lv_iload_n hx hb dX5_changesAt_4 rfl (lv_at hl 1 rfl) ?_
    refine lv_iconst (v := iI (4)) hx hb dX5_changesAt_5 rfl ?_
    refine z_icmp_ge (tgt := 18) hx hb dX5_changesAt_6 (by decide) ⟨⟨by omega, by omega⟩, ⟨by omega, by omega⟩⟩ (fun c_2 => ?_) (fun c_2 => ?_)
    · exfalso
      omega
    · refine lv_aload_n hx hb dX5_changesAt_9 rfl (lv_at hl 0 rfl) ?_
      refine va_get (D := D) (ci := 5) (v := .ref (ad 17)) (C := RX5) (T := TX5) (N := 2) hx hb hts (fun _ h => List.mem_cons_of_mem _ (List.mem_append_right _ (h))) hown hK.1 hP 0 rfl rfl 0 (by decide) (hts (.fieldLink RX5 9 "ForeignKeyStore$SavePointList" "changeCounts" "[I") (List.mem_of_getElem? (i := 1) rfl)) (fun _ h9 => h9) rfl dX5_changesAt_10 ?_
      refine lv_iload_n hx hb dX5_changesAt_13 rfl (lv_at hl 1 rfl) ?_
      refine z_iald hx hb hK.1 hP 1 0 rfl rfl (by omega) (by decide) dX5_changesAt_14 ?_
      refine lv_goto (tgt := 19) hx hb dX5_changesAt_15 (by decide) ?_
      refine z_rret hx hb hr hlocks dX5_changesAt_19 ?_
      rfl

set_option maxHeartbeats 600000 in
set_option maxRecDepth 100000 in
theorem c_X5_cutTo (l : Launch) (D : va_G) (cI cZ cC : ClassId) (sz : Nat) (ad : Nat → Nat) (sn x : Int) : zMv l yX5_cutTo wsX5_cutTo ({ frames := 0, cells := 0, slots := 0, locals := 0 }) D cI cZ cC [(ad 16, .inr (5, [.ref (ad 17), .int (iI (sn))]))] sz [.ref (ad 16), .int (iI (x))] (0) (0) (fun (u : Unit) => [(ad 16, .inr (5, [.ref (ad 17), .int (iI (x))]))]) (fun _ => True) := by
  refine z_ofMv (cc := cX5_cutTo) (maxL := 2) (ret := none) RX5 (by decide +kernel) rfl rfl (Nat.le_of_ble_eq_true rfl) ?_
  intro p0 en0 s0 m0 args0 below0 meth0 c0 ls AA hx hb hr hlocks hnm hml hown hts hP hD hS hA hK hl
  have hl : lv_has ls 2 [(0, .ref (ad 16)), (1, .int (iI (x)))] := hl
  obtain ⟨H, hH⟩ : ∃ H, H = s0.heap := ⟨_, rfl⟩
  obtain ⟨locs, hlo⟩ : ∃ locs : List Loc, locs = [] := ⟨_, rfl⟩
  have hP : va_P D vwCl [(ad 16, .inr (5, [.ref (ad 17), .int (iI (sn))]))] H := by rw [hH]; exact hP
  have hS : va_S AA s0.heap H locs := by rw [hH, hlo]; exact hS
  suffices hW : W p0 l en0 (headSpec wsX5_cutTo ({ frames := 0, cells := 0, slots := 0, locals := 0 })).room s0 m0 args0 below0 meth0 c0 H locs 0 0 (QMv below0 D ((fun (u : Unit) => [(ad 16, .inr (5, [.ref (ad 17), .int (iI (x))]))])) (fun _ => True) AA args0 s0 (0) (0)) (F0 m0 0 ls []) by rw [hH, hlo] at hW; exact hW
  refine lv_aload_n hx hb dX5_cutTo_0 rfl (lv_at hl 0 rfl) ?_
  refine lv_iload_n hx hb dX5_cutTo_1 rfl (lv_at hl 1 rfl) ?_
  refine va_put (D := D) (ci := 5) (v := .int (iI (x))) (ty := .int) (C := RX5) (T := TX5) (N := 2) hx hb hts (fun _ h => List.mem_cons_of_mem _ (List.mem_append_right _ (h))) tyX5 tyX5_ok nmX5 hown hK.1 hP hD hS 0 rfl rfl 1 (by decide) (hts (.fieldLink RX5 15 "ForeignKeyStore$SavePointList" "count" "I") (List.mem_of_getElem? (i := 1) rfl)) (fun _ h9 => h9) rfl (by decide +kernel) rfl rfl (Nat.le_of_ble_eq_true rfl) dX5_cutTo_2 (fun H locs hP hD hS => ?_)
  have hP : va_P D vwCl [(ad 16, .inr (5, [.ref (ad 17), .int (iI (x))]))] H := hP
  have hD : va_D AA [(ad 16, .inr (5, [.ref (ad 17), .int (iI (x))]))] := hD
  refine z_vret (()) hx hb hr hlocks dX5_cutTo_5 hP hD hS ?_
  exact trivial

set_option maxHeartbeats 600000 in
set_option maxRecDepth 100000 in
theorem c_X0_put (l : Launch) (D : va_G) (cI cZ cC : ClassId) (sz : Nat) (ad : Nat → Nat) (P Ac Mo : Int → Int) (k par act d : Int) (g_k : 0 ≤ k ∧ k < 8) (g_d : d = 0 ∨ d = 1) : zMv l yX0_put wsX0_put ({ frames := 0, cells := 0, slots := 0, locals := 0 }) D cI cZ cC [(ad 4, .inr (0, [.ref (ad 1), .ref (ad 5), .ref (ad 6), .ref (ad 7)])), (ad 5, .inl (cI, 8, .inl (iA (P)))), (ad 6, .inl (cI, 8, .inl (iA (Ac)))), (ad 7, .inl (cZ, 8, .inl (iA (Mo))))] sz [.ref (ad 4), .int (iI (k)), .int (iI (par)), .int (iI (act)), .int (iI (d))] (0) (0) (fun (u : Unit) => [(ad 4, .inr (0, [.ref (ad 1), .ref (ad 5), .ref (ad 6), .ref (ad 7)])), (ad 5, .inl (cI, 8, .inl (iA (uI P k par)))), (ad 6, .inl (cI, 8, .inl (iA (uI Ac k act)))), (ad 7, .inl (cZ, 8, .inl (iA (uI Mo k d))))]) (fun _ => True) := by
  refine z_ofMv (cc := cX0_put) (maxL := 5) (ret := none) RX0 (by decide +kernel) rfl rfl (Nat.le_of_ble_eq_true rfl) ?_
  intro p0 en0 s0 m0 args0 below0 meth0 c0 ls AA hx hb hr hlocks hnm hml hown hts hP hD hS hA hK hl
  have hl : lv_has ls 5 [(0, .ref (ad 4)), (1, .int (iI (k))), (2, .int (iI (par))), (3, .int (iI (act))), (4, .int (iI (d)))] := hl
  obtain ⟨H, hH⟩ : ∃ H, H = s0.heap := ⟨_, rfl⟩
  obtain ⟨locs, hlo⟩ : ∃ locs : List Loc, locs = [] := ⟨_, rfl⟩
  have hP : va_P D vwCl [(ad 4, .inr (0, [.ref (ad 1), .ref (ad 5), .ref (ad 6), .ref (ad 7)])), (ad 5, .inl (cI, 8, .inl (iA (P)))), (ad 6, .inl (cI, 8, .inl (iA (Ac)))), (ad 7, .inl (cZ, 8, .inl (iA (Mo))))] H := by rw [hH]; exact hP
  have hS : va_S AA s0.heap H locs := by rw [hH, hlo]; exact hS
  suffices hW : W p0 l en0 (headSpec wsX0_put ({ frames := 0, cells := 0, slots := 0, locals := 0 })).room s0 m0 args0 below0 meth0 c0 H locs 0 0 (QMv below0 D ((fun (u : Unit) => [(ad 4, .inr (0, [.ref (ad 1), .ref (ad 5), .ref (ad 6), .ref (ad 7)])), (ad 5, .inl (cI, 8, .inl (iA (uI P k par)))), (ad 6, .inl (cI, 8, .inl (iA (uI Ac k act)))), (ad 7, .inl (cZ, 8, .inl (iA (uI Mo k d))))])) (fun _ => True) AA args0 s0 (0) (0)) (F0 m0 0 ls []) by rw [hH, hlo] at hW; exact hW
  refine lv_iload_n hx hb dX0_put_0 rfl (lv_at hl 1 rfl) ?_
  refine z_if_lt (tgt := 32) hx hb dX0_put_1 (by decide) ⟨by omega, by omega⟩ (fun c_1 => ?_) (fun c_1 => ?_)
  · exfalso
    omega
  · refine lv_iload_n hx hb dX0_put_4 rfl (lv_at hl 1 rfl) ?_
    refine lv_bipush (v := iI (8)) hx hb dX0_put_5 (by decide) ?_
    refine z_icmp_ge (tgt := 32) hx hb dX0_put_7 (by decide) ⟨⟨by omega, by omega⟩, ⟨by omega, by omega⟩⟩ (fun c_2 => ?_) (fun c_2 => ?_)
    · exfalso
      omega
    · refine lv_aload_n hx hb dX0_put_10 rfl (lv_at hl 0 rfl) ?_
      refine va_get (D := D) (ci := 0) (v := .ref (ad 5)) (C := RX0) (T := TX0) (N := 4) hx hb hts (fun _ h => List.mem_cons_of_mem _ (List.mem_append_right _ (h))) hown hK.1 hP 0 rfl rfl 1 (by decide) (hts (.fieldLink RX0 9 "ForeignKeyStore$Constraints" "parents" "[I") (List.mem_of_getElem? (i := 1) rfl)) (fun _ h9 => h9) rfl dX0_put_11 ?_
      refine lv_iload_n hx hb dX0_put_14 rfl (lv_at hl 1 rfl) ?_
      refine lv_iload_n hx hb dX0_put_15 rfl (lv_at hl 2 rfl) ?_
      refine z_iast hx hb hK.1 hP hD hS 1 0 rfl rfl (by omega) (by decide) dX0_put_16 (fun H locs hP hD hS => ?_)
      have hP : va_P D vwCl [(ad 4, .inr (0, [.ref (ad 1), .ref (ad 5), .ref (ad 6), .ref (ad 7)])), (ad 5, .inl (cI, 8, .inl (iA (uI (P) (k) (par))))), (ad 6, .inl (cI, 8, .inl (iA (Ac)))), (ad 7, .inl (cZ, 8, .inl (iA (Mo))))] H := hP
      have hD : va_D AA [(ad 4, .inr (0, [.ref (ad 1), .ref (ad 5), .ref (ad 6), .ref (ad 7)])), (ad 5, .inl (cI, 8, .inl (iA (uI (P) (k) (par))))), (ad 6, .inl (cI, 8, .inl (iA (Ac)))), (ad 7, .inl (cZ, 8, .inl (iA (Mo))))] := hD
      refine lv_aload_n hx hb dX0_put_17 rfl (lv_at hl 0 rfl) ?_
      refine va_get (D := D) (ci := 0) (v := .ref (ad 6)) (C := RX0) (T := TX0) (N := 4) hx hb hts (fun _ h => List.mem_cons_of_mem _ (List.mem_append_right _ (h))) hown hK.1 hP 0 rfl rfl 2 (by decide) (hts (.fieldLink RX0 15 "ForeignKeyStore$Constraints" "actions" "[I") (List.mem_of_getElem? (i := 2) rfl)) (fun _ h9 => h9) rfl dX0_put_18 ?_
      refine lv_iload_n hx hb dX0_put_21 rfl (lv_at hl 1 rfl) ?_
      refine lv_iload_n hx hb dX0_put_22 rfl (lv_at hl 3 rfl) ?_
      refine z_iast hx hb hK.1 hP hD hS 2 0 rfl rfl (by omega) (by decide) dX0_put_23 (fun H locs hP hD hS => ?_)
      have hP : va_P D vwCl [(ad 4, .inr (0, [.ref (ad 1), .ref (ad 5), .ref (ad 6), .ref (ad 7)])), (ad 5, .inl (cI, 8, .inl (iA (uI (P) (k) (par))))), (ad 6, .inl (cI, 8, .inl (iA (uI (Ac) (k) (act))))), (ad 7, .inl (cZ, 8, .inl (iA (Mo))))] H := hP
      have hD : va_D AA [(ad 4, .inr (0, [.ref (ad 1), .ref (ad 5), .ref (ad 6), .ref (ad 7)])), (ad 5, .inl (cI, 8, .inl (iA (uI (P) (k) (par))))), (ad 6, .inl (cI, 8, .inl (iA (uI (Ac) (k) (act))))), (ad 7, .inl (cZ, 8, .inl (iA (Mo))))] := hD
      refine lv_aload_n hx hb dX0_put_24 rfl (lv_at hl 0 rfl) ?_
      refine va_get (D := D) (ci := 0) (v := .ref (ad 7)) (C := RX0) (T := TX0) (N := 4) hx hb hts (fun _ h => List.mem_cons_of_mem _ (List.mem_append_right _ (h))) hown hK.1 hP 0 rfl rfl 3 (by decide) (hts (.fieldLink RX0 18 "ForeignKeyStore$Constraints" "modes" "[Z") (List.mem_of_getElem? (i := 3) rfl)) (fun _ h9 => h9) rfl dX0_put_25 ?_
      refine lv_iload_n hx hb dX0_put_28 rfl (lv_at hl 1 rfl) ?_
      refine lv_iload hx hb dX0_put_29 (lv_at hl 4 rfl) ?_
      refine z_zast hx hb hK.1 hP hD hS 3 1 rfl rfl (by omega) (by decide) (by omega) dX0_put_31 (fun H locs hP hD hS => ?_)
      have hP : va_P D vwCl [(ad 4, .inr (0, [.ref (ad 1), .ref (ad 5), .ref (ad 6), .ref (ad 7)])), (ad 5, .inl (cI, 8, .inl (iA (uI (P) (k) (par))))), (ad 6, .inl (cI, 8, .inl (iA (uI (Ac) (k) (act))))), (ad 7, .inl (cZ, 8, .inl (iA (uI (Mo) (k) (d)))))] H := hP
      have hD : va_D AA [(ad 4, .inr (0, [.ref (ad 1), .ref (ad 5), .ref (ad 6), .ref (ad 7)])), (ad 5, .inl (cI, 8, .inl (iA (uI (P) (k) (par))))), (ad 6, .inl (cI, 8, .inl (iA (uI (Ac) (k) (act))))), (ad 7, .inl (cZ, 8, .inl (iA (uI (Mo) (k) (d)))))] := hD
      refine z_vret (()) hx hb hr hlocks dX0_put_32 hP hD hS ?_
      exact trivial

set_option maxHeartbeats 600000 in
set_option maxRecDepth 100000 in
theorem c_X0_putMode (l : Launch) (D : va_G) (cI cZ cC : ClassId) (sz : Nat) (ad : Nat → Nat) (Mo : Int → Int) (k d : Int) (g_k : 0 ≤ k ∧ k < 8) (g_d : d = 0 ∨ d = 1) : zMv l yX0_putMode wsX0_putMode ({ frames := 0, cells := 0, slots := 0, locals := 0 }) D cI cZ cC [(ad 4, .inr (0, [.ref (ad 1), .ref (ad 5), .ref (ad 6), .ref (ad 7)])), (ad 7, .inl (cZ, 8, .inl (iA (Mo))))] sz [.ref (ad 4), .int (iI (k)), .int (iI (d))] (0) (0) (fun (u : Unit) => [(ad 4, .inr (0, [.ref (ad 1), .ref (ad 5), .ref (ad 6), .ref (ad 7)])), (ad 7, .inl (cZ, 8, .inl (iA (uI Mo k d))))]) (fun _ => True) := by
  refine z_ofMv (cc := cX0_putMode) (maxL := 3) (ret := none) RX0 (by decide +kernel) rfl rfl (Nat.le_of_ble_eq_true rfl) ?_
  intro p0 en0 s0 m0 args0 below0 meth0 c0 ls AA hx hb hr hlocks hnm hml hown hts hP hD hS hA hK hl
  have hl : lv_has ls 3 [(0, .ref (ad 4)), (1, .int (iI (k))), (2, .int (iI (d)))] := hl
  obtain ⟨H, hH⟩ : ∃ H, H = s0.heap := ⟨_, rfl⟩
  obtain ⟨locs, hlo⟩ : ∃ locs : List Loc, locs = [] := ⟨_, rfl⟩
  have hP : va_P D vwCl [(ad 4, .inr (0, [.ref (ad 1), .ref (ad 5), .ref (ad 6), .ref (ad 7)])), (ad 7, .inl (cZ, 8, .inl (iA (Mo))))] H := by rw [hH]; exact hP
  have hS : va_S AA s0.heap H locs := by rw [hH, hlo]; exact hS
  suffices hW : W p0 l en0 (headSpec wsX0_putMode ({ frames := 0, cells := 0, slots := 0, locals := 0 })).room s0 m0 args0 below0 meth0 c0 H locs 0 0 (QMv below0 D ((fun (u : Unit) => [(ad 4, .inr (0, [.ref (ad 1), .ref (ad 5), .ref (ad 6), .ref (ad 7)])), (ad 7, .inl (cZ, 8, .inl (iA (uI Mo k d))))])) (fun _ => True) AA args0 s0 (0) (0)) (F0 m0 0 ls []) by rw [hH, hlo] at hW; exact hW
  refine lv_iload_n hx hb dX0_putMode_0 rfl (lv_at hl 1 rfl) ?_
  refine z_if_lt (tgt := 17) hx hb dX0_putMode_1 (by decide) ⟨by omega, by omega⟩ (fun c_1 => ?_) (fun c_1 => ?_)
  · exfalso
    omega
  · refine lv_iload_n hx hb dX0_putMode_4 rfl (lv_at hl 1 rfl) ?_
    refine lv_bipush (v := iI (8)) hx hb dX0_putMode_5 (by decide) ?_
    refine z_icmp_ge (tgt := 17) hx hb dX0_putMode_7 (by decide) ⟨⟨by omega, by omega⟩, ⟨by omega, by omega⟩⟩ (fun c_2 => ?_) (fun c_2 => ?_)
    · exfalso
      omega
    · refine lv_aload_n hx hb dX0_putMode_10 rfl (lv_at hl 0 rfl) ?_
      refine va_get (D := D) (ci := 0) (v := .ref (ad 7)) (C := RX0) (T := TX0) (N := 4) hx hb hts (fun _ h => List.mem_cons_of_mem _ (List.mem_append_right _ (h))) hown hK.1 hP 0 rfl rfl 3 (by decide) (hts (.fieldLink RX0 18 "ForeignKeyStore$Constraints" "modes" "[Z") (List.mem_of_getElem? (i := 1) rfl)) (fun _ h9 => h9) rfl dX0_putMode_11 ?_
      refine lv_iload_n hx hb dX0_putMode_14 rfl (lv_at hl 1 rfl) ?_
      refine lv_iload_n hx hb dX0_putMode_15 rfl (lv_at hl 2 rfl) ?_
      refine z_zast hx hb hK.1 hP hD hS 1 1 rfl rfl (by omega) (by decide) (by omega) dX0_putMode_16 (fun H locs hP hD hS => ?_)
      have hP : va_P D vwCl [(ad 4, .inr (0, [.ref (ad 1), .ref (ad 5), .ref (ad 6), .ref (ad 7)])), (ad 7, .inl (cZ, 8, .inl (iA (uI (Mo) (k) (d)))))] H := hP
      have hD : va_D AA [(ad 4, .inr (0, [.ref (ad 1), .ref (ad 5), .ref (ad 6), .ref (ad 7)])), (ad 7, .inl (cZ, 8, .inl (iA (uI (Mo) (k) (d)))))] := hD
      refine z_vret (()) hx hb hr hlocks dX0_putMode_17 hP hD hS ?_
      exact trivial

set_option maxHeartbeats 600000 in
set_option maxRecDepth 100000 in
theorem c_X0_remove (l : Launch) (D : va_G) (cI cZ cC : ClassId) (sz : Nat) (ad : Nat → Nat) (P Ac Mo : Int → Int) (k : Int) (g_k : 0 ≤ k ∧ k < 8) : zMv l yX0_remove wsX0_remove ({ frames := 1, cells := 0, slots := 0, locals := 24 }) D cI cZ cC [(ad 4, .inr (0, [.ref (ad 1), .ref (ad 5), .ref (ad 6), .ref (ad 7)])), (ad 5, .inl (cI, 8, .inl (iA (P)))), (ad 6, .inl (cI, 8, .inl (iA (Ac)))), (ad 7, .inl (cZ, 8, .inl (iA (Mo))))] sz [.ref (ad 4), .int (iI (k))] (0) (0) (fun (u : Unit) => [(ad 4, .inr (0, [.ref (ad 1), .ref (ad 5), .ref (ad 6), .ref (ad 7)])), (ad 5, .inl (cI, 8, .inl (iA (uI P k (-2))))), (ad 6, .inl (cI, 8, .inl (iA (uI Ac k 1)))), (ad 7, .inl (cZ, 8, .inl (iA (uI Mo k 0))))]) (fun _ => True) := by
  refine z_ofMv (cc := cX0_remove) (maxL := 2) (ret := none) RX0 (by decide +kernel) rfl rfl (Nat.le_of_ble_eq_true rfl) ?_
  intro p0 en0 s0 m0 args0 below0 meth0 c0 ls AA hx hb hr hlocks hnm hml hown hts hP hD hS hA hK hl
  have hl : lv_has ls 2 [(0, .ref (ad 4)), (1, .int (iI (k)))] := hl
  obtain ⟨H, hH⟩ : ∃ H, H = s0.heap := ⟨_, rfl⟩
  obtain ⟨locs, hlo⟩ : ∃ locs : List Loc, locs = [] := ⟨_, rfl⟩
  have hP : va_P D vwCl [(ad 4, .inr (0, [.ref (ad 1), .ref (ad 5), .ref (ad 6), .ref (ad 7)])), (ad 5, .inl (cI, 8, .inl (iA (P)))), (ad 6, .inl (cI, 8, .inl (iA (Ac)))), (ad 7, .inl (cZ, 8, .inl (iA (Mo))))] H := by rw [hH]; exact hP
  have hS : va_S AA s0.heap H locs := by rw [hH, hlo]; exact hS
  suffices hW : W p0 l en0 (headSpec wsX0_remove ({ frames := 1, cells := 0, slots := 0, locals := 24 })).room s0 m0 args0 below0 meth0 c0 H locs 0 0 (QMv below0 D ((fun (u : Unit) => [(ad 4, .inr (0, [.ref (ad 1), .ref (ad 5), .ref (ad 6), .ref (ad 7)])), (ad 5, .inl (cI, 8, .inl (iA (uI P k (-2))))), (ad 6, .inl (cI, 8, .inl (iA (uI Ac k 1)))), (ad 7, .inl (cZ, 8, .inl (iA (uI Mo k 0))))])) (fun _ => True) AA args0 s0 (0) (0)) (F0 m0 0 ls []) by rw [hH, hlo] at hW; exact hW
  refine lv_aload_n hx hb dX0_remove_0 rfl (lv_at hl 0 rfl) ?_
  refine lv_iload_n hx hb dX0_remove_1 rfl (lv_at hl 1 rfl) ?_
  refine lv_bipush (v := iI (-2)) hx hb dX0_remove_2 (by decide) ?_
  refine lv_iconst (v := iI (1)) hx hb dX0_remove_4 rfl ?_
  refine lv_iconst (v := iI (0)) hx hb dX0_remove_5 rfl ?_
  refine z_mvV (As := [.int (iI (k)), .int (iI ((-2))), .int (iI (1)), .int (iI (0))]) (rest := []) (wr := []) (ws2 := (fun (u : Unit) => [(ad 4, .inr (0, [.ref (ad 1), .ref (ad 5), .ref (ad 6), .ref (ad 7)])), (ad 5, .inl (cI, 8, .inl (iA (uI P k ((-2)))))), (ad 6, .inl (cI, 8, .inl (iA (uI Ac k 1)))), (ad 7, .inl (cZ, 8, .inl (iA (uI Mo k 0))))])) ⟨hx, hb, hml, hown, hts⟩ (c_X0_put l D cI cZ cC H.size (ad) (P) (Ac) (Mo) (k) ((-2)) (1) (0) (by first | assumption | omega) (by first | assumption | omega)) (cwV 4 hts gX0_remove_X0_put rfl rfl rfl (by decide +kernel) ⟨Nat.le_of_ble_eq_true rfl, Nat.le_of_ble_eq_true rfl⟩) hP hD hS hA hK [0, 1, 2, 3] [] [0, 1, 2, 3] rfl (by decide) rfl (by decide) (by decide) (by decide) (fun _ => rfl) 0 0 rfl rfl rfl rfl hl.1 rfl (Nat.le_of_ble_eq_true rfl) dX0_remove_6 ⟨by omega, by omega⟩ (fun u H locs hq_1 hP hD hS => ?_)
  have hP : va_P D vwCl [(ad 4, .inr (0, [.ref (ad 1), .ref (ad 5), .ref (ad 6), .ref (ad 7)])), (ad 5, .inl (cI, 8, .inl (iA (uI P k ((-2)))))), (ad 6, .inl (cI, 8, .inl (iA (uI Ac k 1)))), (ad 7, .inl (cZ, 8, .inl (iA (uI Mo k 0))))] H := hP
  have hD : va_D AA [(ad 4, .inr (0, [.ref (ad 1), .ref (ad 5), .ref (ad 6), .ref (ad 7)])), (ad 5, .inl (cI, 8, .inl (iA (uI P k ((-2)))))), (ad 6, .inl (cI, 8, .inl (iA (uI Ac k 1)))), (ad 7, .inl (cZ, 8, .inl (iA (uI Mo k 0))))] := hD
  try dsimp only at hq_1
  refine z_vret (()) hx hb hr hlocks dX0_remove_9 hP hD hS ?_
  exact trivial

