abbrev Lg : Type := List (Int × Int × Int)
abbrev DS : Type := (Int → Int) × Lg × List Int
/-- the list of changes, the latest first: a row, and the values that it had -/
def isL : Lg → (Int → Int) → Int → Prop
  | [], _, n => n = 0
  | e :: lg, B, n => B (n - 1) = pk e.1 (e.2.1 - -2) (e.2.2 - -2) ∧ (0 ≤ e.1 ∧ e.1 < 80 ∧ -2 ≤ e.2.1 ∧ e.2.1 ≤ 19 ∧ -2 ≤ e.2.2 ∧ e.2.2 ≤ 19) ∧ isL lg B (n - 1)
theorem isL_n : ∀ {lg : Lg} {B : Int → Int} {n : Int}, isL lg B n → n = (lg.length : Int)
  | [], _, _, h => h
  | e :: lg, B, n, h => by
    have h1 := isL_n h.2.2
    simp only [List.length_cons]
    omega
theorem isL_ag : ∀ {lg : Lg} {B B2 : Int → Int} {n : Int}, isL lg B n → (∀ j : Int, 0 ≤ j → j < n → B2 j = B j) → isL lg B2 n
  | [], _, _, _, h, _ => h
  | e :: lg, B, B2, n, h, g => by
    have h1 := isL_n h.2.2
    exact ⟨by rw [g (n - 1) (by omega) (by omega)]; exact h.1, h.2.1, isL_ag h.2.2 (fun j a b => g j a (by omega))⟩
theorem isL_b : ∀ {lg : Lg} {B : Int → Int} {n : Int}, isL lg B n → ∀ j : Int, 0 ≤ j → j < n → 0 ≤ B j ∧ B j < 81920
  | [], _, n, h, j, h1, h2 => by
    have h3 : n = 0 := h
    omega
  | e :: lg, B, n, h, j, h1, h2 => by
    by_cases hj : j = n - 1
    · rw [hj, h.1]
      have := h.2.1
      unfold pk
      omega
    · exact isL_b h.2.2 j h1 (by omega)
def pe (V : Int → Int) (r : Int) : Int × Int × Int := (r, V (r * 2), V (r * 2 + 1))
theorem isL_push {lg : Lg} {B V : Int → Int} {n r : Int} (h : isL lg B n) (gV : ∀ j : Int, 0 ≤ j → j < 160 → -2 ≤ V j ∧ V j ≤ 19) (hr : 0 ≤ r ∧ r < 80) : isL (pe V r :: lg) (wrB B n r V) (n + 1) := by
  have m1 := gV (r * 2) (by omega) (by omega)
  have m2 := gV (r * 2 + 1) (by omega) (by omega)
  refine ⟨?_, ⟨hr.1, hr.2, m1.1, m1.2, m2.1, m2.2⟩, ?_⟩
  · unfold wrB
    rw [show n + 1 - 1 = n by omega, uI_s]
    rfl
  · rw [show n + 1 - 1 = n by omega]
    exact isL_ag h (fun j _ h2 => uI_n (by omega))
def okV (V : Int → Int) : Prop := ∀ r : Int, 0 ≤ r → r < 80 → (V (r * 2) = -2 ↔ V (r * 2 + 1) = -2)
/-- what a row can still cost: its removal, and its columns set to NULL -/
def potV (a b : Int) : Int := if a = -2 then 0 else 1 + (if 0 ≤ a then 1 else 0) + (if 0 ≤ b then 1 else 0)
noncomputable def pot (V : Int → Int) : Int := sumN (fun r => potV (V (r * 2)) (V (r * 2 + 1))) 80
def bndV (V : Int → Int) : Prop := ∀ j : Int, 0 ≤ j → j < 160 → -2 ≤ V j ∧ V j ≤ 19
def okD (Ln : Nat) (V : Int → Int) (n : Int) : Prop := (∀ j : Int, 0 ≤ j → j < 160 → -2 ≤ V j ∧ V j ≤ 19) ∧ okV V ∧ (0 ≤ n ∧ n + pot V ≤ (Ln : Int) ∧ Ln < 2147483648)
theorem potV_b (a b : Int) : 0 ≤ potV a b ∧ potV a b ≤ 3 := by
  unfold potV
  repeat' split
  all_goals omega
theorem sumN_up {f g : Int → Int} {r : Int} : ∀ n : Nat, (∀ i : Int, i ≠ r → f i = g i) → 0 ≤ r → r < (n : Int) → sumN f n = sumN g n - g r + f r
  | 0, _, h1, h2 => by omega
  | n + 1, h, h1, h2 => by
    rw [sumN, sumN]
    by_cases hr : r = (n : Int)
    · have h3 : ∀ k : Nat, (k : Int) ≤ r → sumN f k = sumN g k := by
        intro k
        induction k with
        | zero => intro _; rfl
        | succ k ih =>
          intro hk
          rw [sumN, sumN, ih (by omega), h (k : Int) (by omega)]
      rw [h3 n (by omega), hr]
      omega
    · rw [sumN_up n h h1 (by omega), h (n : Int) (by omega)]
      omega
theorem sumN_nn {f : Int → Int} (h : ∀ i, 0 ≤ f i) : ∀ n : Nat, 0 ≤ sumN f n
  | 0 => by simp [sumN]
  | n + 1 => by
    have h1 := sumN_nn h n
    have h2 := h (n : Int)
    rw [sumN]
    omega
theorem sumN_le {f : Int → Int} {c : Int} (h : ∀ i, f i ≤ c) : ∀ n : Nat, sumN f n ≤ c * n
  | 0 => by simp [sumN]
  | n + 1 => by
    have h1 := sumN_le h n
    have h2 := h (n : Int)
    have h3 : c * ((n + 1 : Nat) : Int) = c * (n : Int) + c := by
      rw [Int.natCast_add, Int.mul_add]
      simp
    rw [sumN, h3]
    omega
theorem pot_b (V : Int → Int) : 0 ≤ pot V ∧ pot V ≤ 240 := by
  have h1 := sumN_nn (f := fun r => potV (V (r * 2)) (V (r * 2 + 1))) (fun i => (potV_b _ _).1) 80
  have h2 := sumN_le (f := fun r => potV (V (r * 2)) (V (r * 2 + 1))) (c := 3) (fun i => (potV_b _ _).2) 80
  unfold pot
  omega
theorem wrV_l {V : Int → Int} {r a b : Int} : wrV V r a b (r * 2) = a := by
  unfold wrV
  rw [uI_n (by omega), uI_s]
theorem wrV_r {V : Int → Int} {r a b : Int} : wrV V r a b (r * 2 + 1) = b := by
  unfold wrV
  rw [uI_s]
theorem wrV_o {V : Int → Int} {r a b j : Int} (h1 : j ≠ r * 2) (h2 : j ≠ r * 2 + 1) : wrV V r a b j = V j := by
  unfold wrV
  rw [uI_n h2, uI_n h1]
theorem pot_wr {V : Int → Int} {r a b : Int} (h1 : 0 ≤ r) (h2 : r < 80) : pot (wrV V r a b) = pot V - potV (V (r * 2)) (V (r * 2 + 1)) + potV a b := by
  unfold pot
  rw [sumN_up (r := r) (g := fun r => potV (V (r * 2)) (V (r * 2 + 1))) 80 (fun i hi => by
    show potV (wrV V r a b (i * 2)) (wrV V r a b (i * 2 + 1)) = potV (V (i * 2)) (V (i * 2 + 1))
    rw [wrV_o (by omega) (by omega), wrV_o (by omega) (by omega)]) h1 (by omega)]
  show _ + potV (wrV V r a b (r * 2)) (wrV V r a b (r * 2 + 1)) = _
  rw [wrV_l, wrV_r]
theorem okD_wr {Ln : Nat} {V : Int → Int} {n r a b : Int} (g : okD Ln V n) (h1 : 0 ≤ r) (h2 : r < 80) (hab : (a = -2 ∧ b = -2) ∨ (-1 ≤ a ∧ a ≤ 19 ∧ -1 ≤ b ∧ b ≤ 19)) (hc : n + 1 + (pot V - potV (V (r * 2)) (V (r * 2 + 1)) + potV a b) ≤ (Ln : Int)) : okD Ln (wrV V r a b) (n + 1) := by
  obtain ⟨k1, k2, k4, k5, k6⟩ := g
  refine ⟨fun j q1 q2 => ?_, fun x q1 q2 => ?_, by omega, by rw [pot_wr h1 h2]; exact hc, k6⟩
  · by_cases e1 : j = r * 2
    · rw [e1, wrV_l]; omega
    · by_cases e2 : j = r * 2 + 1
      · rw [e2, wrV_r]; omega
      · rw [wrV_o e1 e2]; exact k1 j q1 q2
  · by_cases e : x = r
    · rw [e, wrV_l, wrV_r]; omega
    · rw [wrV_o (by omega) (by omega), wrV_o (by omega) (by omega)]; exact k2 x q1 q2
theorem vOf_pos {V : Int → Int} {r c : Int} (h : 0 ≤ vOf V r c) : 0 ≤ r ∧ r < 80 ∧ 0 ≤ c ∧ c < 2 ∧ vOf V r c = V (r * 2 + c) := by
  unfold vOf at *
  split at h
  · rename_i hq
    rw [if_pos hq]
    exact ⟨hq.1, hq.2.1, hq.2.2.1, hq.2.2.2, rfl⟩
  · omega
theorem vOf_at {V : Int → Int} {r c : Int} (h : 0 ≤ r ∧ r < 80 ∧ 0 ≤ c ∧ c < 2) : vOf V r c = V (r * 2 + c) := if_pos h
theorem okD_ex {Ln : Nat} {V : Int → Int} {n r c : Int} (g : okD Ln V n) (h : 0 ≤ vOf V r c) : ¬ V (r * 2) = -2 := by
  obtain ⟨h1, h2, h3, h4, h5⟩ := vOf_pos h
  have k := g.2.1 r h1 h2
  rw [h5] at h
  rcases (show c = 0 ∨ c = 1 by omega) with rfl | rfl
  · rw [Int.add_zero] at h
    omega
  · intro q
    rw [k] at q
    omega
theorem okD_null {Ln : Nat} {V : Int → Int} {n r c : Int} (g : okD Ln V n) (h : 0 ≤ vOf V r c) : (0 ≤ n ∧ n < (Ln : Int) ∧ Ln < 2147483648) ∧ okD Ln (wcV V r c (-1)) (n + 1) ∧ pot (wcV V r c (-1)) + 1 ≤ pot V := by
  have hx := okD_ex g h
  obtain ⟨h1, h2, h3, h4, h5⟩ := vOf_pos h
  have k := g.2.1 r h1 h2
  have b1 := g.1 (r * 2) (by omega) (by omega)
  have b2 := g.1 (r * 2 + 1) (by omega) (by omega)
  have e0 : vOf V r 0 = V (r * 2) := by rw [vOf_at (by omega), Int.add_zero]
  have e1 : vOf V r 1 = V (r * 2 + 1) := by rw [vOf_at (by omega)]
  have hp := pot_b (wcV V r c (-1))
  have hg := g.2.2
  have hv : wcV V r c (-1) = wrV V r (if c = 0 then -1 else V (r * 2)) (if c = 1 then -1 else V (r * 2 + 1)) := by
    unfold wcV
    rw [e0, e1]
  have hpp : potV (if c = 0 then -1 else V (r * 2)) (if c = 1 then -1 else V (r * 2 + 1)) + 1 = potV (V (r * 2)) (V (r * 2 + 1)) := by
    rcases (show c = 0 ∨ c = 1 by omega) with rfl | rfl
    · have : 0 ≤ V (r * 2) := by rw [h5, Int.add_zero] at h; exact h
      unfold potV
      simp only [if_pos, if_true]
      repeat' split
      all_goals omega
    · have : 0 ≤ V (r * 2 + 1) := by rw [h5] at h; exact h
      unfold potV
      simp only [if_pos, if_true]
      repeat' split
      all_goals omega
  rw [hv] at hp ⊢
  rw [pot_wr h1 h2] at hp
  refine ⟨by omega, okD_wr g h1 h2 ?_ (by omega), by rw [pot_wr h1 h2]; omega⟩
  right
  rw [h5] at h
  rcases (show c = 0 ∨ c = 1 by omega) with rfl | rfl
  · simp
    omega
  · simp
    omega
theorem okD_erase {Ln : Nat} {V : Int → Int} {n r : Int} (g : okD Ln V n) (h1 : 0 ≤ r) (h2 : r < 80) (h : ¬ V (r * 2) = -2) : (0 ≤ n ∧ n < (Ln : Int) ∧ Ln < 2147483648) ∧ okD Ln (wrV V r (-2) (-2)) (n + 1) ∧ pot (wrV V r (-2) (-2)) + 1 ≤ pot V := by
  have hg := g.2.2
  have hp := pot_b (wrV V r (-2) (-2))
  rw [pot_wr h1 h2] at hp
  have e : potV (-2) (-2) = 0 := rfl
  have e2 : 1 ≤ potV (V (r * 2)) (V (r * 2 + 1)) := by
    unfold potV
    rw [if_neg h]
    repeat' split
    all_goals omega
  exact ⟨by omega, okD_wr g h1 h2 (Or.inl ⟨rfl, rfl⟩) (by omega), by rw [pot_wr h1 h2]; omega⟩
def reE (V : Int → Int) (e : Int × Int × Int) : Int → Int := wrV V e.1 e.2.1 e.2.2
theorem reE_pe (V : Int → Int) (r a b : Int) : reE (wrV V r a b) (pe V r) = V := by
  funext j
  show wrV (wrV V r a b) r (V (r * 2)) (V (r * 2 + 1)) j = V j
  by_cases h1 : j = r * 2
  · rw [h1, wrV_l]
  · by_cases h2 : j = r * 2 + 1
    · rw [h2, wrV_r]
    · rw [wrV_o h1 h2, wrV_o h1 h2]
/-- every state that undoing can bring back is well formed, and N bounds what it can still cost -/
def okH (N : Int) : Lg → (Int → Int) → Prop
  | [], V => (∀ j : Int, 0 ≤ j → j < 160 → -2 ≤ V j ∧ V j ≤ 19) ∧ okV V ∧ pot V ≤ N
  | e :: lg, V => ((∀ j : Int, 0 ≤ j → j < 160 → -2 ≤ V j ∧ V j ≤ 19) ∧ okV V ∧ (lg.length : Int) + 1 + pot V ≤ N) ∧ okH N lg (reE V e)
theorem okH_top {N : Int} {lg : Lg} {V : Int → Int} (h : okH N lg V) : (∀ j : Int, 0 ≤ j → j < 160 → -2 ≤ V j ∧ V j ≤ 19) ∧ okV V ∧ (lg.length : Int) + pot V ≤ N := by
  cases lg with
  | nil => exact ⟨h.1, h.2.1, by have := h.2.2; simp; omega⟩
  | cons e lg => exact ⟨h.1.1, h.1.2.1, by have := h.1.2.2; simp; omega⟩
theorem okH_mono {N M : Int} (hm : N ≤ M) : ∀ {lg : Lg} {V : Int → Int}, okH N lg V → okH M lg V
  | [], _, h => ⟨h.1, h.2.1, Int.le_trans h.2.2 hm⟩
  | _ :: _, _, h => ⟨⟨h.1.1, h.1.2.1, Int.le_trans h.1.2.2 hm⟩, okH_mono hm h.2⟩
theorem okH_push {N : Int} {lg : Lg} {V : Int → Int} {r a b n : Int} {Ln : Nat} (h : okH N lg V) (g : okD Ln (wrV V r a b) n) (hp : pot (wrV V r a b) + 1 ≤ pot V) : okH N (pe V r :: lg) (wrV V r a b) := by
  have h1 := (okH_top h).2.2
  exact ⟨⟨g.1, g.2.1, by omega⟩, by rw [reE_pe]; exact h⟩
/-- k changes undone -/
def unL : Nat → (Int → Int) → Lg → (Int → Int) × Lg
  | 0, V, lg => (V, lg)
  | _ + 1, V, [] => (V, [])
  | k + 1, V, e :: lg => unL k (reE V e) lg
/-- the second state comes from the first by changes -/
def extL (V : Int → Int) (lg : Lg) (V1 : Int → Int) (lg1 : Lg) : Prop := ∃ k : Nat, lg1.length = lg.length + k ∧ unL k V1 lg1 = (V, lg)
theorem extL_rf (V : Int → Int) (lg : Lg) : extL V lg V lg := ⟨0, rfl, rfl⟩
theorem extL_push {V : Int → Int} {lg : Lg} {V1 : Int → Int} {lg1 : Lg} {r a b : Int} (h : extL V lg V1 lg1) : extL V lg (wrV V1 r a b) (pe V1 r :: lg1) := by
  obtain ⟨k, h1, h2⟩ := h
  exact ⟨k + 1, by simp [h1]; omega, by rw [unL, reE_pe]; exact h2⟩
theorem unL_add : ∀ (j k : Nat) (V : Int → Int) (lg : Lg), unL (j + k) V lg = unL k (unL j V lg).1 (unL j V lg).2
  | 0, k, V, lg => by rw [Nat.zero_add]; rfl
  | j + 1, k, V, [] => by
    rw [show j + 1 + k = (j + k) + 1 by omega, unL, unL]
    cases k with
    | zero => rfl
    | succ k => rfl
  | j + 1, k, V, e :: lg => by
    rw [show j + 1 + k = (j + k) + 1 by omega, unL, unL]
    exact unL_add j k _ _
theorem extL_tr {V V1 V2 : Int → Int} {lg lg1 lg2 : Lg} (h : extL V lg V1 lg1) (g : extL V1 lg1 V2 lg2) : extL V lg V2 lg2 := by
  obtain ⟨k, h1, h2⟩ := h
  obtain ⟨j, g1, g2⟩ := g
  exact ⟨j + k, by omega, by rw [unL_add, g2]; exact h2⟩
def exQ (V : Int → Int) (Qs : List Int) (pl : Nat) : Prop := ∀ i : Nat, pl ≤ i → i < Qs.length → ¬ V (Qs.getD i 0 * 2) = -2
theorem exQ_add {V : Int → Int} {Qs : List Int} {pl : Nat} {r : Int} (g : exQ V Qs pl) (h : ¬ V (r * 2) = -2) : exQ V (addL Qs r) pl := by
  unfold addL
  split
  · exact g
  · intro i h1 h2
    by_cases hl : i < Qs.length
    · have e : (Qs ++ [r]).getD i 0 = Qs.getD i 0 := by simp [List.getD, List.getElem?_append_left hl]
      rw [e]
      exact g i h1 hl
    · have he : i = Qs.length := by simp at h2; omega
      have e : (Qs ++ [r]).getD i 0 = r := by rw [he]; simp [List.getD]
      rw [e]
      exact h
theorem exQ_null {V : Int → Int} {Qs : List Int} {pl : Nat} {r c : Int} (g : exQ V Qs pl) (hr : 0 ≤ r ∧ r < 80) (h : ¬ V (r * 2) = -2) : exQ (wcV V r c (-1)) Qs pl := by
  intro i h1 h2
  have h3 := g i h1 h2
  unfold wcV
  by_cases e : Qs.getD i 0 = r
  · rw [e, wrV_l]
    split
    · omega
    · rw [vOf_at (by omega), Int.add_zero]
      exact h
  · rw [wrV_o (by omega) (by omega)]
    exact h3
theorem exQ_erase {V : Int → Int} {Qs : List Int} {pl : Nat} (g : exQ V Qs pl) (hn : Qs.Nodup) (hp : pl < Qs.length) : exQ (wrV V (Qs.getD pl 0) (-2) (-2)) Qs (pl + 1) := by
  intro i h1 h2
  have h3 := g i (by omega) h2
  have h4 : Qs.getD i 0 ≠ Qs.getD pl 0 := by
    have e1 : Qs.getD i 0 = Qs[i] := by simp [List.getD, h2]
    have e2 : Qs.getD pl 0 = Qs[pl] := by simp [List.getD, hp]
    rw [e1, e2]
    exact fun q => (List.pairwise_iff_getElem.mp hn pl i hp h2 (by omega)) q.symm
  rw [wrV_o (by omega) (by omega)]
  exact h3
/-- the rows that refer to the removed one, by one constraint: 0 if it is refused -/
noncomputable def trL (P Ac : Int → Int) (num rem : Int) : Nat → Int → DS → Int × DS
  | 0, _, st => (1, st)
  | f + 1, key, (V, lg, Qs) =>
    if tgt P V num (num / 2 * 20 + key) = rem then
      (if inA Ac num = 0 then (0, (V, lg, Qs))
       else if inA Ac num = 2 then trL P Ac num rem f (key + 1) (V, lg, addL Qs (num / 2 * 20 + key))
       else if inA Ac num = 3 then trL P Ac num rem f (key + 1) (wcV V (num / 2 * 20 + key) (num % 2) (-1), pe V (num / 2 * 20 + key) :: lg, Qs)
       else trL P Ac num rem f (key + 1) (V, lg, Qs))
    else trL P Ac num rem f (key + 1) (V, lg, Qs)
theorem trL_0 {P Ac : Int → Int} {num rem k : Int} {st : DS} : trL P Ac num rem 0 k st = (1, st) := rfl
noncomputable def numL (P Ac : Int → Int) (rem : Int) : Nat → Int → DS → Int × DS
  | 0, _, st => (0, st)
  | f + 1, k, st => if (trL P Ac k rem 20 0 st).1 = 0 then (-10 - k, (trL P Ac k rem 20 0 st).2) else numL P Ac rem f (k + 1) (trL P Ac k rem 20 0 st).2
noncomputable def delL (P Ac : Int → Int) : Nat → Nat → DS → Int × DS
  | 0, _, st => ((st.2.2.length : Int), st)
  | f + 1, pl, (V, lg, Qs) =>
    if pl < Qs.length then
      (if (numL P Ac (Qs.getD pl 0) 8 0 (wrV V (Qs.getD pl 0) (-2) (-2), pe V (Qs.getD pl 0) :: lg, Qs)).1 = 0 then delL P Ac f (pl + 1) (numL P Ac (Qs.getD pl 0) 8 0 (wrV V (Qs.getD pl 0) (-2) (-2), pe V (Qs.getD pl 0) :: lg, Qs)).2
       else numL P Ac (Qs.getD pl 0) 8 0 (wrV V (Qs.getD pl 0) (-2) (-2), pe V (Qs.getD pl 0) :: lg, Qs))
    else ((Qs.length : Int), (V, lg, Qs))
theorem tgt_v {P V : Int → Int} {k r t : Int} (h : tgt P V k r = t) (ht : 0 ≤ t) : 0 ≤ vOf V r (k % 2) := by
  unfold tgt at h
  split at h
  · omega
  · omega
theorem numL_0 {P Ac : Int → Int} {rem k : Int} {st : DS} : numL P Ac rem 0 k st = (0, st) := rfl
theorem delL_out {P Ac : Int → Int} {f pl : Nat} {V : Int → Int} {lg : Lg} {Qs : List Int} (h : ¬ pl < Qs.length) : delL P Ac f pl (V, lg, Qs) = ((Qs.length : Int), (V, lg, Qs)) := by
  cases f with
  | zero => rfl
  | succ f => rw [delL, if_neg h]
theorem exQ_1 {V : Int → Int} {r : Int} (h : ¬ V (r * 2) = -2) : exQ V [r] 0 := by
  intro i h1 h2
  have e : i = 0 := by simp at h2; omega
  rw [e]
  exact h

set_option maxHeartbeats 600000 in
set_option maxRecDepth 100000 in
theorem c_X1_treatReferences (l : Launch) (D : va_G) (cI cZ cC : ClassId) (sz : Nat) (ad : Nat → Nat) (be Ln : Nat) (P Ac : Int → Int) (V B : Int → Int) (n : Int) (Qa Qk : Int → Int) (ql : Int) (N : Int) (lg : Lg) (Qs : List Int) (pl : Nat) (num rem : Int) (g_P : ∀ j : Int, 0 ≤ j → j < 8 → P j = -2 ∨ (0 ≤ P j ∧ P j < 4)) (g_Ac : ∀ j : Int, 0 ≤ j → j < 8 → 0 ≤ Ac j ∧ Ac j ≤ 3) (g_D : okD Ln V n) (g_L : isL lg B n) (g_H : okH N lg V) (g_Q : isQ Qs Qa Qk ql) (g_e : exQ V Qs pl) (g_num : 0 ≤ num ∧ num < 8) (g_rem : 0 ≤ rem ∧ rem < 80) : zMi l yX1_treatReferences wsX1_treatReferences ({ frames := 2, cells := 0, slots := 0, locals := 51 }) D cI cZ cC [(ad 12, .inr (1, [.ref (ad 1), .ref (ad 4), .ref (ad 13)])), (ad 4, .inr (0, [.ref (ad 1), .ref (ad 5), .ref (ad 6), .ref (ad 7)])), (ad 5, .inl (cI, 8, .inl (iA (P)))), (ad 6, .inl (cI, 8, .inl (iA (Ac)))), (ad 1, .inr (4, [.ref (ad 2), .ref (be), .int (iI (n))])), (ad 2, .inl (cI, 160, .inl (iA (V)))), (be, .inl (cI, Ln, .inl (iA (B)))), (ad 13, .inr (3, [.ref (ad 14), .ref (ad 15), .int (iI (ql))])), (ad 14, .inl (cI, 80, .inl (iA (Qa)))), (ad 15, .inl (cZ, 80, .inl (iA (Qk))))] sz [.ref (ad 12), .int (iI (num)), .int (iI (rem))] (0) (0) (fun (u : (Int → Int) × (Int → Int) × Int × (Int → Int) × (Int → Int) × Int) => [(ad 12, .inr (1, [.ref (ad 1), .ref (ad 4), .ref (ad 13)])), (ad 4, .inr (0, [.ref (ad 1), .ref (ad 5), .ref (ad 6), .ref (ad 7)])), (ad 5, .inl (cI, 8, .inl (iA (P)))), (ad 6, .inl (cI, 8, .inl (iA (Ac)))), (ad 1, .inr (4, [.ref (ad 2), .ref (be), .int (iI (u.2.2.1))])), (ad 2, .inl (cI, 160, .inl (iA (u.1)))), (be, .inl (cI, Ln, .inl (iA (u.2.1)))), (ad 13, .inr (3, [.ref (ad 14), .ref (ad 15), .int (iI (u.2.2.2.2.2))])), (ad 14, .inl (cI, 80, .inl (iA (u.2.2.2.1)))), (ad 15, .inl (cZ, 80, .inl (iA (u.2.2.2.2.1))))]) (fun v (u : (Int → Int) × (Int → Int) × Int × (Int → Int) × (Int → Int) × Int) => (v = 0 ∨ v = 1) ∧ ∃ (lg1 : Lg) (Qs1 : List Int), (v, (u.1, lg1, Qs1)) = trL P Ac num rem 20 0 (V, lg, Qs) ∧ okD Ln u.1 u.2.2.1 ∧ isL lg1 u.2.1 u.2.2.1 ∧ okH N lg1 u.1 ∧ extL V lg u.1 lg1 ∧ isQ Qs1 u.2.2.2.1 u.2.2.2.2.1 u.2.2.2.2.2 ∧ exQ u.1 Qs1 pl) := by
  refine z_ofMi (cc := cX1_treatReferences) (maxL := 6) (ret := (some .boolean)) RX1 (by decide +kernel) rfl rfl (Nat.le_of_ble_eq_true rfl) ?_
  intro p0 en0 s0 m0 args0 below0 meth0 c0 ls AA hx hb hr hlocks hml hown hts hP hD hS hA hK hl
  have hl : lv_has ls 6 [(0, .ref (ad 12)), (1, .int (iI (num))), (2, .int (iI (rem)))] := hl
  obtain ⟨H, hH⟩ : ∃ H, H = s0.heap := ⟨_, rfl⟩
  obtain ⟨locs, hlo⟩ : ∃ locs : List Loc, locs = [] := ⟨_, rfl⟩
  have hP : va_P D vwCl [(ad 12, .inr (1, [.ref (ad 1), .ref (ad 4), .ref (ad 13)])), (ad 4, .inr (0, [.ref (ad 1), .ref (ad 5), .ref (ad 6), .ref (ad 7)])), (ad 5, .inl (cI, 8, .inl (iA (P)))), (ad 6, .inl (cI, 8, .inl (iA (Ac)))), (ad 1, .inr (4, [.ref (ad 2), .ref (be), .int (iI (n))])), (ad 2, .inl (cI, 160, .inl (iA (V)))), (be, .inl (cI, Ln, .inl (iA (B)))), (ad 13, .inr (3, [.ref (ad 14), .ref (ad 15), .int (iI (ql))])), (ad 14, .inl (cI, 80, .inl (iA (Qa)))), (ad 15, .inl (cZ, 80, .inl (iA (Qk))))] H := by rw [hH]; exact hP
  have hS : va_S AA s0.heap H locs := by rw [hH, hlo]; exact hS
  suffices hW : W p0 l en0 (headSpec wsX1_treatReferences ({ frames := 2, cells := 0, slots := 0, locals := 51 })).room s0 m0 args0 below0 meth0 c0 H locs 0 0 (QMi below0 D ((fun (u : (Int → Int) × (Int → Int) × Int × (Int → Int) × (Int → Int) × Int) => [(ad 12, .inr (1, [.ref (ad 1), .ref (ad 4), .ref (ad 13)])), (ad 4, .inr (0, [.ref (ad 1), .ref (ad 5), .ref (ad 6), .ref (ad 7)])), (ad 5, .inl (cI, 8, .inl (iA (P)))), (ad 6, .inl (cI, 8, .inl (iA (Ac)))), (ad 1, .inr (4, [.ref (ad 2), .ref (be), .int (iI (u.2.2.1))])), (ad 2, .inl (cI, 160, .inl (iA (u.1)))), (be, .inl (cI, Ln, .inl (iA (u.2.1)))), (ad 13, .inr (3, [.ref (ad 14), .ref (ad 15), .int (iI (u.2.2.2.2.2))])), (ad 14, .inl (cI, 80, .inl (iA (u.2.2.2.1)))), (ad 15, .inl (cZ, 80, .inl (iA (u.2.2.2.2.1))))])) (fun v (u : (Int → Int) × (Int → Int) × Int × (Int → Int) × (Int → Int) × Int) => (v = 0 ∨ v = 1) ∧ ∃ (lg1 : Lg) (Qs1 : List Int), (v, (u.1, lg1, Qs1)) = trL P Ac num rem 20 0 (V, lg, Qs) ∧ okD Ln u.1 u.2.2.1 ∧ isL lg1 u.2.1 u.2.2.1 ∧ okH N lg1 u.1 ∧ extL V lg u.1 lg1 ∧ isQ Qs1 u.2.2.2.1 u.2.2.2.2.1 u.2.2.2.2.2 ∧ exQ u.1 Qs1 pl) AA args0 s0 (0) (0)) (F0 m0 0 ls []) by rw [hH, hlo] at hW; exact hW
  refine lv_aload_n hx hb dX1_treatReferences_0 rfl (lv_at hl 0 rfl) ?_
  refine va_get (D := D) (ci := 1) (v := .ref (ad 4)) (C := RX1) (T := TX1) (N := 3) hx hb hts (fun _ h => List.mem_cons_of_mem _ (List.mem_append_left _ (List.mem_append_left _ (List.mem_append_left _ (List.mem_append_right _ (h)))))) hown hK.1 hP 0 rfl rfl 1 (by decide) (hts (.fieldLink RX1 22 "ForeignKeyStore$Deletion" "constraints" "LForeignKeyStore$Constraints;") (List.mem_of_getElem? (i := 1) rfl)) (fun _ h9 => h9) rfl dX1_treatReferences_1 ?_
  refine lv_iload_n hx hb dX1_treatReferences_4 rfl (lv_at hl 1 rfl) ?_
  refine z_roV (As := [.int (iI (num))]) (rest := []) ⟨hx, hb, hml, hown, hts⟩ (c_X0_actionOf l D cI cZ cC (ad) (Ac) (num) (by first | assumption | omega)) (cwV 1 hts gX1_treatReferences_X0_actionOf rfl rfl rfl (by decide +kernel) ⟨Nat.le_of_ble_eq_true rfl, Nat.le_of_ble_eq_true rfl⟩) hP hK [1, 3] rfl 1 0 rfl rfl rfl rfl hl.1 rfl (Nat.le_of_ble_eq_true rfl) dX1_treatReferences_5 ⟨by omega, by omega⟩ ?_
  have hf_1 := inA_b g_Ac (num)
  refine lv_istore_n (lv' := [(3, .int (iI ((inA Ac num)))), (0, .ref (ad 12)), (1, .int (iI (num))), (2, .int (iI (rem)))]) hx hb dX1_treatReferences_8 rfl hl (by decide) rfl (fun ls hl => ?_)
  refine lv_iconst (v := iI (0)) hx hb dX1_treatReferences_9 rfl ?_
  refine lv_istore (lv' := [(4, .int (iI (0))), (3, .int (iI ((inA Ac num)))), (0, .ref (ad 12)), (1, .int (iI (num))), (2, .int (iI (rem)))]) hx hb dX1_treatReferences_10 hl (by decide) rfl (fun ls hl => ?_)
  have loop12 : ∀ (fu : Nat) (i : Nat) (lgx : Lg) (Qsx : List Int) (Vx Bx : Int → Int) (nx : Int) (Qax Qkx : Int → Int) (qlx : Int), (g_i : i ≤ 20) → (g_fu : 20 < i + fu) → (g_D : okD Ln Vx nx) → (g_L : isL lgx Bx nx) → (g_H : okH N lgx Vx) → (g_E : extL V lg Vx lgx) → (g_Q : isQ Qsx Qax Qkx qlx) → (g_e : exQ Vx Qsx pl) → (g_t : trL P Ac num rem 20 0 (V, lg, Qs) = trL P Ac num rem (20 - i) i (Vx, lgx, Qsx)) → ∀ (H : Heap) (locs : List Loc), va_P D vwCl [(ad 12, .inr (1, [.ref (ad 1), .ref (ad 4), .ref (ad 13)])), (ad 4, .inr (0, [.ref (ad 1), .ref (ad 5), .ref (ad 6), .ref (ad 7)])), (ad 5, .inl (cI, 8, .inl (iA (P)))), (ad 6, .inl (cI, 8, .inl (iA (Ac)))), (ad 1, .inr (4, [.ref (ad 2), .ref (be), .int (iI (nx))])), (ad 2, .inl (cI, 160, .inl (iA (Vx)))), (be, .inl (cI, Ln, .inl (iA (Bx)))), (ad 13, .inr (3, [.ref (ad 14), .ref (ad 15), .int (iI (qlx))])), (ad 14, .inl (cI, 80, .inl (iA (Qax)))), (ad 15, .inl (cZ, 80, .inl (iA (Qkx))))] H → va_D AA [(ad 12, .inr (1, [.ref (ad 1), .ref (ad 4), .ref (ad 13)])), (ad 4, .inr (0, [.ref (ad 1), .ref (ad 5), .ref (ad 6), .ref (ad 7)])), (ad 5, .inl (cI, 8, .inl (iA (P)))), (ad 6, .inl (cI, 8, .inl (iA (Ac)))), (ad 1, .inr (4, [.ref (ad 2), .ref (be), .int (iI (nx))])), (ad 2, .inl (cI, 160, .inl (iA (Vx)))), (be, .inl (cI, Ln, .inl (iA (Bx)))), (ad 13, .inr (3, [.ref (ad 14), .ref (ad 15), .int (iI (qlx))])), (ad 14, .inl (cI, 80, .inl (iA (Qax)))), (ad 15, .inl (cZ, 80, .inl (iA (Qkx))))] → va_S AA s0.heap H locs → ∀ ls : Array Slot, lv_has ls 6 [(4, .int (iI ((i : Int)))), (3, .int (iI (inA Ac num))), (0, .ref (ad 12)), (1, .int (iI (num))), (2, .int (iI (rem)))] → W p0 l en0 (headSpec wsX1_treatReferences ({ frames := 2, cells := 0, slots := 0, locals := 51 })).room s0 m0 args0 below0 meth0 c0 H locs 0 0 (QMi below0 D ((fun (u : (Int → Int) × (Int → Int) × Int × (Int → Int) × (Int → Int) × Int) => [(ad 12, .inr (1, [.ref (ad 1), .ref (ad 4), .ref (ad 13)])), (ad 4, .inr (0, [.ref (ad 1), .ref (ad 5), .ref (ad 6), .ref (ad 7)])), (ad 5, .inl (cI, 8, .inl (iA (P)))), (ad 6, .inl (cI, 8, .inl (iA (Ac)))), (ad 1, .inr (4, [.ref (ad 2), .ref (be), .int (iI (u.2.2.1))])), (ad 2, .inl (cI, 160, .inl (iA (u.1)))), (be, .inl (cI, Ln, .inl (iA (u.2.1)))), (ad 13, .inr (3, [.ref (ad 14), .ref (ad 15), .int (iI (u.2.2.2.2.2))])), (ad 14, .inl (cI, 80, .inl (iA (u.2.2.2.1)))), (ad 15, .inl (cZ, 80, .inl (iA (u.2.2.2.2.1))))])) (fun v (u : (Int → Int) × (Int → Int) × Int × (Int → Int) × (Int → Int) × Int) => (v = 0 ∨ v = 1) ∧ ∃ (lg1 : Lg) (Qs1 : List Int), (v, (u.1, lg1, Qs1)) = trL P Ac num rem 20 0 (V, lg, Qs) ∧ okD Ln u.1 u.2.2.1 ∧ isL lg1 u.2.1 u.2.2.1 ∧ okH N lg1 u.1 ∧ extL V lg u.1 lg1 ∧ isQ Qs1 u.2.2.2.1 u.2.2.2.2.1 u.2.2.2.2.2 ∧ exQ u.1 Qs1 pl) AA args0 s0 (0) (0)) (F0 m0 12 ls []) := by
    intro fu
    induction fu with
    | zero => intro i lgx Qsx Vx Bx nx Qax Qkx qlx g_i g_fu g_D g_L g_H g_E g_Q g_e g_t H locs hP hD hS ls hl; exfalso; omega
    | succ fu ih12 =>
      intro i lgx Qsx Vx Bx nx Qax Qkx qlx g_i g_fu g_D g_L g_H g_E g_Q g_e g_t H locs hP hD hS ls hl
      have g_V := g_D.1
      refine lv_iload hx hb dX1_treatReferences_12 (lv_at hl 0 rfl) ?_
      refine lv_bipush (v := iI (20)) hx hb dX1_treatReferences_14 (by decide) ?_
      refine z_icmp_ge (tgt := 89) hx hb dX1_treatReferences_16 (by decide) ⟨⟨by omega, by omega⟩, ⟨by omega, by omega⟩⟩ (fun c_2 => ?_) (fun c_2 => ?_)
      · refine lv_iconst (v := iI (1)) hx hb dX1_treatReferences_89 rfl ?_
        refine z_mretZ ((Vx, Bx, nx, Qax, Qkx, qlx)) hx hb hr hlocks dX1_treatReferences_90 (by omega) hP hD hS ?_
        refine ⟨by omega, lgx, Qsx, ?_, g_D, g_L, g_H, g_E, g_Q, g_e⟩
        rw [g_t, show 20 - i = 0 by omega, trL_0]
        try rfl
      · refine lv_iload_n hx hb dX1_treatReferences_19 rfl (lv_at hl 3 rfl) ?_
        refine z_roN (As := [.int (iI (num))]) (rest := []) ⟨hx, hb, hml, hown, hts⟩ (c_X7_tableOfConstraint l D cI cZ cC (num) (by first | assumption | omega)) ⟨va_cnB (host := RX7) 1 hts gX1_treatReferences_X7_tableOfConstraint_n58 rfl rfl rfl (hK.2 _ (List.mem_of_getElem? (i := 8) rfl)) (hts (.initialized RX7) (List.mem_of_getElem? (i := 11) rfl)) (by decide +kernel) ⟨Nat.le_of_ble_eq_true rfl, Nat.le_of_ble_eq_true rfl⟩, (hts (.static yX7_tableOfConstraint) (List.mem_of_getElem? (i := 10) rfl)), trivial⟩ hP hK [] rfl rfl hl.1 rfl (Nat.le_of_ble_eq_true rfl) dX1_treatReferences_20 ⟨by omega, by omega⟩ ?_
        refine lv_iload hx hb dX1_treatReferences_23 (lv_at hl 0 rfl) ?_
        refine z_roN (As := [.int (iI ((num / 2))), .int (iI ((i : Int)))]) (rest := []) ⟨hx, hb, hml, hown, hts⟩ (c_X7_rowNumber l D cI cZ cC ((num / 2)) ((i : Int)) ) ⟨va_cnB (host := RX7) 2 hts gX1_treatReferences_X7_rowNumber_n61 rfl rfl rfl (hK.2 _ (List.mem_of_getElem? (i := 9) rfl)) (hts (.initialized RX7) (List.mem_of_getElem? (i := 11) rfl)) (by decide +kernel) ⟨Nat.le_of_ble_eq_true rfl, Nat.le_of_ble_eq_true rfl⟩, (hts (.static yX7_rowNumber) (List.mem_of_getElem? (i := 13) rfl)), trivial⟩ hP hK [] rfl rfl hl.1 rfl (Nat.le_of_ble_eq_true rfl) dX1_treatReferences_25 ⟨by omega, by omega⟩ ?_
        refine lv_istore (lv' := [(5, .int (iI ((((num / 2)) * 20 + ((i : Int)))))), (4, .int (iI ((i : Int)))), (3, .int (iI (inA Ac num))), (0, .ref (ad 12)), (1, .int (iI (num))), (2, .int (iI (rem)))]) hx hb dX1_treatReferences_28 hl (by decide) rfl (fun ls hl => ?_)
        refine lv_aload_n hx hb dX1_treatReferences_30 rfl (lv_at hl 3 rfl) ?_
        refine va_get (D := D) (ci := 1) (v := .ref (ad 4)) (C := RX1) (T := TX1) (N := 3) hx hb hts (fun _ h => List.mem_cons_of_mem _ (List.mem_append_left _ (List.mem_append_left _ (List.mem_append_left _ (List.mem_append_right _ (h)))))) hown hK.1 hP 0 rfl rfl 1 (by decide) (hts (.fieldLink RX1 22 "ForeignKeyStore$Deletion" "constraints" "LForeignKeyStore$Constraints;") (List.mem_of_getElem? (i := 1) rfl)) (fun _ h9 => h9) rfl dX1_treatReferences_31 ?_
        refine lv_iload_n hx hb dX1_treatReferences_34 rfl (lv_at hl 4 rfl) ?_
        refine lv_iload hx hb dX1_treatReferences_35 (lv_at hl 0 rfl) ?_
        refine z_roV (As := [.int (iI (num)), .int (iI ((((num / 2)) * 20 + ((i : Int)))))]) (rest := []) ⟨hx, hb, hml, hown, hts⟩ (c_X0_targetOf l D cI cZ cC (ad) (be) (nx) (P) (Vx) (num) ((((num / 2)) * 20 + ((i : Int)))) (g_D.1) (by first | assumption | omega) (by first | assumption | omega) (by first | assumption | omega)) (cwV 2 hts gX1_treatReferences_X0_targetOf rfl rfl rfl (by decide +kernel) ⟨Nat.le_of_ble_eq_true rfl, Nat.le_of_ble_eq_true rfl⟩) hP hK [1, 2, 4, 5] rfl 1 0 rfl rfl rfl rfl hl.1 rfl (Nat.le_of_ble_eq_true rfl) dX1_treatReferences_37 ⟨by omega, by omega⟩ ?_
        have hf_3 := tgt_b g_V g_P (num) (((((num / 2)) * 20 + ((i : Int)))))
        refine lv_iload_n hx hb dX1_treatReferences_40 rfl (lv_at hl 5 rfl) ?_
        refine z_icmp_ne (tgt := 83) hx hb dX1_treatReferences_41 (by decide) ⟨⟨by omega, by omega⟩, ⟨by omega, by omega⟩⟩ (fun c_4 => ?_) (fun c_4 => ?_)
        · refine lv_iinc (v := iI ((i : Int) + 1)) (lv' := [(4, .int (iI ((i : Int) + 1))), (5, .int (iI ((((num / 2)) * 20 + ((i : Int)))))), (3, .int (iI (inA Ac num))), (0, .ref (ad 12)), (1, .int (iI (num))), (2, .int (iI (rem)))]) hx hb dX1_treatReferences_83 hl (k := 1) rfl (iI_add ((i : Int)) (1)) (by decide) rfl (fun ls hl => ?_)
          refine lv_goto (tgt := 12) hx hb dX1_treatReferences_86 (by decide) ?_
          exact ih12 (i + 1) _ _ _ _ _ _ _ _ (by omega) (by omega) g_D g_L g_H g_E g_Q g_e (by rw [g_t, show 20 - i = (20 - (i + 1)) + 1 by omega, trL, if_neg (by omega)]; rfl) _ _ hP hD hS _ (lv_sub hl [0, 2, 3, 4, 5] rfl)
        · have h_v := tgt_v c_4 (by omega)
          refine lv_iload_n hx hb dX1_treatReferences_44 rfl (lv_at hl 2 rfl) ?_
          refine z_if_ne (tgt := 50) hx hb dX1_treatReferences_45 (by decide) ⟨by omega, by omega⟩ (fun c_5 => ?_) (fun c_5 => ?_)
          · refine lv_iload_n hx hb dX1_treatReferences_50 rfl (lv_at hl 2 rfl) ?_
            refine lv_iconst (v := iI (2)) hx hb dX1_treatReferences_51 rfl ?_
            refine z_icmp_ne (tgt := 64) hx hb dX1_treatReferences_52 (by decide) ⟨⟨by omega, by omega⟩, ⟨by omega, by omega⟩⟩ (fun c_6 => ?_) (fun c_6 => ?_)
            · refine lv_iload_n hx hb dX1_treatReferences_64 rfl (lv_at hl 2 rfl) ?_
              refine lv_iconst (v := iI (3)) hx hb dX1_treatReferences_65 rfl ?_
              refine z_icmp_ne (tgt := 83) hx hb dX1_treatReferences_66 (by decide) ⟨⟨by omega, by omega⟩, ⟨by omega, by omega⟩⟩ (fun c_7 => ?_) (fun c_7 => ?_)
              · refine lv_iinc (v := iI ((i : Int) + 1)) (lv' := [(4, .int (iI ((i : Int) + 1))), (5, .int (iI ((((num / 2)) * 20 + ((i : Int)))))), (3, .int (iI (inA Ac num))), (0, .ref (ad 12)), (1, .int (iI (num))), (2, .int (iI (rem)))]) hx hb dX1_treatReferences_83 hl (k := 1) rfl (iI_add ((i : Int)) (1)) (by decide) rfl (fun ls hl => ?_)
                refine lv_goto (tgt := 12) hx hb dX1_treatReferences_86 (by decide) ?_
                exact ih12 (i + 1) _ _ _ _ _ _ _ _ (by omega) (by omega) g_D g_L g_H g_E g_Q g_e (by rw [g_t, show 20 - i = (20 - (i + 1)) + 1 by omega, trL, if_pos (by omega), if_neg (by omega), if_neg (by omega), if_neg (by omega)]; rfl) _ _ hP hD hS _ (lv_sub hl [0, 2, 3, 4, 5] rfl)
              · refine lv_aload_n hx hb dX1_treatReferences_69 rfl (lv_at hl 3 rfl) ?_
                refine va_get (D := D) (ci := 1) (v := .ref (ad 1)) (C := RX1) (T := TX1) (N := 3) hx hb hts (fun _ h => List.mem_cons_of_mem _ (List.mem_append_left _ (List.mem_append_left _ (List.mem_append_left _ (List.mem_append_right _ (h)))))) hown hK.1 hP 0 rfl rfl 0 (by decide) (hts (.fieldLink RX1 18 "ForeignKeyStore$Deletion" "rows" "LForeignKeyStore$Rows;") (List.mem_of_getElem? (i := 3) rfl)) (fun _ h9 => h9) rfl dX1_treatReferences_70 ?_
                refine lv_iload hx hb dX1_treatReferences_73 (lv_at hl 0 rfl) ?_
                refine lv_iload_n hx hb dX1_treatReferences_75 rfl (lv_at hl 4 rfl) ?_
                refine z_roN (As := [.int (iI (num))]) (rest := [.int (iI ((((num / 2)) * 20 + ((i : Int))))), .ref (ad 1)]) ⟨hx, hb, hml, hown, hts⟩ (c_X7_columnOfConstraint l D cI cZ cC (num) (by first | assumption | omega)) ⟨va_cnB (host := RX7) 1 hts gX1_treatReferences_X7_columnOfConstraint_n68 rfl rfl rfl (hK.2 _ (List.mem_of_getElem? (i := 10) rfl)) (hts (.initialized RX7) (List.mem_of_getElem? (i := 11) rfl)) (by decide +kernel) ⟨Nat.le_of_ble_eq_true rfl, Nat.le_of_ble_eq_true rfl⟩, (hts (.static yX7_columnOfConstraint) (List.mem_of_getElem? (i := 25) rfl)), trivial⟩ hP hK [] rfl rfl hl.1 rfl (Nat.le_of_ble_eq_true rfl) dX1_treatReferences_76 ⟨by omega, by omega⟩ ?_
                refine lv_iconst (v := iI (-1)) hx hb dX1_treatReferences_79 rfl ?_
                refine z_mvV (As := [.int (iI ((((num / 2)) * 20 + ((i : Int))))), .int (iI ((num % 2))), .int (iI ((-1)))]) (rest := []) (wr := [(ad 12, .inr (1, [.ref (ad 1), .ref (ad 4), .ref (ad 13)])), (ad 4, .inr (0, [.ref (ad 1), .ref (ad 5), .ref (ad 6), .ref (ad 7)])), (ad 5, .inl (cI, 8, .inl (iA (P)))), (ad 6, .inl (cI, 8, .inl (iA (Ac)))), (ad 13, .inr (3, [.ref (ad 14), .ref (ad 15), .int (iI (qlx))])), (ad 14, .inl (cI, 80, .inl (iA (Qax)))), (ad 15, .inl (cZ, 80, .inl (iA (Qkx))))]) (ws2 := (fun (u : Unit) => [(ad 12, .inr (1, [.ref (ad 1), .ref (ad 4), .ref (ad 13)])), (ad 4, .inr (0, [.ref (ad 1), .ref (ad 5), .ref (ad 6), .ref (ad 7)])), (ad 5, .inl (cI, 8, .inl (iA (P)))), (ad 6, .inl (cI, 8, .inl (iA (Ac)))), (ad 1, .inr (4, [.ref (ad 2), .ref (be), .int (iI (nx + 1))])), (ad 2, .inl (cI, 160, .inl (iA (wcV Vx ((((num / 2)) * 20 + ((i : Int)))) ((num % 2)) ((-1)))))), (be, .inl (cI, Ln, .inl (iA (wrB Bx nx ((((num / 2)) * 20 + ((i : Int)))) Vx)))), (ad 13, .inr (3, [.ref (ad 14), .ref (ad 15), .int (iI (qlx))])), (ad 14, .inl (cI, 80, .inl (iA (Qax)))), (ad 15, .inl (cZ, 80, .inl (iA (Qkx))))])) ⟨hx, hb, hml, hown, hts⟩ (c_X4_writeColumn l D cI cZ cC H.size (ad) (be) (Ln) (nx) (Vx) (Bx) ((((num / 2)) * 20 + ((i : Int)))) ((num % 2)) ((-1)) (g_D.1) (by first | assumption | omega) ((okD_null g_D h_v).1) (by first | assumption | omega)) (cwV 3 hts gX1_treatReferences_X4_writeColumn rfl rfl rfl (by decide +kernel) ⟨Nat.le_of_ble_eq_true rfl, Nat.le_of_ble_eq_true rfl⟩) hP hD hS hA hK [4, 5, 6] [0, 1, 2, 3, 7, 8, 9] [0, 1, 2, 3, 7, 8, 9, 4, 5, 6] rfl (by decide) rfl (by decide) (by decide) (by decide) (fun _ => rfl) 4 4 rfl rfl rfl rfl hl.1 rfl (Nat.le_of_ble_eq_true rfl) dX1_treatReferences_80 ⟨by omega, by omega⟩ (fun u H locs hq_8 hP hD hS => ?_)
                have hP : va_P D vwCl [(ad 12, .inr (1, [.ref (ad 1), .ref (ad 4), .ref (ad 13)])), (ad 4, .inr (0, [.ref (ad 1), .ref (ad 5), .ref (ad 6), .ref (ad 7)])), (ad 5, .inl (cI, 8, .inl (iA (P)))), (ad 6, .inl (cI, 8, .inl (iA (Ac)))), (ad 1, .inr (4, [.ref (ad 2), .ref (be), .int (iI (nx + 1))])), (ad 2, .inl (cI, 160, .inl (iA (wcV Vx ((((num / 2)) * 20 + ((i : Int)))) ((num % 2)) ((-1)))))), (be, .inl (cI, Ln, .inl (iA (wrB Bx nx ((((num / 2)) * 20 + ((i : Int)))) Vx)))), (ad 13, .inr (3, [.ref (ad 14), .ref (ad 15), .int (iI (qlx))])), (ad 14, .inl (cI, 80, .inl (iA (Qax)))), (ad 15, .inl (cZ, 80, .inl (iA (Qkx))))] H := hP
                have hD : va_D AA [(ad 12, .inr (1, [.ref (ad 1), .ref (ad 4), .ref (ad 13)])), (ad 4, .inr (0, [.ref (ad 1), .ref (ad 5), .ref (ad 6), .ref (ad 7)])), (ad 5, .inl (cI, 8, .inl (iA (P)))), (ad 6, .inl (cI, 8, .inl (iA (Ac)))), (ad 1, .inr (4, [.ref (ad 2), .ref (be), .int (iI (nx + 1))])), (ad 2, .inl (cI, 160, .inl (iA (wcV Vx ((((num / 2)) * 20 + ((i : Int)))) ((num % 2)) ((-1)))))), (be, .inl (cI, Ln, .inl (iA (wrB Bx nx ((((num / 2)) * 20 + ((i : Int)))) Vx)))), (ad 13, .inr (3, [.ref (ad 14), .ref (ad 15), .int (iI (qlx))])), (ad 14, .inl (cI, 80, .inl (iA (Qax)))), (ad 15, .inl (cZ, 80, .inl (iA (Qkx))))] := hD
                try dsimp only at hq_8
                refine lv_iinc (v := iI ((i : Int) + 1)) (lv' := [(4, .int (iI ((i : Int) + 1))), (5, .int (iI ((((num / 2)) * 20 + ((i : Int)))))), (3, .int (iI (inA Ac num))), (0, .ref (ad 12)), (1, .int (iI (num))), (2, .int (iI (rem)))]) hx hb dX1_treatReferences_83 hl (k := 1) rfl (iI_add ((i : Int)) (1)) (by decide) rfl (fun ls hl => ?_)
                refine lv_goto (tgt := 12) hx hb dX1_treatReferences_86 (by decide) ?_
                exact ih12 (i + 1) _ _ _ _ _ _ _ _ (by omega) (by omega) (okD_null g_D h_v).2.1 (isL_push g_L g_V ⟨by omega, by omega⟩) (okH_push g_H (okD_null g_D h_v).2.1 (okD_null g_D h_v).2.2) (extL_push g_E) g_Q (exQ_null g_e ⟨by omega, by omega⟩ (okD_ex g_D h_v)) (by rw [g_t, show 20 - i = (20 - (i + 1)) + 1 by omega, trL, if_pos (by omega), if_neg (by omega), if_neg (by omega), if_pos (by omega)]; rfl) _ _ hP hD hS _ (lv_sub hl [0, 2, 3, 4, 5] rfl)
            · refine lv_aload_n hx hb dX1_treatReferences_55 rfl (lv_at hl 3 rfl) ?_
              refine va_get (D := D) (ci := 1) (v := .ref (ad 13)) (C := RX1) (T := TX1) (N := 3) hx hb hts (fun _ h => List.mem_cons_of_mem _ (List.mem_append_left _ (List.mem_append_left _ (List.mem_append_left _ (List.mem_append_right _ (h)))))) hown hK.1 hP 0 rfl rfl 2 (by decide) (hts (.fieldLink RX1 12 "ForeignKeyStore$Deletion" "waiting" "LForeignKeyStore$RowQueue;") (List.mem_of_getElem? (i := 2) rfl)) (fun _ h9 => h9) rfl dX1_treatReferences_56 ?_
              refine lv_iload hx hb dX1_treatReferences_59 (lv_at hl 0 rfl) ?_
              refine z_mvV (As := [.int (iI ((((num / 2)) * 20 + ((i : Int)))))]) (rest := []) (wr := [(ad 12, .inr (1, [.ref (ad 1), .ref (ad 4), .ref (ad 13)])), (ad 4, .inr (0, [.ref (ad 1), .ref (ad 5), .ref (ad 6), .ref (ad 7)])), (ad 5, .inl (cI, 8, .inl (iA (P)))), (ad 6, .inl (cI, 8, .inl (iA (Ac)))), (ad 1, .inr (4, [.ref (ad 2), .ref (be), .int (iI (nx))])), (ad 2, .inl (cI, 160, .inl (iA (Vx)))), (be, .inl (cI, Ln, .inl (iA (Bx))))]) (ws2 := (fun (u : (Int → Int) × (Int → Int) × Int) => [(ad 12, .inr (1, [.ref (ad 1), .ref (ad 4), .ref (ad 13)])), (ad 4, .inr (0, [.ref (ad 1), .ref (ad 5), .ref (ad 6), .ref (ad 7)])), (ad 5, .inl (cI, 8, .inl (iA (P)))), (ad 6, .inl (cI, 8, .inl (iA (Ac)))), (ad 1, .inr (4, [.ref (ad 2), .ref (be), .int (iI (nx))])), (ad 2, .inl (cI, 160, .inl (iA (Vx)))), (be, .inl (cI, Ln, .inl (iA (Bx)))), (ad 13, .inr (3, [.ref (ad 14), .ref (ad 15), .int (iI (u.2.2))])), (ad 14, .inl (cI, 80, .inl (iA (u.1)))), (ad 15, .inl (cZ, 80, .inl (iA (u.2.1))))])) ⟨hx, hb, hml, hown, hts⟩ (c_X3_add l D cI cZ cC H.size (ad 13) (ad 14) (ad 15) (Qax) (Qkx) (qlx) (Qsx) ((((num / 2)) * 20 + ((i : Int)))) (by first | assumption | omega) (⟨by omega, by omega⟩)) (cwV 1 hts gX1_treatReferences_X3_add rfl rfl rfl (by decide +kernel) ⟨Nat.le_of_ble_eq_true rfl, Nat.le_of_ble_eq_true rfl⟩) hP hD hS hA hK [7, 8, 9] [0, 1, 2, 3, 4, 5, 6] [0, 1, 2, 3, 4, 5, 6, 7, 8, 9] rfl (by decide) rfl (by decide) (by decide) (by decide) (fun _ => rfl) 7 3 rfl rfl rfl rfl hl.1 rfl (Nat.le_of_ble_eq_true rfl) dX1_treatReferences_61 ⟨by omega, by omega⟩ (fun u H locs hq_9 hP hD hS => ?_)
              obtain ⟨Qa_10, Qk_11, ql_12⟩ := u
              have hP : va_P D vwCl [(ad 12, .inr (1, [.ref (ad 1), .ref (ad 4), .ref (ad 13)])), (ad 4, .inr (0, [.ref (ad 1), .ref (ad 5), .ref (ad 6), .ref (ad 7)])), (ad 5, .inl (cI, 8, .inl (iA (P)))), (ad 6, .inl (cI, 8, .inl (iA (Ac)))), (ad 1, .inr (4, [.ref (ad 2), .ref (be), .int (iI (nx))])), (ad 2, .inl (cI, 160, .inl (iA (Vx)))), (be, .inl (cI, Ln, .inl (iA (Bx)))), (ad 13, .inr (3, [.ref (ad 14), .ref (ad 15), .int (iI (ql_12))])), (ad 14, .inl (cI, 80, .inl (iA (Qa_10)))), (ad 15, .inl (cZ, 80, .inl (iA (Qk_11))))] H := hP
              have hD : va_D AA [(ad 12, .inr (1, [.ref (ad 1), .ref (ad 4), .ref (ad 13)])), (ad 4, .inr (0, [.ref (ad 1), .ref (ad 5), .ref (ad 6), .ref (ad 7)])), (ad 5, .inl (cI, 8, .inl (iA (P)))), (ad 6, .inl (cI, 8, .inl (iA (Ac)))), (ad 1, .inr (4, [.ref (ad 2), .ref (be), .int (iI (nx))])), (ad 2, .inl (cI, 160, .inl (iA (Vx)))), (be, .inl (cI, Ln, .inl (iA (Bx)))), (ad 13, .inr (3, [.ref (ad 14), .ref (ad 15), .int (iI (ql_12))])), (ad 14, .inl (cI, 80, .inl (iA (Qa_10)))), (ad 15, .inl (cZ, 80, .inl (iA (Qk_11))))] := hD
              try dsimp only at hq_9
              refine lv_iload_n hx hb dX1_treatReferences_64 rfl (lv_at hl 2 rfl) ?_
              refine lv_iconst (v := iI (3)) hx hb dX1_treatReferences_65 rfl ?_
              refine z_icmp_ne (tgt := 83) hx hb dX1_treatReferences_66 (by decide) ⟨⟨by omega, by omega⟩, ⟨by omega, by omega⟩⟩ (fun c_13 => ?_) (fun c_13 => ?_)
              · refine lv_iinc (v := iI ((i : Int) + 1)) (lv' := [(4, .int (iI ((i : Int) + 1))), (5, .int (iI ((((num / 2)) * 20 + ((i : Int)))))), (3, .int (iI (inA Ac num))), (0, .ref (ad 12)), (1, .int (iI (num))), (2, .int (iI (rem)))]) hx hb dX1_treatReferences_83 hl (k := 1) rfl (iI_add ((i : Int)) (1)) (by decide) rfl (fun ls hl => ?_)
                refine lv_goto (tgt := 12) hx hb dX1_treatReferences_86 (by decide) ?_
                exact ih12 (i + 1) _ _ _ _ _ _ _ _ (by omega) (by omega) g_D g_L g_H g_E hq_9 (exQ_add g_e (okD_ex g_D h_v)) (by rw [g_t, show 20 - i = (20 - (i + 1)) + 1 by omega, trL, if_pos (by omega), if_neg (by omega), if_pos (by omega)]; rfl) _ _ hP hD hS _ (lv_sub hl [0, 2, 3, 4, 5] rfl)
              · exfalso
                omega
          · refine lv_iconst (v := iI (0)) hx hb dX1_treatReferences_48 rfl ?_
            refine z_mretZ ((Vx, Bx, nx, Qax, Qkx, qlx)) hx hb hr hlocks dX1_treatReferences_49 (by omega) hP hD hS ?_
            refine ⟨by omega, lgx, Qsx, ?_, g_D, g_L, g_H, g_E, g_Q, g_e⟩
            rw [g_t, show 20 - i = (20 - (i + 1)) + 1 by omega, trL, if_pos (by omega), if_pos (by omega)]
            try rfl
  exact loop12 21 0 _ _ _ _ _ _ _ _ (by omega) (by omega) g_D g_L g_H (extL_rf _ _) g_Q g_e rfl _ _ hP hD hS _ (lv_sub hl [0, 1, 2, 3, 4] rfl)

set_option maxHeartbeats 600000 in
set_option maxRecDepth 100000 in
theorem c_X1_run (l : Launch) (D : va_G) (cI cZ cC : ClassId) (sz : Nat) (ad : Nat → Nat) (be Ln : Nat) (P Ac : Int → Int) (V B : Int → Int) (n : Int) (Qa Qk : Int → Int) (ql : Int) (N : Int) (lg : Lg) (r : Int) (g_P : ∀ j : Int, 0 ≤ j → j < 8 → P j = -2 ∨ (0 ≤ P j ∧ P j < 4)) (g_Ac : ∀ j : Int, 0 ≤ j → j < 8 → 0 ≤ Ac j ∧ Ac j ≤ 3) (g_D : okD Ln V n) (g_L : isL lg B n) (g_H : okH N lg V) (g_r : 0 ≤ r ∧ r < 80) (g_x : ¬ V (r * 2) = -2) : zMi l yX1_run wsX1_run ({ frames := 3, cells := 0, slots := 0, locals := 76 }) D cI cZ cC [(ad 12, .inr (1, [.ref (ad 1), .ref (ad 4), .ref (ad 13)])), (ad 4, .inr (0, [.ref (ad 1), .ref (ad 5), .ref (ad 6), .ref (ad 7)])), (ad 5, .inl (cI, 8, .inl (iA (P)))), (ad 6, .inl (cI, 8, .inl (iA (Ac)))), (ad 1, .inr (4, [.ref (ad 2), .ref (be), .int (iI (n))])), (ad 2, .inl (cI, 160, .inl (iA (V)))), (be, .inl (cI, Ln, .inl (iA (B)))), (ad 13, .inr (3, [.ref (ad 14), .ref (ad 15), .int (iI (ql))])), (ad 14, .inl (cI, 80, .inl (iA (Qa)))), (ad 15, .inl (cZ, 80, .inl (iA (Qk))))] sz [.ref (ad 12), .int (iI (r))] (0) (0) (fun (u : (Int → Int) × (Int → Int) × Int × (Int → Int) × (Int → Int) × Int) => [(ad 12, .inr (1, [.ref (ad 1), .ref (ad 4), .ref (ad 13)])), (ad 4, .inr (0, [.ref (ad 1), .ref (ad 5), .ref (ad 6), .ref (ad 7)])), (ad 5, .inl (cI, 8, .inl (iA (P)))), (ad 6, .inl (cI, 8, .inl (iA (Ac)))), (ad 1, .inr (4, [.ref (ad 2), .ref (be), .int (iI (u.2.2.1))])), (ad 2, .inl (cI, 160, .inl (iA (u.1)))), (be, .inl (cI, Ln, .inl (iA (u.2.1)))), (ad 13, .inr (3, [.ref (ad 14), .ref (ad 15), .int (iI (u.2.2.2.2.2))])), (ad 14, .inl (cI, 80, .inl (iA (u.2.2.2.1)))), (ad 15, .inl (cZ, 80, .inl (iA (u.2.2.2.2.1))))]) (fun v (u : (Int → Int) × (Int → Int) × Int × (Int → Int) × (Int → Int) × Int) => (v ≤ -10 ∧ -18 < v ∨ 0 ≤ v ∧ v ≤ 80) ∧ ∃ (lg1 : Lg) (Qs1 : List Int), (v, (u.1, lg1, Qs1)) = delL P Ac 81 0 (V, lg, [r]) ∧ okD Ln u.1 u.2.2.1 ∧ isL lg1 u.2.1 u.2.2.1 ∧ okH N lg1 u.1 ∧ extL V lg u.1 lg1) := by
  refine z_ofMi (cc := cX1_run) (maxL := 5) (ret := (some .int)) RX1 (by decide +kernel) rfl rfl (Nat.le_of_ble_eq_true rfl) ?_
  intro p0 en0 s0 m0 args0 below0 meth0 c0 ls AA hx hb hr hlocks hml hown hts hP hD hS hA hK hl
  have hl : lv_has ls 5 [(0, .ref (ad 12)), (1, .int (iI (r)))] := hl
  obtain ⟨H, hH⟩ : ∃ H, H = s0.heap := ⟨_, rfl⟩
  obtain ⟨locs, hlo⟩ : ∃ locs : List Loc, locs = [] := ⟨_, rfl⟩
  have hP : va_P D vwCl [(ad 12, .inr (1, [.ref (ad 1), .ref (ad 4), .ref (ad 13)])), (ad 4, .inr (0, [.ref (ad 1), .ref (ad 5), .ref (ad 6), .ref (ad 7)])), (ad 5, .inl (cI, 8, .inl (iA (P)))), (ad 6, .inl (cI, 8, .inl (iA (Ac)))), (ad 1, .inr (4, [.ref (ad 2), .ref (be), .int (iI (n))])), (ad 2, .inl (cI, 160, .inl (iA (V)))), (be, .inl (cI, Ln, .inl (iA (B)))), (ad 13, .inr (3, [.ref (ad 14), .ref (ad 15), .int (iI (ql))])), (ad 14, .inl (cI, 80, .inl (iA (Qa)))), (ad 15, .inl (cZ, 80, .inl (iA (Qk))))] H := by rw [hH]; exact hP
  have hS : va_S AA s0.heap H locs := by rw [hH, hlo]; exact hS
  suffices hW : W p0 l en0 (headSpec wsX1_run ({ frames := 3, cells := 0, slots := 0, locals := 76 })).room s0 m0 args0 below0 meth0 c0 H locs 0 0 (QMi below0 D ((fun (u : (Int → Int) × (Int → Int) × Int × (Int → Int) × (Int → Int) × Int) => [(ad 12, .inr (1, [.ref (ad 1), .ref (ad 4), .ref (ad 13)])), (ad 4, .inr (0, [.ref (ad 1), .ref (ad 5), .ref (ad 6), .ref (ad 7)])), (ad 5, .inl (cI, 8, .inl (iA (P)))), (ad 6, .inl (cI, 8, .inl (iA (Ac)))), (ad 1, .inr (4, [.ref (ad 2), .ref (be), .int (iI (u.2.2.1))])), (ad 2, .inl (cI, 160, .inl (iA (u.1)))), (be, .inl (cI, Ln, .inl (iA (u.2.1)))), (ad 13, .inr (3, [.ref (ad 14), .ref (ad 15), .int (iI (u.2.2.2.2.2))])), (ad 14, .inl (cI, 80, .inl (iA (u.2.2.2.1)))), (ad 15, .inl (cZ, 80, .inl (iA (u.2.2.2.2.1))))])) (fun v (u : (Int → Int) × (Int → Int) × Int × (Int → Int) × (Int → Int) × Int) => (v ≤ -10 ∧ -18 < v ∨ 0 ≤ v ∧ v ≤ 80) ∧ ∃ (lg1 : Lg) (Qs1 : List Int), (v, (u.1, lg1, Qs1)) = delL P Ac 81 0 (V, lg, [r]) ∧ okD Ln u.1 u.2.2.1 ∧ isL lg1 u.2.1 u.2.2.1 ∧ okH N lg1 u.1 ∧ extL V lg u.1 lg1) AA args0 s0 (0) (0)) (F0 m0 0 ls []) by rw [hH, hlo] at hW; exact hW
  have g_q0 : isQ [r] Qa Qk ql → True := fun _ => trivial
  refine lv_aload_n hx hb dX1_run_0 rfl (lv_at hl 0 rfl) ?_
  refine va_get (D := D) (ci := 1) (v := .ref (ad 13)) (C := RX1) (T := TX1) (N := 3) hx hb hts (fun _ h => List.mem_cons_of_mem _ (List.mem_append_left _ (List.mem_append_left _ (List.mem_append_left _ (List.mem_append_right _ (h)))))) hown hK.1 hP 0 rfl rfl 2 (by decide) (hts (.fieldLink RX1 12 "ForeignKeyStore$Deletion" "waiting" "LForeignKeyStore$RowQueue;") (List.mem_of_getElem? (i := 1) rfl)) (fun _ h9 => h9) rfl dX1_run_1 ?_
  refine z_mvV (As := []) (rest := []) (wr := [(ad 12, .inr (1, [.ref (ad 1), .ref (ad 4), .ref (ad 13)])), (ad 4, .inr (0, [.ref (ad 1), .ref (ad 5), .ref (ad 6), .ref (ad 7)])), (ad 5, .inl (cI, 8, .inl (iA (P)))), (ad 6, .inl (cI, 8, .inl (iA (Ac)))), (ad 1, .inr (4, [.ref (ad 2), .ref (be), .int (iI (n))])), (ad 2, .inl (cI, 160, .inl (iA (V)))), (be, .inl (cI, Ln, .inl (iA (B))))]) (ws2 := (fun (u : (Int → Int) × (Int → Int) × Int) => [(ad 12, .inr (1, [.ref (ad 1), .ref (ad 4), .ref (ad 13)])), (ad 4, .inr (0, [.ref (ad 1), .ref (ad 5), .ref (ad 6), .ref (ad 7)])), (ad 5, .inl (cI, 8, .inl (iA (P)))), (ad 6, .inl (cI, 8, .inl (iA (Ac)))), (ad 1, .inr (4, [.ref (ad 2), .ref (be), .int (iI (n))])), (ad 2, .inl (cI, 160, .inl (iA (V)))), (be, .inl (cI, Ln, .inl (iA (B)))), (ad 13, .inr (3, [.ref (ad 14), .ref (ad 15), .int (iI (u.2.2))])), (ad 14, .inl (cI, 80, .inl (iA (u.1)))), (ad 15, .inl (cZ, 80, .inl (iA (u.2.1))))])) ⟨hx, hb, hml, hown, hts⟩ (c_X3_clear l D cI cZ cC H.size (ad 13) (ad 14) (ad 15) (Qa) (Qk) (ql) ) (cwV 0 hts gX1_run_X3_clear rfl rfl rfl (by decide +kernel) ⟨Nat.le_of_ble_eq_true rfl, Nat.le_of_ble_eq_true rfl⟩) hP hD hS hA hK [7, 8, 9] [0, 1, 2, 3, 4, 5, 6] [0, 1, 2, 3, 4, 5, 6, 7, 8, 9] rfl (by decide) rfl (by decide) (by decide) (by decide) (fun _ => rfl) 7 3 rfl rfl rfl rfl hl.1 rfl (Nat.le_of_ble_eq_true rfl) dX1_run_4 ⟨by omega, by omega⟩ (fun u H locs hq_1 hP hD hS => ?_)
  obtain ⟨Qa_2, Qk_3, ql_4⟩ := u
  have hP : va_P D vwCl [(ad 12, .inr (1, [.ref (ad 1), .ref (ad 4), .ref (ad 13)])), (ad 4, .inr (0, [.ref (ad 1), .ref (ad 5), .ref (ad 6), .ref (ad 7)])), (ad 5, .inl (cI, 8, .inl (iA (P)))), (ad 6, .inl (cI, 8, .inl (iA (Ac)))), (ad 1, .inr (4, [.ref (ad 2), .ref (be), .int (iI (n))])), (ad 2, .inl (cI, 160, .inl (iA (V)))), (be, .inl (cI, Ln, .inl (iA (B)))), (ad 13, .inr (3, [.ref (ad 14), .ref (ad 15), .int (iI (ql_4))])), (ad 14, .inl (cI, 80, .inl (iA (Qa_2)))), (ad 15, .inl (cZ, 80, .inl (iA (Qk_3))))] H := hP
  have hD : va_D AA [(ad 12, .inr (1, [.ref (ad 1), .ref (ad 4), .ref (ad 13)])), (ad 4, .inr (0, [.ref (ad 1), .ref (ad 5), .ref (ad 6), .ref (ad 7)])), (ad 5, .inl (cI, 8, .inl (iA (P)))), (ad 6, .inl (cI, 8, .inl (iA (Ac)))), (ad 1, .inr (4, [.ref (ad 2), .ref (be), .int (iI (n))])), (ad 2, .inl (cI, 160, .inl (iA (V)))), (be, .inl (cI, Ln, .inl (iA (B)))), (ad 13, .inr (3, [.ref (ad 14), .ref (ad 15), .int (iI (ql_4))])), (ad 14, .inl (cI, 80, .inl (iA (Qa_2)))), (ad 15, .inl (cZ, 80, .inl (iA (Qk_3))))] := hD
  try dsimp only at hq_1
  refine lv_aload_n hx hb dX1_run_7 rfl (lv_at hl 0 rfl) ?_
  refine va_get (D := D) (ci := 1) (v := .ref (ad 13)) (C := RX1) (T := TX1) (N := 3) hx hb hts (fun _ h => List.mem_cons_of_mem _ (List.mem_append_left _ (List.mem_append_left _ (List.mem_append_left _ (List.mem_append_right _ (h)))))) hown hK.1 hP 0 rfl rfl 2 (by decide) (hts (.fieldLink RX1 12 "ForeignKeyStore$Deletion" "waiting" "LForeignKeyStore$RowQueue;") (List.mem_of_getElem? (i := 1) rfl)) (fun _ h9 => h9) rfl dX1_run_8 ?_
  refine lv_iload_n hx hb dX1_run_11 rfl (lv_at hl 1 rfl) ?_
  refine z_mvV (As := [.int (iI (r))]) (rest := []) (wr := [(ad 12, .inr (1, [.ref (ad 1), .ref (ad 4), .ref (ad 13)])), (ad 4, .inr (0, [.ref (ad 1), .ref (ad 5), .ref (ad 6), .ref (ad 7)])), (ad 5, .inl (cI, 8, .inl (iA (P)))), (ad 6, .inl (cI, 8, .inl (iA (Ac)))), (ad 1, .inr (4, [.ref (ad 2), .ref (be), .int (iI (n))])), (ad 2, .inl (cI, 160, .inl (iA (V)))), (be, .inl (cI, Ln, .inl (iA (B))))]) (ws2 := (fun (u : (Int → Int) × (Int → Int) × Int) => [(ad 12, .inr (1, [.ref (ad 1), .ref (ad 4), .ref (ad 13)])), (ad 4, .inr (0, [.ref (ad 1), .ref (ad 5), .ref (ad 6), .ref (ad 7)])), (ad 5, .inl (cI, 8, .inl (iA (P)))), (ad 6, .inl (cI, 8, .inl (iA (Ac)))), (ad 1, .inr (4, [.ref (ad 2), .ref (be), .int (iI (n))])), (ad 2, .inl (cI, 160, .inl (iA (V)))), (be, .inl (cI, Ln, .inl (iA (B)))), (ad 13, .inr (3, [.ref (ad 14), .ref (ad 15), .int (iI (u.2.2))])), (ad 14, .inl (cI, 80, .inl (iA (u.1)))), (ad 15, .inl (cZ, 80, .inl (iA (u.2.1))))])) ⟨hx, hb, hml, hown, hts⟩ (c_X3_add l D cI cZ cC H.size (ad 13) (ad 14) (ad 15) (Qa_2) (Qk_3) (ql_4) ([]) (r) (by first | assumption | omega) (by first | assumption | omega)) (cwV 1 hts gX1_run_X3_add rfl rfl rfl (by decide +kernel) ⟨Nat.le_of_ble_eq_true rfl, Nat.le_of_ble_eq_true rfl⟩) hP hD hS hA hK [7, 8, 9] [0, 1, 2, 3, 4, 5, 6] [0, 1, 2, 3, 4, 5, 6, 7, 8, 9] rfl (by decide) rfl (by decide) (by decide) (by decide) (fun _ => rfl) 7 3 rfl rfl rfl rfl hl.1 rfl (Nat.le_of_ble_eq_true rfl) dX1_run_12 ⟨by omega, by omega⟩ (fun u H locs hq_5 hP hD hS => ?_)
  obtain ⟨Qa_6, Qk_7, ql_8⟩ := u
  have hP : va_P D vwCl [(ad 12, .inr (1, [.ref (ad 1), .ref (ad 4), .ref (ad 13)])), (ad 4, .inr (0, [.ref (ad 1), .ref (ad 5), .ref (ad 6), .ref (ad 7)])), (ad 5, .inl (cI, 8, .inl (iA (P)))), (ad 6, .inl (cI, 8, .inl (iA (Ac)))), (ad 1, .inr (4, [.ref (ad 2), .ref (be), .int (iI (n))])), (ad 2, .inl (cI, 160, .inl (iA (V)))), (be, .inl (cI, Ln, .inl (iA (B)))), (ad 13, .inr (3, [.ref (ad 14), .ref (ad 15), .int (iI (ql_8))])), (ad 14, .inl (cI, 80, .inl (iA (Qa_6)))), (ad 15, .inl (cZ, 80, .inl (iA (Qk_7))))] H := hP
  have hD : va_D AA [(ad 12, .inr (1, [.ref (ad 1), .ref (ad 4), .ref (ad 13)])), (ad 4, .inr (0, [.ref (ad 1), .ref (ad 5), .ref (ad 6), .ref (ad 7)])), (ad 5, .inl (cI, 8, .inl (iA (P)))), (ad 6, .inl (cI, 8, .inl (iA (Ac)))), (ad 1, .inr (4, [.ref (ad 2), .ref (be), .int (iI (n))])), (ad 2, .inl (cI, 160, .inl (iA (V)))), (be, .inl (cI, Ln, .inl (iA (B)))), (ad 13, .inr (3, [.ref (ad 14), .ref (ad 15), .int (iI (ql_8))])), (ad 14, .inl (cI, 80, .inl (iA (Qa_6)))), (ad 15, .inl (cZ, 80, .inl (iA (Qk_7))))] := hD
  try dsimp only at hq_5
  refine lv_iconst (v := iI (0)) hx hb dX1_run_15 rfl ?_
  refine lv_istore_n (lv' := [(2, .int (iI (0))), (0, .ref (ad 12)), (1, .int (iI (r)))]) hx hb dX1_run_16 rfl hl (by decide) rfl (fun ls hl => ?_)
  have loop17 : ∀ (fu : Nat) (i : Nat) (lgx : Lg) (Qsx : List Int) (Vx Bx : Int → Int) (nx : Int) (Qax Qkx : Int → Int) (qlx : Int), (g_i : i ≤ 80) → (g_fu : 80 < i + fu) → (g_D : okD Ln Vx nx) → (g_L : isL lgx Bx nx) → (g_H : okH N lgx Vx) → (g_E : extL V lg Vx lgx) → (g_Q : isQ Qsx Qax Qkx qlx) → (g_e : exQ Vx Qsx i) → (g_t : delL P Ac 81 0 (V, lg, [r]) = delL P Ac (81 - i) i (Vx, lgx, Qsx)) → ∀ (H : Heap) (locs : List Loc), va_P D vwCl [(ad 12, .inr (1, [.ref (ad 1), .ref (ad 4), .ref (ad 13)])), (ad 4, .inr (0, [.ref (ad 1), .ref (ad 5), .ref (ad 6), .ref (ad 7)])), (ad 5, .inl (cI, 8, .inl (iA (P)))), (ad 6, .inl (cI, 8, .inl (iA (Ac)))), (ad 1, .inr (4, [.ref (ad 2), .ref (be), .int (iI (nx))])), (ad 2, .inl (cI, 160, .inl (iA (Vx)))), (be, .inl (cI, Ln, .inl (iA (Bx)))), (ad 13, .inr (3, [.ref (ad 14), .ref (ad 15), .int (iI (qlx))])), (ad 14, .inl (cI, 80, .inl (iA (Qax)))), (ad 15, .inl (cZ, 80, .inl (iA (Qkx))))] H → va_D AA [(ad 12, .inr (1, [.ref (ad 1), .ref (ad 4), .ref (ad 13)])), (ad 4, .inr (0, [.ref (ad 1), .ref (ad 5), .ref (ad 6), .ref (ad 7)])), (ad 5, .inl (cI, 8, .inl (iA (P)))), (ad 6, .inl (cI, 8, .inl (iA (Ac)))), (ad 1, .inr (4, [.ref (ad 2), .ref (be), .int (iI (nx))])), (ad 2, .inl (cI, 160, .inl (iA (Vx)))), (be, .inl (cI, Ln, .inl (iA (Bx)))), (ad 13, .inr (3, [.ref (ad 14), .ref (ad 15), .int (iI (qlx))])), (ad 14, .inl (cI, 80, .inl (iA (Qax)))), (ad 15, .inl (cZ, 80, .inl (iA (Qkx))))] → va_S AA s0.heap H locs → ∀ ls : Array Slot, lv_has ls 5 [(2, .int (iI ((i : Int)))), (0, .ref (ad 12)), (1, .int (iI (r)))] → W p0 l en0 (headSpec wsX1_run ({ frames := 3, cells := 0, slots := 0, locals := 76 })).room s0 m0 args0 below0 meth0 c0 H locs 0 0 (QMi below0 D ((fun (u : (Int → Int) × (Int → Int) × Int × (Int → Int) × (Int → Int) × Int) => [(ad 12, .inr (1, [.ref (ad 1), .ref (ad 4), .ref (ad 13)])), (ad 4, .inr (0, [.ref (ad 1), .ref (ad 5), .ref (ad 6), .ref (ad 7)])), (ad 5, .inl (cI, 8, .inl (iA (P)))), (ad 6, .inl (cI, 8, .inl (iA (Ac)))), (ad 1, .inr (4, [.ref (ad 2), .ref (be), .int (iI (u.2.2.1))])), (ad 2, .inl (cI, 160, .inl (iA (u.1)))), (be, .inl (cI, Ln, .inl (iA (u.2.1)))), (ad 13, .inr (3, [.ref (ad 14), .ref (ad 15), .int (iI (u.2.2.2.2.2))])), (ad 14, .inl (cI, 80, .inl (iA (u.2.2.2.1)))), (ad 15, .inl (cZ, 80, .inl (iA (u.2.2.2.2.1))))])) (fun v (u : (Int → Int) × (Int → Int) × Int × (Int → Int) × (Int → Int) × Int) => (v ≤ -10 ∧ -18 < v ∨ 0 ≤ v ∧ v ≤ 80) ∧ ∃ (lg1 : Lg) (Qs1 : List Int), (v, (u.1, lg1, Qs1)) = delL P Ac 81 0 (V, lg, [r]) ∧ okD Ln u.1 u.2.2.1 ∧ isL lg1 u.2.1 u.2.2.1 ∧ okH N lg1 u.1 ∧ extL V lg u.1 lg1) AA args0 s0 (0) (0)) (F0 m0 17 ls []) := by
    intro fu
    induction fu with
    | zero => intro i lgx Qsx Vx Bx nx Qax Qkx qlx g_i g_fu g_D g_L g_H g_E g_Q g_e g_t H locs hP hD hS ls hl; exfalso; omega
    | succ fu ih17 =>
      intro i lgx Qsx Vx Bx nx Qax Qkx qlx g_i g_fu g_D g_L g_H g_E g_Q g_e g_t H locs hP hD hS ls hl
      have g_len := isQ_len g_Q
      have e0 := g_Q.1
      refine lv_iload_n hx hb dX1_run_17 rfl (lv_at hl 0 rfl) ?_
      refine lv_aload_n hx hb dX1_run_18 rfl (lv_at hl 1 rfl) ?_
      refine va_get (D := D) (ci := 1) (v := .ref (ad 13)) (C := RX1) (T := TX1) (N := 3) hx hb hts (fun _ h => List.mem_cons_of_mem _ (List.mem_append_left _ (List.mem_append_left _ (List.mem_append_left _ (List.mem_append_right _ (h)))))) hown hK.1 hP 0 rfl rfl 2 (by decide) (hts (.fieldLink RX1 12 "ForeignKeyStore$Deletion" "waiting" "LForeignKeyStore$RowQueue;") (List.mem_of_getElem? (i := 1) rfl)) (fun _ h9 => h9) rfl dX1_run_19 ?_
      refine z_roV (As := []) (rest := [.int (iI ((i : Int)))]) ⟨hx, hb, hml, hown, hts⟩ (c_X3_length l D cI cZ cC (ad 13) (ad 14) (ad 15) (qlx) ) (cwV 0 hts gX1_run_X3_length rfl rfl rfl (by decide +kernel) ⟨Nat.le_of_ble_eq_true rfl, Nat.le_of_ble_eq_true rfl⟩) hP hK [7] rfl 7 3 rfl rfl rfl rfl hl.1 rfl (Nat.le_of_ble_eq_true rfl) dX1_run_22 ⟨by omega, by omega⟩ ?_
      refine z_icmp_ge (tgt := 89) hx hb dX1_run_25 (by decide) ⟨⟨by omega, by omega⟩, ⟨by omega, by omega⟩⟩ (fun c_9 => ?_) (fun c_9 => ?_)
      · refine lv_aload_n hx hb dX1_run_89 rfl (lv_at hl 1 rfl) ?_
        refine va_get (D := D) (ci := 1) (v := .ref (ad 13)) (C := RX1) (T := TX1) (N := 3) hx hb hts (fun _ h => List.mem_cons_of_mem _ (List.mem_append_left _ (List.mem_append_left _ (List.mem_append_left _ (List.mem_append_right _ (h)))))) hown hK.1 hP 0 rfl rfl 2 (by decide) (hts (.fieldLink RX1 12 "ForeignKeyStore$Deletion" "waiting" "LForeignKeyStore$RowQueue;") (List.mem_of_getElem? (i := 1) rfl)) (fun _ h9 => h9) rfl dX1_run_90 ?_
        refine z_roV (As := []) (rest := []) ⟨hx, hb, hml, hown, hts⟩ (c_X3_length l D cI cZ cC (ad 13) (ad 14) (ad 15) (qlx) ) (cwV 0 hts gX1_run_X3_length rfl rfl rfl (by decide +kernel) ⟨Nat.le_of_ble_eq_true rfl, Nat.le_of_ble_eq_true rfl⟩) hP hK [7] rfl 7 3 rfl rfl rfl rfl hl.1 rfl (Nat.le_of_ble_eq_true rfl) dX1_run_93 ⟨by omega, by omega⟩ ?_
        refine z_mret ((Vx, Bx, nx, Qax, Qkx, qlx)) hx hb hr hlocks dX1_run_96 hP hD hS ?_
        refine ⟨by omega, lgx, Qsx, ?_, g_D, g_L, g_H, g_E⟩
        rw [g_t, delL_out (by omega), e0]
      · refine lv_iload_n hx hb dX1_run_28 rfl (lv_at hl 0 rfl) ?_
        refine lv_bipush (v := iI (80)) hx hb dX1_run_29 (by decide) ?_
        refine z_icmp_ge (tgt := 89) hx hb dX1_run_31 (by decide) ⟨⟨by omega, by omega⟩, ⟨by omega, by omega⟩⟩ (fun c_10 => ?_) (fun c_10 => ?_)
        · refine lv_aload_n hx hb dX1_run_89 rfl (lv_at hl 1 rfl) ?_
          refine va_get (D := D) (ci := 1) (v := .ref (ad 13)) (C := RX1) (T := TX1) (N := 3) hx hb hts (fun _ h => List.mem_cons_of_mem _ (List.mem_append_left _ (List.mem_append_left _ (List.mem_append_left _ (List.mem_append_right _ (h)))))) hown hK.1 hP 0 rfl rfl 2 (by decide) (hts (.fieldLink RX1 12 "ForeignKeyStore$Deletion" "waiting" "LForeignKeyStore$RowQueue;") (List.mem_of_getElem? (i := 1) rfl)) (fun _ h9 => h9) rfl dX1_run_90 ?_
          refine z_roV (As := []) (rest := []) ⟨hx, hb, hml, hown, hts⟩ (c_X3_length l D cI cZ cC (ad 13) (ad 14) (ad 15) (qlx) ) (cwV 0 hts gX1_run_X3_length rfl rfl rfl (by decide +kernel) ⟨Nat.le_of_ble_eq_true rfl, Nat.le_of_ble_eq_true rfl⟩) hP hK [7] rfl 7 3 rfl rfl rfl rfl hl.1 rfl (Nat.le_of_ble_eq_true rfl) dX1_run_93 ⟨by omega, by omega⟩ ?_
          refine z_mret ((Vx, Bx, nx, Qax, Qkx, qlx)) hx hb hr hlocks dX1_run_96 hP hD hS ?_
          refine ⟨by omega, lgx, Qsx, ?_, g_D, g_L, g_H, g_E⟩
          rw [g_t, delL_out (by omega), e0]
        · refine lv_aload_n hx hb dX1_run_34 rfl (lv_at hl 1 rfl) ?_
          refine va_get (D := D) (ci := 1) (v := .ref (ad 13)) (C := RX1) (T := TX1) (N := 3) hx hb hts (fun _ h => List.mem_cons_of_mem _ (List.mem_append_left _ (List.mem_append_left _ (List.mem_append_left _ (List.mem_append_right _ (h)))))) hown hK.1 hP 0 rfl rfl 2 (by decide) (hts (.fieldLink RX1 12 "ForeignKeyStore$Deletion" "waiting" "LForeignKeyStore$RowQueue;") (List.mem_of_getElem? (i := 1) rfl)) (fun _ h9 => h9) rfl dX1_run_35 ?_
          refine lv_iload_n hx hb dX1_run_38 rfl (lv_at hl 0 rfl) ?_
          refine z_roV (As := [.int (iI ((i : Int)))]) (rest := []) ⟨hx, hb, hml, hown, hts⟩ (c_X3_rowAt l D cI cZ cC (ad 13) (ad 14) (ad 15) (Qax) (qlx) ((i : Int)) (by first | assumption | omega) (by first | assumption | omega)) (cwV 1 hts gX1_run_X3_rowAt rfl rfl rfl (by decide +kernel) ⟨Nat.le_of_ble_eq_true rfl, Nat.le_of_ble_eq_true rfl⟩) hP hK [7, 8] rfl 7 3 rfl rfl rfl rfl hl.1 rfl (Nat.le_of_ble_eq_true rfl) dX1_run_39 ⟨by omega, by omega⟩ ?_
          have h_r := isQ_at g_Q (i := i) (by omega)
          rw [qAt_i ⟨by omega, by omega, by omega⟩]
          refine lv_istore_n (lv' := [(3, .int (iI (Qax (i : Int)))), (2, .int (iI ((i : Int)))), (0, .ref (ad 12)), (1, .int (iI (r)))]) hx hb dX1_run_42 rfl hl (by decide) rfl (fun ls hl => ?_)
          refine lv_aload_n hx hb dX1_run_43 rfl (lv_at hl 2 rfl) ?_
          refine va_get (D := D) (ci := 1) (v := .ref (ad 1)) (C := RX1) (T := TX1) (N := 3) hx hb hts (fun _ h => List.mem_cons_of_mem _ (List.mem_append_left _ (List.mem_append_left _ (List.mem_append_left _ (List.mem_append_right _ (h)))))) hown hK.1 hP 0 rfl rfl 0 (by decide) (hts (.fieldLink RX1 18 "ForeignKeyStore$Deletion" "rows" "LForeignKeyStore$Rows;") (List.mem_of_getElem? (i := 2) rfl)) (fun _ h9 => h9) rfl dX1_run_44 ?_
          refine lv_iload_n hx hb dX1_run_47 rfl (lv_at hl 0 rfl) ?_
          refine z_mvV (As := [.int (iI (Qax (i : Int)))]) (rest := []) (wr := [(ad 12, .inr (1, [.ref (ad 1), .ref (ad 4), .ref (ad 13)])), (ad 4, .inr (0, [.ref (ad 1), .ref (ad 5), .ref (ad 6), .ref (ad 7)])), (ad 5, .inl (cI, 8, .inl (iA (P)))), (ad 6, .inl (cI, 8, .inl (iA (Ac)))), (ad 13, .inr (3, [.ref (ad 14), .ref (ad 15), .int (iI (qlx))])), (ad 14, .inl (cI, 80, .inl (iA (Qax)))), (ad 15, .inl (cZ, 80, .inl (iA (Qkx))))]) (ws2 := (fun (u : Unit) => [(ad 12, .inr (1, [.ref (ad 1), .ref (ad 4), .ref (ad 13)])), (ad 4, .inr (0, [.ref (ad 1), .ref (ad 5), .ref (ad 6), .ref (ad 7)])), (ad 5, .inl (cI, 8, .inl (iA (P)))), (ad 6, .inl (cI, 8, .inl (iA (Ac)))), (ad 1, .inr (4, [.ref (ad 2), .ref (be), .int (iI (nx + 1))])), (ad 2, .inl (cI, 160, .inl (iA (wrV Vx (Qax (i : Int)) (-2) (-2))))), (be, .inl (cI, Ln, .inl (iA (wrB Bx nx (Qax (i : Int)) Vx)))), (ad 13, .inr (3, [.ref (ad 14), .ref (ad 15), .int (iI (qlx))])), (ad 14, .inl (cI, 80, .inl (iA (Qax)))), (ad 15, .inl (cZ, 80, .inl (iA (Qkx))))])) ⟨hx, hb, hml, hown, hts⟩ (c_X4_erase l D cI cZ cC H.size (ad) (be) (Ln) (nx) (Vx) (Bx) (Qax (i : Int)) (g_D.1) (h_r.2) ((okD_erase g_D h_r.2.1 h_r.2.2 (by rw [h_r.1]; exact g_e i (Nat.le_refl _) (by omega))).1)) (cwV 1 hts gX1_run_X4_erase rfl rfl rfl (by decide +kernel) ⟨Nat.le_of_ble_eq_true rfl, Nat.le_of_ble_eq_true rfl⟩) hP hD hS hA hK [4, 5, 6] [0, 1, 2, 3, 7, 8, 9] [0, 1, 2, 3, 7, 8, 9, 4, 5, 6] rfl (by decide) rfl (by decide) (by decide) (by decide) (fun _ => rfl) 4 4 rfl rfl rfl rfl hl.1 rfl (Nat.le_of_ble_eq_true rfl) dX1_run_48 ⟨by omega, by omega⟩ (fun u H locs hq_11 hP hD hS => ?_)
          have hP : va_P D vwCl [(ad 12, .inr (1, [.ref (ad 1), .ref (ad 4), .ref (ad 13)])), (ad 4, .inr (0, [.ref (ad 1), .ref (ad 5), .ref (ad 6), .ref (ad 7)])), (ad 5, .inl (cI, 8, .inl (iA (P)))), (ad 6, .inl (cI, 8, .inl (iA (Ac)))), (ad 1, .inr (4, [.ref (ad 2), .ref (be), .int (iI (nx + 1))])), (ad 2, .inl (cI, 160, .inl (iA (wrV Vx (Qax (i : Int)) (-2) (-2))))), (be, .inl (cI, Ln, .inl (iA (wrB Bx nx (Qax (i : Int)) Vx)))), (ad 13, .inr (3, [.ref (ad 14), .ref (ad 15), .int (iI (qlx))])), (ad 14, .inl (cI, 80, .inl (iA (Qax)))), (ad 15, .inl (cZ, 80, .inl (iA (Qkx))))] H := hP
          have hD : va_D AA [(ad 12, .inr (1, [.ref (ad 1), .ref (ad 4), .ref (ad 13)])), (ad 4, .inr (0, [.ref (ad 1), .ref (ad 5), .ref (ad 6), .ref (ad 7)])), (ad 5, .inl (cI, 8, .inl (iA (P)))), (ad 6, .inl (cI, 8, .inl (iA (Ac)))), (ad 1, .inr (4, [.ref (ad 2), .ref (be), .int (iI (nx + 1))])), (ad 2, .inl (cI, 160, .inl (iA (wrV Vx (Qax (i : Int)) (-2) (-2))))), (be, .inl (cI, Ln, .inl (iA (wrB Bx nx (Qax (i : Int)) Vx)))), (ad 13, .inr (3, [.ref (ad 14), .ref (ad 15), .int (iI (qlx))])), (ad 14, .inl (cI, 80, .inl (iA (Qax)))), (ad 15, .inl (cZ, 80, .inl (iA (Qkx))))] := hD
          try dsimp only at hq_11
          refine lv_iconst (v := iI (0)) hx hb dX1_run_51 rfl ?_
          refine lv_istore (lv' := [(4, .int (iI (0))), (3, .int (iI (Qax (i : Int)))), (2, .int (iI ((i : Int)))), (0, .ref (ad 12)), (1, .int (iI (r)))]) hx hb dX1_run_52 hl (by decide) rfl (fun ls hl => ?_)
          have loop54 : ∀ (fu : Nat) (k : Nat) (lgy : Lg) (Qsy : List Int) (Vy By : Int → Int) (ny : Int) (Qay Qky : Int → Int) (qly : Int), (g_k : k ≤ 8) → (g_fu2 : 8 < k + fu) → (g_D2 : okD Ln Vy ny) → (g_L2 : isL lgy By ny) → (g_H2 : okH N lgy Vy) → (g_E2 : extL V lg Vy lgy) → (g_Q2 : isQ Qsy Qay Qky qly) → (g_e2 : exQ Vy Qsy (i + 1)) → (g_w : numL P Ac (Qsx.getD i 0) 8 0 (wrV Vx (Qsx.getD i 0) (-2) (-2), pe Vx (Qsx.getD i 0) :: lgx, Qsx) = numL P Ac (Qsx.getD i 0) (8 - k) k (Vy, lgy, Qsy)) → ∀ (H : Heap) (locs : List Loc), va_P D vwCl [(ad 12, .inr (1, [.ref (ad 1), .ref (ad 4), .ref (ad 13)])), (ad 4, .inr (0, [.ref (ad 1), .ref (ad 5), .ref (ad 6), .ref (ad 7)])), (ad 5, .inl (cI, 8, .inl (iA (P)))), (ad 6, .inl (cI, 8, .inl (iA (Ac)))), (ad 1, .inr (4, [.ref (ad 2), .ref (be), .int (iI (ny))])), (ad 2, .inl (cI, 160, .inl (iA (Vy)))), (be, .inl (cI, Ln, .inl (iA (By)))), (ad 13, .inr (3, [.ref (ad 14), .ref (ad 15), .int (iI (qly))])), (ad 14, .inl (cI, 80, .inl (iA (Qay)))), (ad 15, .inl (cZ, 80, .inl (iA (Qky))))] H → va_D AA [(ad 12, .inr (1, [.ref (ad 1), .ref (ad 4), .ref (ad 13)])), (ad 4, .inr (0, [.ref (ad 1), .ref (ad 5), .ref (ad 6), .ref (ad 7)])), (ad 5, .inl (cI, 8, .inl (iA (P)))), (ad 6, .inl (cI, 8, .inl (iA (Ac)))), (ad 1, .inr (4, [.ref (ad 2), .ref (be), .int (iI (ny))])), (ad 2, .inl (cI, 160, .inl (iA (Vy)))), (be, .inl (cI, Ln, .inl (iA (By)))), (ad 13, .inr (3, [.ref (ad 14), .ref (ad 15), .int (iI (qly))])), (ad 14, .inl (cI, 80, .inl (iA (Qay)))), (ad 15, .inl (cZ, 80, .inl (iA (Qky))))] → va_S AA s0.heap H locs → ∀ ls : Array Slot, lv_has ls 5 [(4, .int (iI ((k : Int)))), (3, .int (iI (Qax (i : Int)))), (2, .int (iI ((i : Int)))), (0, .ref (ad 12)), (1, .int (iI (r)))] → W p0 l en0 (headSpec wsX1_run ({ frames := 3, cells := 0, slots := 0, locals := 76 })).room s0 m0 args0 below0 meth0 c0 H locs 0 0 (QMi below0 D ((fun (u : (Int → Int) × (Int → Int) × Int × (Int → Int) × (Int → Int) × Int) => [(ad 12, .inr (1, [.ref (ad 1), .ref (ad 4), .ref (ad 13)])), (ad 4, .inr (0, [.ref (ad 1), .ref (ad 5), .ref (ad 6), .ref (ad 7)])), (ad 5, .inl (cI, 8, .inl (iA (P)))), (ad 6, .inl (cI, 8, .inl (iA (Ac)))), (ad 1, .inr (4, [.ref (ad 2), .ref (be), .int (iI (u.2.2.1))])), (ad 2, .inl (cI, 160, .inl (iA (u.1)))), (be, .inl (cI, Ln, .inl (iA (u.2.1)))), (ad 13, .inr (3, [.ref (ad 14), .ref (ad 15), .int (iI (u.2.2.2.2.2))])), (ad 14, .inl (cI, 80, .inl (iA (u.2.2.2.1)))), (ad 15, .inl (cZ, 80, .inl (iA (u.2.2.2.2.1))))])) (fun v (u : (Int → Int) × (Int → Int) × Int × (Int → Int) × (Int → Int) × Int) => (v ≤ -10 ∧ -18 < v ∨ 0 ≤ v ∧ v ≤ 80) ∧ ∃ (lg1 : Lg) (Qs1 : List Int), (v, (u.1, lg1, Qs1)) = delL P Ac 81 0 (V, lg, [r]) ∧ okD Ln u.1 u.2.2.1 ∧ isL lg1 u.2.1 u.2.2.1 ∧ okH N lg1 u.1 ∧ extL V lg u.1 lg1) AA args0 s0 (0) (0)) (F0 m0 54 ls []) := by
            intro fu
            induction fu with
            | zero => intro k lgy Qsy Vy By ny Qay Qky qly g_k g_fu2 g_D2 g_L2 g_H2 g_E2 g_Q2 g_e2 g_w H locs hP hD hS ls hl; exfalso; omega
            | succ fu ih54 =>
              intro k lgy Qsy Vy By ny Qay Qky qly g_k g_fu2 g_D2 g_L2 g_H2 g_E2 g_Q2 g_e2 g_w H locs hP hD hS ls hl
              refine lv_iload hx hb dX1_run_54 (lv_at hl 0 rfl) ?_
              refine lv_bipush (v := iI (8)) hx hb dX1_run_56 (by decide) ?_
              refine z_icmp_ge (tgt := 83) hx hb dX1_run_58 (by decide) ⟨⟨by omega, by omega⟩, ⟨by omega, by omega⟩⟩ (fun c_12 => ?_) (fun c_12 => ?_)
              · refine lv_iinc (v := iI ((i : Int) + 1)) (lv' := [(2, .int (iI ((i : Int) + 1))), (4, .int (iI ((k : Int)))), (3, .int (iI (Qax (i : Int)))), (0, .ref (ad 12)), (1, .int (iI (r)))]) hx hb dX1_run_83 hl (k := 2) rfl (iI_add ((i : Int)) (1)) (by decide) rfl (fun ls hl => ?_)
                refine lv_goto (tgt := 17) hx hb dX1_run_86 (by decide) ?_
                exact ih17 (i + 1) _ _ _ _ _ _ _ _ (by omega) (by omega) g_D2 g_L2 g_H2 g_E2 g_Q2 g_e2 (by rw [g_t, show 81 - i = (81 - (i + 1)) + 1 by omega, delL, if_pos (by omega), g_w, show 8 - k = 0 by omega, numL_0, if_pos rfl]) _ _ hP hD hS _ (lv_sub hl [0, 3, 4] rfl)
              · refine lv_aload_n hx hb dX1_run_61 rfl (lv_at hl 3 rfl) ?_
                refine lv_iload hx hb dX1_run_62 (lv_at hl 0 rfl) ?_
                refine lv_iload_n hx hb dX1_run_64 rfl (lv_at hl 1 rfl) ?_
                refine z_muV (As := [.int (iI ((k : Int))), .int (iI (Qax (i : Int)))]) (rest := []) (wr := []) (ws2 := (fun (u : (Int → Int) × (Int → Int) × Int × (Int → Int) × (Int → Int) × Int) => [(ad 12, .inr (1, [.ref (ad 1), .ref (ad 4), .ref (ad 13)])), (ad 4, .inr (0, [.ref (ad 1), .ref (ad 5), .ref (ad 6), .ref (ad 7)])), (ad 5, .inl (cI, 8, .inl (iA (P)))), (ad 6, .inl (cI, 8, .inl (iA (Ac)))), (ad 1, .inr (4, [.ref (ad 2), .ref (be), .int (iI (u.2.2.1))])), (ad 2, .inl (cI, 160, .inl (iA (u.1)))), (be, .inl (cI, Ln, .inl (iA (u.2.1)))), (ad 13, .inr (3, [.ref (ad 14), .ref (ad 15), .int (iI (u.2.2.2.2.2))])), (ad 14, .inl (cI, 80, .inl (iA (u.2.2.2.1)))), (ad 15, .inl (cZ, 80, .inl (iA (u.2.2.2.2.1))))])) ⟨hx, hb, hml, hown, hts⟩ (c_X1_treatReferences l D cI cZ cC H.size (ad) (be) (Ln) (P) (Ac) (Vy) (By) (ny) (Qay) (Qky) (qly) (N) (lgy) (Qsy) ((i + 1)) ((k : Int)) (Qax (i : Int)) (by first | assumption | omega) (by first | assumption | omega) (g_D2) (g_L2) (g_H2) (g_Q2) (g_e2) (by first | assumption | omega) (h_r.2)) (cwV 2 hts gX1_run_X1_treatReferences rfl rfl rfl (by decide +kernel) ⟨Nat.le_of_ble_eq_true rfl, Nat.le_of_ble_eq_true rfl⟩) hP hD hS hA hK [0, 1, 2, 3, 4, 5, 6, 7, 8, 9] [] [0, 1, 2, 3, 4, 5, 6, 7, 8, 9] rfl (by decide) rfl (by decide) (by decide) (by decide) (fun _ => rfl) 0 1 rfl rfl rfl rfl hl.1 rfl (Nat.le_of_ble_eq_true rfl) dX1_run_65 ⟨by omega, by omega⟩ (fun r_14 u H locs hq_13 hP hD hS => ?_)
                obtain ⟨V_15, B_16, n_17, Qa_18, Qk_19, ql_20⟩ := u
                have hP : va_P D vwCl [(ad 12, .inr (1, [.ref (ad 1), .ref (ad 4), .ref (ad 13)])), (ad 4, .inr (0, [.ref (ad 1), .ref (ad 5), .ref (ad 6), .ref (ad 7)])), (ad 5, .inl (cI, 8, .inl (iA (P)))), (ad 6, .inl (cI, 8, .inl (iA (Ac)))), (ad 1, .inr (4, [.ref (ad 2), .ref (be), .int (iI (n_17))])), (ad 2, .inl (cI, 160, .inl (iA (V_15)))), (be, .inl (cI, Ln, .inl (iA (B_16)))), (ad 13, .inr (3, [.ref (ad 14), .ref (ad 15), .int (iI (ql_20))])), (ad 14, .inl (cI, 80, .inl (iA (Qa_18)))), (ad 15, .inl (cZ, 80, .inl (iA (Qk_19))))] H := hP
                have hD : va_D AA [(ad 12, .inr (1, [.ref (ad 1), .ref (ad 4), .ref (ad 13)])), (ad 4, .inr (0, [.ref (ad 1), .ref (ad 5), .ref (ad 6), .ref (ad 7)])), (ad 5, .inl (cI, 8, .inl (iA (P)))), (ad 6, .inl (cI, 8, .inl (iA (Ac)))), (ad 1, .inr (4, [.ref (ad 2), .ref (be), .int (iI (n_17))])), (ad 2, .inl (cI, 160, .inl (iA (V_15)))), (be, .inl (cI, Ln, .inl (iA (B_16)))), (ad 13, .inr (3, [.ref (ad 14), .ref (ad 15), .int (iI (ql_20))])), (ad 14, .inl (cI, 80, .inl (iA (Qa_18)))), (ad 15, .inl (cZ, 80, .inl (iA (Qk_19))))] := hD
                try dsimp only at hq_13
                obtain ⟨h_01, lgz, Qsz, h_t, h_D, h_L, h_H, h_E, h_Q, h_e⟩ := hq_13
                refine z_if_ne (tgt := 77) hx hb dX1_run_68 (by decide) ⟨by omega, by omega⟩ (fun c_21 => ?_) (fun c_21 => ?_)
                · refine lv_iinc (v := iI ((k : Int) + 1)) (lv' := [(4, .int (iI ((k : Int) + 1))), (3, .int (iI (Qax (i : Int)))), (2, .int (iI ((i : Int)))), (0, .ref (ad 12)), (1, .int (iI (r)))]) hx hb dX1_run_77 hl (k := 0) rfl (iI_add ((k : Int)) (1)) (by decide) rfl (fun ls hl => ?_)
                  refine lv_goto (tgt := 54) hx hb dX1_run_80 (by decide) ?_
                  exact ih54 (k + 1) _ _ _ _ _ _ _ _ (by omega) (by omega) h_D h_L h_H (extL_tr g_E2 h_E) h_Q h_e (by rw [g_w, show 8 - k = (8 - (k + 1)) + 1 by omega, numL, ← h_r.1, ← h_t, if_neg (by show ¬ _ = (0 : Int); omega)]; rfl) _ _ hP hD hS _ (lv_sub hl [0, 1, 2, 3, 4] rfl)
                · refine lv_iload hx hb dX1_run_71 (lv_at hl 0 rfl) ?_
                  refine z_roN (As := [.int (iI ((k : Int)))]) (rest := []) ⟨hx, hb, hml, hown, hts⟩ (c_X7_refusalBecauseOf l D cI cZ cC ((k : Int)) ) ⟨va_cnB (host := RX7) 1 hts gX1_run_X7_refusalBecauseOf_n50 rfl rfl rfl (hK.2 _ (List.mem_of_getElem? (i := 11) rfl)) (hts (.initialized RX7) (List.mem_of_getElem? (i := 48) rfl)) (by decide +kernel) ⟨Nat.le_of_ble_eq_true rfl, Nat.le_of_ble_eq_true rfl⟩, (hts (.static yX7_refusalBecauseOf) (List.mem_of_getElem? (i := 73) rfl)), trivial⟩ hP hK [] rfl rfl hl.1 rfl (Nat.le_of_ble_eq_true rfl) dX1_run_73 ⟨by omega, by omega⟩ ?_
                  refine z_mret ((V_15, B_16, n_17, Qa_18, Qk_19, ql_20)) hx hb hr hlocks dX1_run_76 hP hD hS ?_
                  have h_n : numL P Ac (Qsx.getD i 0) 8 0 (wrV Vx (Qsx.getD i 0) (-2) (-2), pe Vx (Qsx.getD i 0) :: lgx, Qsx) = (-10 - (k : Int), (V_15, lgz, Qsz)) := by
                    rw [g_w, show 8 - k = (8 - (k + 1)) + 1 by omega, numL, ← h_r.1, ← h_t, if_pos c_21]
                  refine ⟨by omega, lgz, Qsz, ?_, h_D, h_L, h_H, extL_tr g_E2 h_E⟩
                  rw [g_t, show 81 - i = (81 - (i + 1)) + 1 by omega, delL, if_pos (by omega), h_n, if_neg (by show ¬ (-10 - (k : Int)) = 0; omega)]
          exact loop54 9 0 _ _ _ _ _ _ _ _ (by omega) (by omega) (okD_erase g_D h_r.2.1 h_r.2.2 (by rw [h_r.1]; exact g_e i (Nat.le_refl _) (by omega))).2.1 (isL_push g_L g_D.1 h_r.2) (okH_push g_H (okD_erase g_D h_r.2.1 h_r.2.2 (by rw [h_r.1]; exact g_e i (Nat.le_refl _) (by omega))).2.1 (okD_erase g_D h_r.2.1 h_r.2.2 (by rw [h_r.1]; exact g_e i (Nat.le_refl _) (by omega))).2.2) (extL_push g_E) g_Q (by rw [h_r.1]; exact exQ_erase g_e g_Q.2.2.2.2 (by omega)) (by rw [h_r.1]; rfl) _ _ hP hD hS _ (lv_sub hl [0, 1, 2, 3, 4] rfl)
  exact loop17 81 0 _ [r] _ _ _ _ _ _ (by omega) (by omega) g_D g_L g_H (extL_rf _ _) (by have h := hq_5; rw [show addL [] r = [r] from rfl] at h; exact h) (exQ_1 g_x) rfl _ _ hP hD hS _ (lv_sub hl [0, 1, 2] rfl)

