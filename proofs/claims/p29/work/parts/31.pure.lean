/-! what the property needs of the class's own functions: sums, violations, references, ancestors, deletions -/
theorem sumN_cg {f g : Int → Int} : ∀ n : Nat, (∀ i : Nat, i < n → f (i : Int) = g (i : Int)) → sumN f n = sumN g n
  | 0, _ => rfl
  | n + 1, h => by
    rw [sumN, sumN, sumN_cg n (fun i hi => h i (by omega)), h n (by omega)]
theorem sumN_z (n : Nat) : sumN (fun _ => 0) n = 0 := by
  induction n with
  | zero => rfl
  | succ n ih => rw [sumN, ih]; rfl
theorem sumN_ad (f g : Int → Int) : ∀ n : Nat, sumN (fun i => f i + g i) n = sumN f n + sumN g n
  | 0 => rfl
  | n + 1 => by
    rw [sumN, sumN, sumN, sumN_ad f g n]
    omega
theorem sumN_sw (f : Int → Int → Int) (m : Nat) : ∀ n : Nat, sumN (fun i => sumN (fun j => f i j) m) n = sumN (fun j => sumN (fun i => f i j) n) m
  | 0 => by
    show 0 = sumN (fun j => 0) m
    rw [sumN_z]
  | n + 1 => by
    rw [sumN, sumN_sw f m n, ← sumN_ad]
    rfl
theorem sumN_mo {f g : Int → Int} : ∀ n : Nat, (∀ i : Nat, i < n → f (i : Int) ≤ g (i : Int)) → sumN f n ≤ sumN g n
  | 0, _ => Int.le_refl _
  | n + 1, h => by
    rw [sumN, sumN]
    have h1 := sumN_mo n (fun i hi => h i (by omega))
    have h2 := h n (by omega)
    omega
theorem sumN_sp (f : Int → Int) (a : Nat) : ∀ b : Nat, sumN f (a + b) = sumN f a + sumN (fun i => f ((a : Int) + i)) b
  | 0 => by rw [Nat.add_zero, sumN]; omega
  | b + 1 => by
    rw [← Nat.add_assoc, sumN, sumN_sp f a b, sumN, Int.natCast_add]
    omega
/-- one of 0 .. n-1 is x, or none -/
theorem sumN_in (x : Int) : ∀ n : Nat, sumN (fun r => bI (x = r)) n = bI (0 ≤ x ∧ x < (n : Int))
  | 0 => by rw [sumN, bI_f (by omega)]
  | n + 1 => by
    rw [sumN, sumN_in x n]
    by_cases h : x = (n : Int)
    · rw [bI_t h, bI_f (by omega), bI_t (by omega)]; rfl
    · rw [bI_f h]
      by_cases g : 0 ≤ x ∧ x < (n : Int)
      · rw [bI_t g, bI_t (by omega)]; rfl
      · rw [bI_f g, bI_f (by omega)]; rfl
noncomputable def refS (P V : Int → Int) (r : Int) : Int := sumN (fun k9 => sumN (fun i => bI (tgt P V k9 (k9 / 2 * 20 + i) = r)) 20) 8
/-- the references of a constraint's column -/
noncomputable def frK (P V : Int → Int) (k : Int) : Int := @ite Int (inP P k = -2) (Classical.propDecidable _) 0 (sumN (fun i => bI (0 ≤ vOf V (k / 2 * 20 + i) (k % 2))) 20)
theorem refS_to {P V : Int → Int} (gV : bndV V) (gP : ∀ j : Int, 0 ≤ j → j < 8 → P j = -2 ∨ (0 ≤ P j ∧ P j < 4)) : sumN (refS P V) 80 = sumN (frK P V) 8 := by
  show sumN (fun r => sumN (fun k9 => sumN (fun i => bI (tgt P V k9 (k9 / 2 * 20 + i) = r)) 20) 8) 80 = _
  rw [sumN_sw (fun r k9 => sumN (fun i => bI (tgt P V k9 (k9 / 2 * 20 + i) = r)) 20)]
  refine sumN_cg 8 (fun k _ => ?_)
  rw [sumN_sw (fun r i => bI (tgt P V (k : Int) ((k : Int) / 2 * 20 + i) = r))]
  unfold frK
  by_cases h : inP P (k : Int) = -2
  · rw [if_pos h, ← sumN_z 20]
    refine sumN_cg 20 (fun i _ => ?_)
    rw [sumN_in]
    refine bI_f (fun q => ?_)
    unfold tgt at q
    rw [if_pos (Or.inl h)] at q
    omega
  · rw [if_neg h]
    refine sumN_cg 20 (fun i _ => ?_)
    rw [sumN_in]
    have b1 := tgt_b gV gP (k : Int) ((k : Int) / 2 * 20 + (i : Int))
    have b2 := inP_b gP (k : Int)
    by_cases g : 0 ≤ vOf V ((k : Int) / 2 * 20 + (i : Int)) ((k : Int) % 2)
    · rw [bI_t g]
      refine bI_t ?_
      have e : tgt P V (k : Int) ((k : Int) / 2 * 20 + (i : Int)) = inP P (k : Int) * 20 + vOf V ((k : Int) / 2 * 20 + (i : Int)) ((k : Int) % 2) := by
        unfold tgt
        rw [if_neg (by omega)]
      omega
    · rw [bI_f g]
      refine bI_f (fun q => ?_)
      unfold tgt at q
      rw [if_pos (by omega)] at q
      omega
/-- how many rows there are -/
noncomputable def rcV (V : Int → Int) : Int := sumN (fun r => bI (hasR V r)) 80
noncomputable def rwS (V : Int → Int) (t : Int) : Int := sumN (fun k => bI (hasR V (t * 20 + k))) 20
theorem rcV_s (V : Int → Int) (t : Nat) : sumN (fun r => bI (hasR V r)) (t * 20 + 20) = sumN (fun r => bI (hasR V r)) (t * 20) + rwS V (t : Int) := by
  rw [sumN_sp]
  congr 1
theorem rcV_4 (V : Int → Int) : rwS V 0 + rwS V 1 + rwS V 2 + rwS V 3 = rcV V := by
  have h0 : sumN (fun r => bI (hasR V r)) (0 * 20 + 20) = sumN (fun r => bI (hasR V r)) (0 * 20) + rwS V 0 := rcV_s V 0
  have h1 : sumN (fun r => bI (hasR V r)) (1 * 20 + 20) = sumN (fun r => bI (hasR V r)) (1 * 20) + rwS V 1 := rcV_s V 1
  have h2 : sumN (fun r => bI (hasR V r)) (2 * 20 + 20) = sumN (fun r => bI (hasR V r)) (2 * 20) + rwS V 2 := rcV_s V 2
  have h3 : sumN (fun r => bI (hasR V r)) (3 * 20 + 20) = sumN (fun r => bI (hasR V r)) (3 * 20) + rwS V 3 := rcV_s V 3
  have e : sumN (fun r => bI (hasR V r)) (0 * 20) = 0 := rfl
  unfold rcV
  rw [show (80 : Nat) = 3 * 20 + 20 from rfl, h3, show (3 * 20 : Nat) = 2 * 20 + 20 from rfl, h2, show (2 * 20 : Nat) = 1 * 20 + 20 from rfl, h1, show (1 * 20 : Nat) = 0 * 20 + 20 from rfl, h0, e]
  omega
theorem cnt_le {q : Int → Prop} : ∀ (n : Nat) (l : List Int), l.Nodup → (∀ x ∈ l, (0 ≤ x ∧ x < (n : Int)) ∧ q x) → (l.length : Int) ≤ sumN (fun r => bI (q r)) n
  | 0, l, _, h => by
    cases l with
    | nil => rw [sumN]; exact Int.le_refl _
    | cons a t => have := (h a List.mem_cons_self).1; omega
  | n + 1, l, hn, h => by
    rw [sumN]
    by_cases hm : (n : Int) ∈ l
    · have h1 := cnt_le n (l.erase (n : Int)) (hn.erase _) (fun x hx => by
        have h2 := h x (List.mem_of_mem_erase hx)
        have h3 : x ≠ (n : Int) := fun q => by
          rw [q] at hx
          exact (List.Nodup.not_mem_erase hn) hx
        exact ⟨by omega, h2.2⟩)
      have h4 := List.length_erase_of_mem hm
      have h5 : 0 < l.length := List.length_pos_of_mem hm
      rw [bI_t (h _ hm).2]
      omega
    · have h1 := cnt_le n l hn (fun x hx => by
        have h2 := h x hx
        have h3 : x ≠ (n : Int) := fun q => by
          rw [q] at hx
          exact hm hx
        exact ⟨by omega, h2.2⟩)
      have := bI_01 (q (n : Int))
      omega
/-! ancestors -/
def ancL (V : Int → Int) (Qs : List Int) : Prop := Qs.Nodup ∧ ∀ x ∈ Qs, (0 ≤ x ∧ x < 80) ∧ hasR V x
theorem addT_A {V : Int → Int} {Qs : List Int} {t : Int} (h : ancL V Qs) : ancL V (addT V Qs t) := by
  by_cases g : hasR V t
  · rw [addT_t g]
    unfold addL
    split
    · exact h
    · rename_i h4
      refine ⟨?_, fun x hx => ?_⟩
      · rw [List.nodup_append]
        exact ⟨h.1, by simp, fun x hx y hy => by
          have := List.mem_singleton.mp hy
          intro q
          exact h4 (by rw [← this, ← q]; exact hx)⟩
      · rcases List.mem_append.mp hx with q | q
        · exact h.2 x q
        · rw [List.mem_singleton.mp q]
          exact ⟨⟨g.1, g.2.1⟩, g⟩
  · rw [addT_f g]
    exact h
theorem ftL_A {P V : Int → Int} {r : Int} {Qs : List Int} (h : ancL V Qs) : ∀ c : Nat, ancL V (ftL P V r Qs c)
  | 0 => h
  | c + 1 => by rw [ftL]; exact addT_A (ftL_A h c)
theorem bfs_A {P V : Int → Int} : ∀ (f pl : Nat) (Qs : List Int), ancL V Qs → ancL V (bfs P V f pl Qs)
  | 0, _, _, h => h
  | f + 1, pl, Qs, h => by
    rw [bfs]
    split
    · exact bfs_A f _ _ (ftL_A h 2)
    · exact h
theorem anc_b (P V : Int → Int) (r : Int) : ((bfs P V 81 0 (ftL P V r [] 2)).length : Int) ≤ rcV V := by
  have h := bfs_A (P := P) (V := V) 81 0 _ (ftL_A (P := P) (r := r) (Qs := []) ⟨List.nodup_nil, fun x hx => absurd hx List.not_mem_nil⟩ 2)
  exact cnt_le 80 _ h.1 h.2
/-! violations -/
theorem fR_0 {bad : Int → Prop} : ∀ {n : Nat} {k : Int}, 0 ≤ k → (fR bad n k = 0 ↔ ∀ j : Int, k ≤ j → j < k + n → ¬ bad j)
  | 0, k, _ => ⟨fun _ j h1 h2 => by omega, fun _ => rfl⟩
  | n + 1, k, hk => by
    by_cases h : bad k
    · rw [fR_t h]
      exact ⟨fun e => by omega, fun e => absurd h (e k (Int.le_refl _) (by omega))⟩
    · rw [fR_f h, fR_0 (by omega)]
      refine ⟨fun e j h1 h2 => ?_, fun e j h1 h2 => e j (by omega) (by omega)⟩
      by_cases q : j = k
      · rw [q]; exact h
      · exact e j (by omega) (by omega)
/-- no immediate constraint is violated -/
def okI (P Mo V : Int → Int) : Prop := ∀ j : Int, 0 ≤ j → j < 8 → ¬ badC 0 Mo P V j
theorem okI_fR {P Mo V : Int → Int} : fR (badC 0 Mo P V) 8 0 = 0 ↔ okI P Mo V := by
  rw [fR_0 (Int.le_refl 0)]
  exact ⟨fun h j a b => h j a (by omega), fun h j a b => h j a (by omega)⟩
theorem okI_1 {P Mo V : Int → Int} (h : fR (badC 1 Mo P V) 8 0 = 0) : okI P Mo V := by
  rw [fR_0 (Int.le_refl 0)] at h
  intro j a b q
  exact h j a (by omega) ⟨fun e => by omega, q.2⟩
theorem okI_vio {P Mo V : Int → Int} (h : okI P Mo V) {j : Int} (h1 : 0 ≤ j) (h2 : j < 8) (hm : Mo j = 0) : vio V j (inP P j) = 0 := by
  have b := vio_b V j (inP P j)
  have := h j h1 h2
  unfold badC at this
  omega
theorem vio_mo {V V1 : Int → Int} (h : ∀ x c : Int, vOf V1 x c = vOf V x c ∨ vOf V1 x c < 0) (g : ∀ y : Int, hasR V y → hasR V1 y) (k par : Int) : vio V1 k par ≤ vio V k par := by
  unfold vio
  split
  · exact Int.le_refl _
  · refine sumN_mo 20 (fun i _ => ?_)
    show bI (0 ≤ vOf V1 (k / 2 * 20 + (i : Int)) (k % 2) ∧ ¬ hasR V1 (par * 20 + vOf V1 (k / 2 * 20 + (i : Int)) (k % 2))) ≤ bI (0 ≤ vOf V (k / 2 * 20 + (i : Int)) (k % 2) ∧ ¬ hasR V (par * 20 + vOf V (k / 2 * 20 + (i : Int)) (k % 2)))
    rcases h (k / 2 * 20 + (i : Int)) (k % 2) with e | e
    · rw [e]
      by_cases q : 0 ≤ vOf V (k / 2 * 20 + (i : Int)) (k % 2) ∧ ¬ hasR V1 (par * 20 + vOf V (k / 2 * 20 + (i : Int)) (k % 2))
      · rw [bI_t q, bI_t ⟨q.1, fun z => q.2 (g _ z)⟩]
        exact Int.le_refl _
      · rw [bI_f q]
        have := bI_01 (0 ≤ vOf V (k / 2 * 20 + (i : Int)) (k % 2) ∧ ¬ hasR V (par * 20 + vOf V (k / 2 * 20 + (i : Int)) (k % 2)))
        omega
    · rw [bI_f (by omega)]
      have := bI_01 (0 ≤ vOf V (k / 2 * 20 + (i : Int)) (k % 2) ∧ ¬ hasR V (par * 20 + vOf V (k / 2 * 20 + (i : Int)) (k % 2)))
      omega
theorem okI_mo {P Mo V V1 : Int → Int} (h : okI P Mo V) (g : ∀ k par : Int, vio V1 k par ≤ vio V k par) : okI P Mo V1 := by
  intro j a b q
  have h1 := h j a b
  have h2 := g j (inP P j)
  unfold badC at h1 q
  omega
theorem enC_0 {P Mo V : Int → Int} (h : okI P Mo V) {ans : Int} (ha : -10 < ans) : enC P Mo V ans = 0 := by
  unfold enC
  rw [if_neg (by omega)]
  exact okI_fR.mpr h
theorem stm_1 {P Mo V V1 : Int → Int} {lg lg1 : Lg} {ans : Int} (h : okI P Mo V1) (ha : -10 < ans) : stmF P Mo V lg V1 lg1 ans = (ans, V1, lg1) := by
  unfold stmF
  rw [if_pos (enC_0 h ha)]
theorem hasR_wr {V : Int → Int} {r a b y : Int} (hr : 0 ≤ r ∧ r < 80) : hasR (wrV V r a b) y ↔ (y = r ∧ ¬ a = -2) ∨ (y ≠ r ∧ hasR V y) := by
  unfold hasR
  by_cases e : y = r
  · subst e
    rw [wrV_l]
    omega
  · rw [wrV_o (by omega) (by omega)]
    omega
theorem vOf_wr {V : Int → Int} {r a b x c : Int} (hr : 0 ≤ r ∧ r < 80) : vOf (wrV V r a b) x c = if x = r ∧ 0 ≤ c ∧ c < 2 then (if c = 0 then a else b) else vOf V x c := by
  unfold vOf
  by_cases h : 0 ≤ x ∧ x < 80 ∧ 0 ≤ c ∧ c < 2
  · rw [if_pos h, if_pos h]
    by_cases e : x = r
    · subst e
      rw [if_pos ⟨rfl, h.2.2⟩]
      rcases (show c = 0 ∨ c = 1 by omega) with rfl | rfl
      · rw [Int.add_zero, wrV_l, if_pos rfl]
      · rw [wrV_r, if_neg (by omega)]
    · rw [if_neg (fun q => e q.1), wrV_o (by omega) (by omega)]
  · rw [if_neg h, if_neg h, if_neg (fun q => h ⟨by omega, by omega, q.2⟩)]
theorem wrV_id {V : Int → Int} {r : Int} : wrV V r (V (r * 2)) (V (r * 2 + 1)) = V := by
  funext j
  by_cases h1 : j = r * 2
  · rw [h1, wrV_l]
  · by_cases h2 : j = r * 2 + 1
    · rw [h2, wrV_r]
    · rw [wrV_o h1 h2]
theorem wrV_wr {V : Int → Int} {r a b a' b' : Int} : wrV (wrV V r a b) r a' b' = wrV V r a' b' := by
  funext j
  by_cases h1 : j = r * 2
  · rw [h1, wrV_l, wrV_l]
  · by_cases h2 : j = r * 2 + 1
    · rw [h2, wrV_r, wrV_r]
    · rw [wrV_o h1 h2, wrV_o h1 h2, wrV_o h1 h2]
/-! a row without references of its own -/
theorem okV_no {V : Int → Int} (gO : okV V) {r : Int} (hr : 0 ≤ r ∧ r < 80) (h : ¬ hasR V r) : V (r * 2) = -2 ∧ V (r * 2 + 1) = -2 := by
  have h1 := gO r hr.1 hr.2
  unfold hasR at h
  omega
theorem vOf_no {V : Int → Int} (gO : okV V) {r c : Int} (h : ¬ hasR V r) : vOf V r c = -2 := by
  unfold vOf
  split
  · have h1 := okV_no gO ⟨by omega, by omega⟩ h
    rcases (show c = 0 ∨ c = 1 by omega) with rfl | rfl
    · rw [Int.add_zero]; exact h1.1
    · exact h1.2
  · rfl
theorem ins_vio {V : Int → Int} {r : Int} (hr : 0 ≤ r ∧ r < 80) (h : ¬ hasR V r) (k par : Int) : vio (wrV V r (-1) (-1)) k par ≤ vio V k par :=
  vio_mo (fun x c => by
    rw [vOf_wr hr]
    split
    · right
      split <;> omega
    · exact Or.inl rfl) (fun y hy => (hasR_wr hr).mpr (by
    by_cases e : y = r
    · rw [e] at hy; exact absurd hy h
    · exact Or.inr ⟨e, hy⟩)) k par
theorem ins_1 {P Mo V : Int → Int} {lg : Lg} {r : Int} (g : okI P Mo V) (hr : 0 ≤ r ∧ r < 80) (h : ¬ hasR V r) : insF P Mo V lg r (-1) (-1) = (1, wrV V r (-1) (-1), pe V r :: lg) ∧ okI P Mo (wrV V r (-1) (-1)) := by
  have h1 := okI_mo g (ins_vio hr h)
  rw [insF_f h, stm_1 h1 (by omega)]
  exact ⟨rfl, h1⟩
theorem ins_tgt {P V : Int → Int} {r : Int} (gO : okV V) (hr : 0 ≤ r ∧ r < 80) (h : ¬ hasR V r) (k x : Int) : tgt P (wrV V r (-1) (-1)) k x = tgt P V k x := by
  by_cases e : x = r
  · subst e
    unfold tgt
    rw [vOf_wr hr, vOf_no gO h]
    rw [if_pos (Or.inr (by omega : (-2 : Int) < 0)), if_pos (Or.inr (by split <;> (first | (split <;> omega) | omega)))]
  · have h1 : vOf (wrV V r (-1) (-1)) x (k % 2) = vOf V x (k % 2) := by rw [vOf_wr hr, if_neg (fun q => e q.1)]
    unfold tgt
    rw [h1]
theorem ins_ref {P V : Int → Int} {r : Int} (gO : okV V) (hr : 0 ≤ r ∧ r < 80) (h : ¬ hasR V r) (x : Int) : refS P (wrV V r (-1) (-1)) x = refS P V x := by
  unfold refS
  congr 1
  funext k9
  congr 1
  funext i
  rw [ins_tgt gO hr h]
theorem ins_anc {P V : Int → Int} {r : Int} (hr : 0 ≤ r ∧ r < 80) : bfs P (wrV V r (-1) (-1)) 81 0 (ftL P (wrV V r (-1) (-1)) r [] 2) = [] := by
  have h0 : ¬ hasR (wrV V r (-1) (-1)) (-2) := fun q => by have := q.1; omega
  have h1 : ∀ c : Nat, c < 2 → tgt P (wrV V r (-1) (-1)) (r / 20 * 2 + (c : Int)) r = -2 := fun c hc => by
    unfold tgt
    rw [vOf_wr hr]
    rw [if_pos (Or.inr (by split <;> (first | (split <;> omega) | omega)))]
  have h2 : ftL P (wrV V r (-1) (-1)) r [] 2 = [] := by
    rw [ftL, ftL, ftL, h1 0 (by omega), h1 1 (by omega), addT_f h0, addT_f h0]
  rw [h2]
  exact bfs_f (Nat.lt_irrefl 0)
/-! what a deletion does -/
def okS (N : Int) (st : DS) (pl : Nat) : Prop := okH N st.2.1 st.1 ∧ st.2.2.Nodup ∧ (∀ x ∈ st.2.2, 0 ≤ x ∧ x < 80) ∧ exQ st.1 st.2.2 pl
theorem okH_D {N : Int} {lg : Lg} {V : Int → Int} (hN : N ≤ 16384) (h : okH N lg V) : okD 16384 V (lg.length : Int) := by
  have h1 := okH_top h
  have h2 := pot_b V
  exact ⟨h1.1, h1.2.1, by omega⟩
theorem addL_S {Qs : List Int} {r : Int} (h : Qs.Nodup ∧ ∀ x ∈ Qs, 0 ≤ x ∧ x < 80) (hr : 0 ≤ r ∧ r < 80) : (addL Qs r).Nodup ∧ ∀ x ∈ addL Qs r, 0 ≤ x ∧ x < 80 := by
  unfold addL
  split
  · exact h
  · rename_i h4
    refine ⟨?_, fun x hx => ?_⟩
    · rw [List.nodup_append]
      exact ⟨h.1, by simp, fun x hx y hy => by
        have := List.mem_singleton.mp hy
        intro q
        exact h4 (by rw [← this, ← q]; exact hx)⟩
    · rcases List.mem_append.mp hx with q | q
      · exact h.2 x q
      · have := List.mem_singleton.mp q
        omega
theorem addL_1 {Qs : List Int} {r : Int} (h : 1 ≤ Qs.length) : 1 ≤ (addL Qs r).length ∧ Qs.length ≤ (addL Qs r).length ∧ (addL Qs r).getD 0 0 = Qs.getD 0 0 := by
  unfold addL
  split
  · exact ⟨h, Nat.le_refl _, rfl⟩
  · refine ⟨by simp, by simp, ?_⟩
    rw [List.getD_eq_getElem?_getD, List.getD_eq_getElem?_getD, List.getElem?_append_left h]
/-- the state of a deletion of the row r0, over the state V0 with the log lg0, behind pl removals -/
def dI (N : Int) (V0 : Int → Int) (lg0 : Lg) (r0 : Int) (pl : Nat) (st : DS) : Prop :=
  okS N st pl ∧ extL V0 lg0 st.1 st.2.1 ∧ rcV st.1 + (pl : Int) = rcV V0 ∧ lg0.length + pl ≤ st.2.1.length ∧ (1 ≤ st.2.2.length ∧ pl ≤ st.2.2.length ∧ st.2.2.getD 0 0 = r0) ∧ (0 < pl → ¬ hasR st.1 r0)
theorem rcV_wr {V : Int → Int} {r a b : Int} (h1 : 0 ≤ r) (h2 : r < 80) : rcV (wrV V r a b) = rcV V - bI (hasR V r) + bI (¬ a = -2) := by
  unfold rcV
  rw [sumN_up (r := r) (g := fun r => bI (hasR V r)) 80 (fun i hi => bI_c (by rw [hasR_wr ⟨h1, h2⟩]; exact ⟨fun q => q.elim (fun z => absurd z.1 hi) (fun z => z.2), fun q => Or.inr ⟨hi, q⟩⟩)) h1 (by omega)]
  congr 1
  exact bI_c (by rw [hasR_wr ⟨h1, h2⟩]; exact ⟨fun q => q.elim (fun z => z.2) (fun z => absurd rfl z.1), fun q => Or.inl ⟨rfl, q⟩⟩)
theorem trL_D {P Ac : Int → Int} {num rem N : Int} {V0 : Int → Int} {lg0 : Lg} {r0 : Int} {pl : Nat} (hN : N ≤ 16384) (hn : 0 ≤ num ∧ num < 8) (hr : 0 ≤ rem) (hp : 0 < pl) : ∀ (f : Nat) (key : Int) (st : DS), 0 ≤ key → key + f ≤ 20 → dI N V0 lg0 r0 pl st → dI N V0 lg0 r0 pl (trL P Ac num rem f key st).2 ∧ ((trL P Ac num rem f key st).1 = 0 ∨ (trL P Ac num rem f key st).1 = 1)
  | 0, _, _, _, _, h => ⟨h, Or.inr rfl⟩
  | f + 1, key, (V, lg, Qs), h1, h2, h => by
    obtain ⟨⟨a1, a2, a3, a4⟩, b1, b2, b3, b4, b5⟩ := h
    rw [trL]
    split
    · rename_i e
      have hv := tgt_v e hr
      have gD := okH_D hN a1
      split
      · exact ⟨⟨⟨a1, a2, a3, a4⟩, b1, b2, b3, b4, b5⟩, Or.inl rfl⟩
      split
      · have h5 := addL_S ⟨a2, a3⟩ (r := num / 2 * 20 + key) (by omega)
        have h6 := addL_1 (r := num / 2 * 20 + key) b4.1
        exact trL_D hN hn hr hp f _ _ (by omega) (by omega) ⟨⟨a1, h5.1, h5.2, exQ_add a4 (okD_ex gD hv)⟩, b1, b2, b3, ⟨h6.1, Nat.le_trans b4.2.1 h6.2.1, h6.2.2.trans b4.2.2⟩, b5⟩
      split
      · have hx := okD_ex gD hv
        have hrow : 0 ≤ num / 2 * 20 + key ∧ num / 2 * 20 + key < 80 := by omega
        have hrr : hasR V (num / 2 * 20 + key) := ⟨hrow.1, hrow.2, hx⟩
        have hne : r0 ≠ num / 2 * 20 + key := fun q => b5 hp (by rw [q]; exact hrr)
        have heq := wcV_eq (V := V) (c := num % 2) (v := -1) hrow
        have hnn : ¬ (if num % 2 = 0 then (-1 : Int) else V ((num / 2 * 20 + key) * 2)) = -2 := by
          split
          · omega
          · exact hx
        refine trL_D hN hn hr hp f _ _ (by omega) (by omega) ⟨⟨okH_push a1 (okD_null gD hv).2.1 (okD_null gD hv).2.2, a2, a3, exQ_null a4 ⟨by omega, by omega⟩ hx⟩, ?_, ?_, ?_, b4, ?_⟩
        · show extL V0 lg0 (wcV V (num / 2 * 20 + key) (num % 2) (-1)) (pe V (num / 2 * 20 + key) :: lg)
          rw [heq]
          exact extL_push b1
        · show rcV (wcV V (num / 2 * 20 + key) (num % 2) (-1)) + (pl : Int) = rcV V0
          rw [heq, rcV_wr hrow.1 hrow.2, bI_t hrr, bI_t hnn]
          have b2 : rcV V + (pl : Int) = rcV V0 := b2
          omega
        · show lg0.length + pl ≤ (pe V (num / 2 * 20 + key) :: lg).length
          have b3 : lg0.length + pl ≤ lg.length := b3
          simp only [List.length_cons]
          omega
        · intro _
          show ¬ hasR (wcV V (num / 2 * 20 + key) (num % 2) (-1)) r0
          rw [heq, hasR_wr hrow]
          exact fun q => q.elim (fun z => hne z.1) (fun z => b5 hp z.2)
      · exact trL_D hN hn hr hp f _ _ (by omega) (by omega) ⟨⟨a1, a2, a3, a4⟩, b1, b2, b3, b4, b5⟩
    · exact trL_D hN hn hr hp f _ _ (by omega) (by omega) ⟨⟨a1, a2, a3, a4⟩, b1, b2, b3, b4, b5⟩
theorem numL_D {P Ac : Int → Int} {rem N : Int} {V0 : Int → Int} {lg0 : Lg} {r0 : Int} {pl : Nat} (hN : N ≤ 16384) (hr : 0 ≤ rem) (hp : 0 < pl) : ∀ (f : Nat) (k : Int) (st : DS), 0 ≤ k → k + f ≤ 8 → dI N V0 lg0 r0 pl st → dI N V0 lg0 r0 pl (numL P Ac rem f k st).2 ∧ ((numL P Ac rem f k st).1 = 0 ∨ ((numL P Ac rem f k st).1 ≤ -10 ∧ -17 ≤ (numL P Ac rem f k st).1))
  | 0, _, _, _, _, h => ⟨h, Or.inl rfl⟩
  | f + 1, k, st, h1, h2, h => by
    have h3 := (trL_D (P := P) (Ac := Ac) (num := k) hN ⟨h1, by omega⟩ hr hp 20 0 st (by omega) (by omega) h).1
    rw [numL]
    split
    · exact ⟨h3, Or.inr ⟨by show -10 - k ≤ -10; omega, by show -17 ≤ -10 - k; omega⟩⟩
    · exact numL_D hN hr hp f (k + 1) _ (by omega) (by omega) h3
theorem delL_D {P Ac : Int → Int} {N : Int} {V0 : Int → Int} {lg0 : Lg} {r0 : Int} (hN : N ≤ 16384) : ∀ (f : Nat) (pl : Nat) (st : DS), f + pl = 81 → dI N V0 lg0 r0 pl st →
    ((delL P Ac f pl st).1 ≤ -10 ∧ -17 ≤ (delL P Ac f pl st).1) ∨ (1 ≤ (delL P Ac f pl st).1 ∧ (delL P Ac f pl st).1 ≤ 80 ∧ okH N (delL P Ac f pl st).2.2.1 (delL P Ac f pl st).2.1 ∧ extL V0 lg0 (delL P Ac f pl st).2.1 (delL P Ac f pl st).2.2.1 ∧ rcV (delL P Ac f pl st).2.1 + (delL P Ac f pl st).1 = rcV V0 ∧ (lg0.length : Int) + (delL P Ac f pl st).1 ≤ ((delL P Ac f pl st).2.2.1.length : Int) ∧ ¬ hasR (delL P Ac f pl st).2.1 r0)
  | 0, pl, st, hf, h => by
    have h1 := nodup_len 80 st.2.2 h.1.2.1 h.1.2.2.1
    have h2 := h.2.2.2.2.1.2.1
    omega
  | f + 1, pl, (V, lg, Qs), hf, h => by
    have hlen := nodup_len 80 Qs h.1.2.1 h.1.2.2.1
    obtain ⟨⟨a1, a2, a3, a4⟩, b1, b2, b3, ⟨c1, c2, c3⟩, b5⟩ := h
    rw [delL]
    split
    · rename_i hp
      have e2 : Qs.getD pl 0 = Qs[pl] := by simp [List.getD, hp]
      have hr := a3 (Qs.getD pl 0) (by rw [e2]; exact List.getElem_mem hp)
      have gD := okH_D hN a1
      have hex := a4 pl (Nat.le_refl _) hp
      have hrr : hasR V (Qs.getD pl 0) := ⟨hr.1, hr.2, hex⟩
      have hE := okD_erase gD hr.1 hr.2 hex
      have h3 := numL_D (P := P) (Ac := Ac) (pl := pl + 1) (N := N) (V0 := V0) (lg0 := lg0) (r0 := r0) hN hr.1 (Nat.succ_pos _) 8 0 (wrV V (Qs.getD pl 0) (-2) (-2), pe V (Qs.getD pl 0) :: lg, Qs) (by omega) (by omega)
        ⟨⟨okH_push a1 hE.2.1 hE.2.2, a2, a3, exQ_erase a4 a2 hp⟩, extL_push b1, by
          show rcV (wrV V (Qs.getD pl 0) (-2) (-2)) + ((pl + 1 : Nat) : Int) = rcV V0
          rw [rcV_wr hr.1 hr.2, bI_t hrr, bI_f (fun q => q rfl)]
          have b2 : rcV V + (pl : Int) = rcV V0 := b2
          omega, by
          show lg0.length + (pl + 1) ≤ (pe V (Qs.getD pl 0) :: lg).length
          have b3 : lg0.length + pl ≤ lg.length := b3
          simp only [List.length_cons]
          omega, ⟨c1, hp, c3⟩, fun _ => by
          show ¬ hasR (wrV V (Qs.getD pl 0) (-2) (-2)) r0
          rw [hasR_wr hr]
          rintro (q | q)
          · exact q.2 rfl
          · by_cases z : pl = 0
            · subst z
              exact q.1 c3.symm
            · exact b5 (by omega) q.2⟩
      split
      · exact delL_D hN f (pl + 1) _ (by omega) h3.1
      · rename_i hne
        exact Or.inl (h3.2.resolve_left hne)
    · rename_i hp
      have c2 : pl ≤ Qs.length := c2
      have c1 : 1 ≤ Qs.length := c1
      have e : pl = Qs.length := by omega
      right
      refine ⟨by show (1 : Int) ≤ (Qs.length : Int); omega, by show (Qs.length : Int) ≤ 80; omega, a1, b1, ?_, ?_, b5 (by omega)⟩
      · show rcV V + (Qs.length : Int) = rcV V0
        rw [← e]; exact b2
      · show (lg0.length : Int) + (Qs.length : Int) ≤ (lg.length : Int)
        have b3 : lg0.length + pl ≤ lg.length := b3
        omega
/-- a deletion answers a refusal and changes nothing, or it removes as many rows as it answers -/
theorem del_S {P Ac Mo V V1 : Int → Int} {lg lg1 : Lg} {r w N : Int} (hH : okH N lg V) (hN : N ≤ 16384) (hr : hasR V r) (h : (w, V1, lg1) = delF P Ac Mo V lg r) :
    ((w ≤ -10 ∧ -17 ≤ w) ∧ V1 = V ∧ lg1 = lg) ∨ ((1 ≤ w ∧ w ≤ 80) ∧ extL V lg V1 lg1 ∧ rcV V1 + w = rcV V ∧ (lg.length : Int) + w ≤ (lg1.length : Int) ∧ ¬ hasR V1 r ∧ okI P Mo V1) := by
  have h0 := delL_D (P := P) (Ac := Ac) (V0 := V) (lg0 := lg) (r0 := r) hN 81 0 (V, lg, [r]) rfl ⟨⟨hH, by simp, fun x hx => by have := List.mem_singleton.mp hx; rw [this]; exact ⟨hr.1, hr.2.1⟩, exQ_1 hr.2.2⟩, extL_rf _ _, by show rcV V + ((0 : Nat) : Int) = rcV V; omega, Nat.le_refl _, ⟨Nat.le_refl _, Nat.zero_le _, rfl⟩, fun q => absurd q (Nat.lt_irrefl 0)⟩
  rw [delF_t hr] at h
  unfold stmF at h
  by_cases hc : enC P Mo (delL P Ac 81 0 (V, lg, [r])).2.1 (delL P Ac 81 0 (V, lg, [r])).1 = 0
  · rw [if_pos hc] at h
    cases h
    rcases h0 with h0 | h0
    · exfalso
      unfold enC at hc
      rw [if_pos h0.1] at hc
      omega
    · right
      refine ⟨⟨h0.1, h0.2.1⟩, h0.2.2.2.1, h0.2.2.2.2.1, h0.2.2.2.2.2.1, h0.2.2.2.2.2.2, ?_⟩
      unfold enC at hc
      rw [if_neg (by omega)] at hc
      exact okI_fR.mp hc
  · rw [if_neg hc] at h
    cases h
    left
    refine ⟨?_, rfl, rfl⟩
    have b := fR_b (badC 0 Mo P (delL P Ac 81 0 (V, lg, [r])).2.1) 8 0
    unfold enC at hc ⊢
    split
    · rename_i q
      rw [if_pos q] at hc
      omega
    · rename_i q
      rw [if_neg q] at hc
      omega
/-! a row that nothing refers to, inserted and deleted again -/
theorem trL_no {P Ac : Int → Int} {num rem : Int} : ∀ (f : Nat) (key : Int) (V : Int → Int) (lg : Lg) (Qs : List Int), (∀ i : Int, key ≤ i → i < key + f → ¬ tgt P V num (num / 2 * 20 + i) = rem) → trL P Ac num rem f key (V, lg, Qs) = (1, (V, lg, Qs))
  | 0, _, _, _, _, _ => rfl
  | f + 1, key, V, lg, Qs, h => by
    rw [trL, if_neg (h key (by omega) (by omega))]
    exact trL_no f (key + 1) V lg Qs (fun i h1 h2 => h i (by omega) (by omega))
theorem numL_no {P Ac : Int → Int} {rem : Int} {V : Int → Int} {lg : Lg} {Qs : List Int} : ∀ (f : Nat) (k : Int), (∀ j : Int, k ≤ j → j < k + f → ∀ i : Int, 0 ≤ i → i < 20 → ¬ tgt P V j (j / 2 * 20 + i) = rem) → numL P Ac rem f k (V, lg, Qs) = (0, (V, lg, Qs))
  | 0, _, _ => rfl
  | f + 1, k, h => by
    have h1 := trL_no (P := P) (Ac := Ac) (num := k) (rem := rem) 20 0 V lg Qs (fun i a b => h k (by omega) (by omega) i a (by omega))
    rw [numL, h1, if_neg (by show ¬ (1 : Int) = 0; omega)]
    exact numL_no f (k + 1) (fun j a b => h j (by omega) (by omega))
theorem sumN_0 {f : Int → Int} (h : ∀ i, 0 ≤ f i) : ∀ n : Nat, sumN f n = 0 → ∀ i : Nat, i < n → f (i : Int) = 0
  | 0, _, i, hi => absurd hi (Nat.not_lt_zero i)
  | n + 1, e, i, hi => by
    rw [sumN] at e
    have h1 := sumN_nn h n
    have h2 := h (n : Int)
    by_cases q : i = n
    · rw [q]; omega
    · exact sumN_0 h n (by omega) i (by omega)
theorem refS_nn (P V : Int → Int) (r : Int) : 0 ≤ refS P V r := sumN_nn (fun k => sumN_nn (fun i => by have := bI_01 (tgt P V k (k / 2 * 20 + i) = r); omega) 20) 8
theorem refS_no {P V : Int → Int} {r : Int} (h : refS P V r = 0) : ∀ j : Int, 0 ≤ j → j < 8 → ∀ i : Int, 0 ≤ i → i < 20 → ¬ tgt P V j (j / 2 * 20 + i) = r := by
  intro j h1 h2 i h3 h4
  have e1 := sumN_0 (f := fun k => sumN (fun i => bI (tgt P V k (k / 2 * 20 + i) = r)) 20) (fun k => sumN_nn (fun i => by have := bI_01 (tgt P V k (k / 2 * 20 + i) = r); omega) 20) 8 h j.toNat (by omega)
  rw [show ((j.toNat : Nat) : Int) = j by omega] at e1
  have e2 := sumN_0 (f := fun i => bI (tgt P V j (j / 2 * 20 + i) = r)) (fun i => by have := bI_01 (tgt P V j (j / 2 * 20 + i) = r); omega) 20 e1 i.toNat (by omega)
  rw [show ((i.toNat : Nat) : Int) = i by omega] at e2
  exact bI_0.mp e2
theorem insdel_1 {P Ac Mo V : Int → Int} {lg lg1 : Lg} {r : Int} (gO : okV V) (g : okI P Mo V) (hr : 0 ≤ r ∧ r < 80) (h : ¬ hasR V r) (h0 : refS P V r = 0) : delF P Ac Mo (wrV V r (-1) (-1)) lg1 r = (1, V, pe (wrV V r (-1) (-1)) r :: lg1) := by
  have hh : hasR (wrV V r (-1) (-1)) r := (hasR_wr hr).mpr (Or.inl ⟨rfl, by omega⟩)
  have e1 := okV_no gO hr h
  have e2 : wrV (wrV V r (-1) (-1)) r (-2) (-2) = V := by
    rw [wrV_wr]
    have := wrV_id (V := V) (r := r)
    rw [e1.1, e1.2] at this
    exact this
  have e3 : delL P Ac 81 0 (wrV V r (-1) (-1), lg1, [r]) = (1, (V, pe (wrV V r (-1) (-1)) r :: lg1, [r])) := by
    have e0 : ([r] : List Int).getD 0 0 = r := rfl
    rw [delL, if_pos (by simp), e0, e2, numL_no 8 0 (fun j a b i c d => refS_no h0 j a (by omega) i c d), if_pos rfl]
    exact delL_out (by simp)
  rw [delF_t hh, e3]
  exact stm_1 g (by omega)
/-! updates -/
theorem upd_1 {P Mo V : Int → Int} {lg : Lg} {r c : Int} (g : okI P Mo V) (hr : hasR V r) (hc : c = 0 ∨ c = 1) : updF P Mo V lg r c (vOf V r c) = (1, V, pe V r :: lg) := by
  have e : wcV V r c (vOf V r c) = V := by
    unfold wcV
    have e0 : vOf V r 0 = V (r * 2) := by unfold vOf; rw [if_pos ⟨hr.1, hr.2.1, by omega, by omega⟩, Int.add_zero]
    have e1 : vOf V r 1 = V (r * 2 + 1) := by unfold vOf; rw [if_pos ⟨hr.1, hr.2.1, by omega, by omega⟩]
    rcases hc with rfl | rfl
    · rw [if_pos rfl, if_neg (by omega), e0, e1]
      exact wrV_id
    · rw [if_pos rfl, if_neg (by omega), e0, e1]
      exact wrV_id
  rw [updF_t hr, e]
  exact stm_1 g (by omega)
theorem wc_null {V : Int → Int} {r c : Int} (hr : 0 ≤ r ∧ r < 80) (hc : c = 0 ∨ c = 1) (x d : Int) : vOf (wcV V r c (-1)) x d = if x = r ∧ d = c then -1 else vOf V x d := by
  unfold wcV
  rw [vOf_wr hr]
  by_cases e : x = r
  · subst e
    by_cases hd : 0 ≤ d ∧ d < 2
    · rw [if_pos ⟨rfl, hd⟩]
      rcases hc with rfl | rfl
      · by_cases q : d = 0
        · subst q; simp
        · have : d = 1 := by omega
          subst this; simp
      · by_cases q : d = 0
        · subst q; simp
        · have : d = 1 := by omega
          subst this; simp
    · rw [if_neg (fun q => hd q.2), if_neg (fun q => hd (by omega))]
  · rw [if_neg (fun q => e q.1), if_neg (fun q => e q.1)]
theorem wc_has {V : Int → Int} {r c : Int} (hr : hasR V r) (hc : c = 0 ∨ c = 1) (y : Int) : hasR V y → hasR (wcV V r c (-1)) y := by
  intro hy
  unfold wcV
  rw [hasR_wr ⟨hr.1, hr.2.1⟩]
  by_cases e : y = r
  · refine Or.inl ⟨e, ?_⟩
    rcases hc with rfl | rfl
    · rw [if_pos rfl]; omega
    · rw [if_neg (by omega)]
      unfold vOf
      rw [if_pos ⟨hr.1, hr.2.1, by omega, by omega⟩, Int.add_zero]
      exact hr.2.2
  · exact Or.inr ⟨e, hy⟩
theorem upd_n {P Mo V : Int → Int} {lg : Lg} {r c : Int} (g : okI P Mo V) (hr : hasR V r) (hc : c = 0 ∨ c = 1) : updF P Mo V lg r c (-1) = (1, wcV V r c (-1), pe V r :: lg) ∧ okI P Mo (wcV V r c (-1)) := by
  have h1 : okI P Mo (wcV V r c (-1)) := okI_mo g (fun k par => vio_mo (fun x d => by
    rw [wc_null ⟨hr.1, hr.2.1⟩ hc]
    split
    · exact Or.inr (by omega)
    · exact Or.inl rfl) (wc_has hr hc) k par)
  rw [updF_t hr]
  exact ⟨stm_1 h1 (by omega), h1⟩
theorem upd_ok {P Mo V V1 : Int → Int} {lg lg1 : Lg} {r c v w : Int} (h : (w, V1, lg1) = updF P Mo V lg r c v) (hw : 1 ≤ w) : okI P Mo V1 := by
  by_cases hr : hasR V r
  · rw [updF_t hr] at h
    unfold stmF at h
    split at h
    · rename_i q
      cases h
      unfold enC at q
      rw [if_neg (by omega)] at q
      exact okI_fR.mp q
    · rename_i q
      cases h
      have b := enC_b P Mo (wcV V r c v) 1 (by omega)
      omega
  · rw [updF_f hr] at h
    cases h
    omega
