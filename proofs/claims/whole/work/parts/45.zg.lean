/-- a row refers to an existing row -/
def stM (P V : Int → Int) (r j : Int) : Prop := hasR V j ∧ ∃ k : Int, 0 ≤ k ∧ k < 8 ∧ tgm P V k r = j
def rch (P V : Int → Int) (r j : Int) : Prop := ∀ S : Int → Prop, (∀ t, stM P V r t → S t) → (∀ x t, S x → stM P V x t → S t) → S j
def is01 (u : Int → Int) : Prop := ∀ j : Int, 0 ≤ j → j < 80 → u j = 0 ∨ u j = 1
/-- what a row's references add to the marks -/
def rsP (P V : Int → Int) (r : Int) (Rm u : Int → Int) (v : Int) (m : Nat) : Prop := is01 u ∧ (∀ j : Int, 0 ≤ j → j < 80 → (Rm j = 1 → u j = 1) ∧ (u j = 1 → Rm j = 1 ∨ stM P V r j)) ∧ (∀ k : Int, 0 ≤ k → k < m → hasR V (tgm P V k r) → u (tgm P V k r) = 1) ∧ (v = 0 → u = Rm) ∧ (v = 1 → sumN Rm 80 < sumN u 80)
theorem rsP_0 {P V Rm : Int → Int} {r : Int} (h : is01 Rm) : rsP P V r Rm Rm 0 0 := ⟨h, fun _ _ _ => ⟨fun q => q, fun q => Or.inl q⟩, fun k h1 h2 => by omega, fun _ => rfl, fun q => absurd q (by decide)⟩
theorem rsP_n {P V Rm u : Int → Int} {r v : Int} {m : Nat} (h : rsP P V r Rm u v m) (hc : hasR V (tgm P V m r) → u (tgm P V m r) = 1) : rsP P V r Rm u v (m + 1) := by
  refine ⟨h.1, h.2.1, fun k h1 h2 h3 => ?_, h.2.2.2⟩
  by_cases e : k = (m : Int)
  · rw [e] at h3 ⊢
    exact hc h3
  · exact h.2.2.1 k h1 (by omega) h3
theorem rsP_y {P V Rm u : Int → Int} {r v : Int} {m : Nat} (h : rsP P V r Rm u v m) (hm : m < 8) (hv : v = 0 ∨ v = 1) (hc : hasR V (tgm P V m r)) (hu : u (tgm P V m r) = 0) : rsP P V r Rm (uI u (tgm P V m r) 1) 1 (m + 1) := by
  obtain ⟨a1, a2, a3, a4, a5⟩ := h
  have hb := hc.1
  have hb2 := hc.2.1
  have hs : sumN (uI u (tgm P V m r) 1) 80 = sumN u 80 + 1 := by
    rw [sumN_up (f := uI u (tgm P V m r) 1) (g := u) (r := tgm P V m r) 80 (fun i hi => uI_n hi) hb hb2, uI_s, hu]
    omega
  refine ⟨fun j h1 h2 => ?_, fun j h1 h2 => ?_, fun k h1 h2 h3 => ?_, fun q => absurd q (by decide), fun _ => ?_⟩
  · by_cases e : j = tgm P V m r
    · rw [e, uI_s]; exact Or.inr rfl
    · rw [uI_n e]; exact a1 j h1 h2
  · by_cases e : j = tgm P V m r
    · rw [e, uI_s]
      exact ⟨fun _ => rfl, fun _ => Or.inr ⟨hc, m, by omega, by omega, rfl⟩⟩
    · rw [uI_n e]; exact a2 j h1 h2
  · by_cases e : tgm P V k r = tgm P V m r
    · rw [e, uI_s]
    · rw [uI_n e]
      by_cases e2 : k = (m : Int)
      · exact absurd (by rw [e2]) e
      · exact a3 k h1 (by omega) h3
  · rw [hs]
    rcases hv with q | q
    · rw [a4 q]; omega
    · have := a5 q; omega
theorem rsP_st {P V Rm u : Int → Int} {r v : Int} (h : rsP P V r Rm u v 8) : ∀ j : Int, stM P V r j → u j = 1 := fun j hj => by
  obtain ⟨h1, k, h2, h3, h4⟩ := hj
  rw [← h4]
  exact h.2.2.1 k h2 (by omega) (by rw [h4]; exact h1)
/-- marks of reached rows alone, with those that the first row refers to -/
def anB (P V : Int → Int) (r : Int) (u : Int → Int) : Prop := is01 u ∧ (∀ j : Int, 0 ≤ j → j < 80 → u j = 1 → rch P V r j) ∧ (∀ j : Int, stM P V r j → u j = 1)
def anC (P V : Int → Int) (u : Int → Int) : Prop := ∀ x : Int, 0 ≤ x → x < 80 → u x = 1 → ∀ j : Int, stM P V x j → u j = 1
def anL (P V : Int → Int) (r : Int) (u0 u : Int → Int) (mv : Int) (i : Nat) : Prop := anB P V r u ∧ (mv = 0 → u = u0 ∧ ∀ x : Int, 0 ≤ x → x < (i : Int) → u x = 1 → ∀ j : Int, stM P V x j → u j = 1) ∧ (mv = 1 → sumN u0 80 < sumN u 80)
theorem anB_0 {P V Rm u : Int → Int} {r v : Int} (hz : ∀ j : Int, 0 ≤ j → j < 80 → Rm j = 0) (h : rsP P V r Rm u v 8) : anB P V r u ∧ (v = 0 → anC P V u) := by
  refine ⟨⟨h.1, fun j h1 h2 h3 => ?_, rsP_st h⟩, fun q x h1 h2 h3 => ?_⟩
  · rcases (h.2.1 j h1 h2).2 h3 with q | q
    · have := hz j h1 h2; omega
    · exact fun S s1 _ => s1 j q
  · rw [h.2.2.2.1 q] at h3
    have := hz x h1 h2; omega
theorem anL_0 {P V u : Int → Int} {r : Int} (h : anB P V r u) : anL P V r u u 0 0 := ⟨h, fun _ => ⟨rfl, fun x h1 h2 => by omega⟩, fun q => absurd q (by decide)⟩
theorem anL_n {P V u0 u : Int → Int} {r mv : Int} {i : Nat} (h : anL P V r u0 u mv i) (hu : u (i : Int) = 0) : anL P V r u0 u mv (i + 1) := by
  refine ⟨h.1, fun q => ⟨(h.2.1 q).1, fun x h1 h2 h3 => ?_⟩, h.2.2⟩
  by_cases e : x = (i : Int)
  · rw [e] at h3; omega
  · exact (h.2.1 q).2 x h1 (by omega) h3
theorem anL_r {P V u0 u u1 : Int → Int} {r mv v mw : Int} {i : Nat} (h : anL P V r u0 u mv i) (hi : i < 80) (hu : u (i : Int) = 1) (hr : rsP P V (i : Int) u u1 v 8) (hv : v = 0 ∨ v = 1) (hm : mv = 0 ∨ mv = 1) (h1 : v = 1 → mw = 1) (h0 : v = 0 → mw = mv) : anL P V r u0 u1 mw (i + 1) := by
  obtain ⟨⟨b1, b2, b3⟩, c1, c2⟩ := h
  refine ⟨⟨hr.1, fun j j1 j2 j3 => ?_, fun j hj => ?_⟩, fun q => ?_, fun q => ?_⟩
  · rcases (hr.2.1 j j1 j2).2 j3 with q | q
    · exact b2 j j1 j2 q
    · exact fun S s1 s2 => s2 _ _ (b2 (i : Int) (by omega) (by omega) hu S s1 s2) q
  · exact (hr.2.1 j hj.1.1 hj.1.2.1).1 (b3 j hj)
  · have hv0 : v = 0 := by rcases hv with z | z; exact z; have := h1 z; omega
    have hm0 : mv = 0 := by have := h0 hv0; omega
    have e1 := hr.2.2.2.1 hv0
    obtain ⟨e2, e3⟩ := c1 hm0
    refine ⟨e1.trans e2, fun x x1 x2 x3 => ?_⟩
    by_cases e : x = (i : Int)
    · rw [e]
      exact rsP_st hr
    · rw [e1] at x3 ⊢
      exact e3 x x1 (by omega) x3
  · rcases hv with z | z
    · rw [hr.2.2.2.1 z]
      exact c2 (by have := h0 z; omega)
    · have k1 := hr.2.2.2.2 z
      rcases hm with y | y
      · rw [(c1 y).1] at k1; exact k1
      · have := c2 y; omega
theorem sum01_b {u : Int → Int} : ∀ n : Nat, (∀ j : Int, 0 ≤ j → j < (n : Int) → u j = 0 ∨ u j = 1) → 0 ≤ sumN u n ∧ sumN u n ≤ (n : Int)
  | 0, _ => by rw [sumN]; omega
  | n + 1, h => by
    have h1 := sum01_b n (fun j a b => h j a (by omega))
    have h2 := h (n : Int) (by omega) (by omega)
    rw [sumN]
    omega
theorem sum_len {u : Int → Int} : ∀ (n : Nat) (Q : List Int), Q.Nodup → (∀ j : Int, 0 ≤ j → j < (n : Int) → u j = 0 ∨ u j = 1) → (∀ x : Int, x ∈ Q ↔ 0 ≤ x ∧ x < (n : Int) ∧ u x = 1) → sumN u n = (Q.length : Int)
  | 0, Q, _, _, h => by
    cases Q with
    | nil => rfl
    | cons a Q => have := (h a).1 (by simp); omega
  | n + 1, Q, hn, h0, h => by
    rw [sumN]
    by_cases hu : u (n : Int) = 1
    · have hm : (n : Int) ∈ Q := (h _).2 ⟨by omega, by omega, hu⟩
      have h1 := sum_len n (Q.erase (n : Int)) (hn.erase _) (fun j a b => h0 j a (by omega)) (fun x => by
        rw [hn.mem_erase_iff, h x]
        constructor
        · rintro ⟨a, b, c, d⟩; exact ⟨b, by omega, d⟩
        · rintro ⟨b, c, d⟩; exact ⟨by omega, b, by omega, d⟩)
      have h2 := List.length_erase_of_mem hm
      have h3 : 0 < Q.length := List.length_pos_of_mem hm
      rw [h1, h2, hu]
      omega
    · have h4 := h0 (n : Int) (by omega) (by omega)
      rw [sum_len n Q hn (fun j a b => h0 j a (by omega)) (fun x => by
        rw [h x]
        constructor
        · rintro ⟨a, b, c⟩
          refine ⟨a, ?_, c⟩
          by_cases e : x = (n : Int)
          · rw [e] at c; exact absurd c hu
          · omega
        · rintro ⟨a, b, c⟩; exact ⟨a, by omega, c⟩)]
      omega
/-- a queue of rows -/
def qOK (Qs : List Int) : Prop := Qs.Nodup ∧ ∀ x ∈ Qs, 0 ≤ x ∧ x < 80
theorem addT_q {V : Int → Int} {Qs : List Int} {t : Int} (h : qOK Qs) : qOK (addT V Qs t) ∧ (∀ x, x ∈ addT V Qs t ↔ x ∈ Qs ∨ (x = t ∧ hasR V t)) ∧ ∃ L, addT V Qs t = Qs ++ L := by
  by_cases hr : hasR V t
  · rw [addT_t hr]
    refine ⟨addL_S h ⟨hr.1, hr.2.1⟩, fun x => ?_, ?_⟩
    · unfold addL
      split
      · rename_i q
        exact ⟨fun a => Or.inl a, fun a => by rcases a with a | ⟨a, _⟩; exact a; rw [a]; exact q⟩
      · rw [List.mem_append, List.mem_singleton]
        exact ⟨fun a => a.imp id (fun b => ⟨b, hr⟩), fun a => a.imp id (fun b => b.1)⟩
    · unfold addL
      split
      · exact ⟨[], by simp⟩
      · exact ⟨_, rfl⟩
  · rw [addT_f hr]
    exact ⟨h, fun x => ⟨fun a => Or.inl a, fun a => by rcases a with a | ⟨_, a⟩; exact a; exact absurd a hr⟩, [], by simp⟩
theorem stM_iff {P V : Int → Int} {r j : Int} (hr : 0 ≤ r ∧ r < 80) : stM P V r j ↔ hasR V j ∧ (j = tgt P V (r / 20 * 2 + ((0 : Nat) : Int)) r ∨ j = tgt P V (r / 20 * 2 + ((1 : Nat) : Int)) r) := by
  constructor
  · rintro ⟨h1, k, h2, h3, h4⟩
    refine ⟨h1, ?_⟩
    unfold tgm at h4
    split at h4
    · have h5 : k = r / 20 * 2 + ((0 : Nat) : Int) ∨ k = r / 20 * 2 + ((1 : Nat) : Int) := by omega
      rcases h5 with e | e
      · rw [e] at h4; exact Or.inl h4.symm
      · rw [e] at h4; exact Or.inr h4.symm
    · have := h1.1; omega
  · rintro ⟨h1, h2⟩
    refine ⟨h1, ?_⟩
    rcases h2 with e | e
    · exact ⟨r / 20 * 2 + ((0 : Nat) : Int), by omega, by omega, by unfold tgm; rw [if_pos (by omega)]; exact e.symm⟩
    · exact ⟨r / 20 * 2 + ((1 : Nat) : Int), by omega, by omega, by unfold tgm; rw [if_pos (by omega)]; exact e.symm⟩
theorem ftL_q {P V : Int → Int} {Qs : List Int} {r : Int} (hr : 0 ≤ r ∧ r < 80) (h : qOK Qs) : qOK (ftL P V r Qs 2) ∧ (∀ x, x ∈ ftL P V r Qs 2 ↔ x ∈ Qs ∨ stM P V r x) ∧ ∃ L, ftL P V r Qs 2 = Qs ++ L := by
  have e : ftL P V r Qs 2 = addT V (addT V Qs (tgt P V (r / 20 * 2 + ((0 : Nat) : Int)) r)) (tgt P V (r / 20 * 2 + ((1 : Nat) : Int)) r) := rfl
  rw [e]
  have h1 := addT_q (V := V) (t := tgt P V (r / 20 * 2 + ((0 : Nat) : Int)) r) h
  have h2 := addT_q (V := V) (t := tgt P V (r / 20 * 2 + ((1 : Nat) : Int)) r) h1.1
  refine ⟨h2.1, fun x => ?_, ?_⟩
  · rw [h2.2.1, h1.2.1, stM_iff hr]
    constructor
    · rintro ((a | ⟨a, b⟩) | ⟨a, b⟩)
      · exact Or.inl a
      · exact Or.inr ⟨by rw [a]; exact b, Or.inl a⟩
      · exact Or.inr ⟨by rw [a]; exact b, Or.inr a⟩
    · rintro (a | ⟨b, a | a⟩)
      · exact Or.inl (Or.inl a)
      · exact Or.inl (Or.inr ⟨a, by rw [← a]; exact b⟩)
      · exact Or.inr ⟨a, by rw [← a]; exact b⟩
  · obtain ⟨L1, e1⟩ := h1.2.2
    obtain ⟨L2, e2⟩ := h2.2.2
    exact ⟨L1 ++ L2, by rw [e2, e1, List.append_assoc]⟩
/-- the queue at its end: what is in it was reached, and it is closed -/
theorem bfs_q {P V : Int → Int} {S : Int → Prop} (hS : ∀ x t, S x → stM P V x t → S t) : ∀ (f pl : Nat) (Qs : List Int), qOK Qs → 81 ≤ f + pl → (∀ x ∈ Qs, S x) → (∀ i : Nat, i < pl → i < Qs.length → ∀ t, stM P V (Qs.getD i 0) t → t ∈ Qs) → qOK (bfs P V f pl Qs) ∧ (∀ x ∈ bfs P V f pl Qs, S x) ∧ (∀ x ∈ Qs, x ∈ bfs P V f pl Qs) ∧ (∀ x ∈ bfs P V f pl Qs, ∀ t, stM P V x t → t ∈ bfs P V f pl Qs) := by
  intro f
  induction f with
  | zero =>
    intro pl Qs h1 h2 h3 h4
    have hl := nodup_len 80 Qs h1.1 h1.2
    refine ⟨h1, h3, fun x hx => hx, fun x hx t ht => ?_⟩
    replace hx : x ∈ Qs := hx
    obtain ⟨i, hi, e⟩ := List.getElem_of_mem hx
    have e2 : Qs.getD i 0 = x := by rw [← e]; simp [List.getD, hi]
    exact h4 i (by omega) hi t (by rw [e2]; exact ht)
  | succ f ih =>
    intro pl Qs h1 h2 h3 h4
    by_cases hp : pl < Qs.length
    · rw [bfs_t hp]
      have e2 : Qs.getD pl 0 = Qs[pl] := by simp [List.getD, hp]
      have hm : Qs.getD pl 0 ∈ Qs := by rw [e2]; exact List.getElem_mem hp
      have h5 := ftL_q (P := P) (V := V) (h1.2 _ hm) h1
      obtain ⟨L, eL⟩ := h5.2.2
      have h6 := ih (pl + 1) _ h5.1 (by omega) (fun x hx => by
        rcases (h5.2.1 x).1 hx with a | a
        · exact h3 x a
        · exact hS _ _ (h3 _ hm) a) (fun i hi hl t ht => by
        rw [h5.2.1]
        rw [eL] at ht
        have e3 : (Qs ++ L).getD i 0 = Qs.getD i 0 := by simp [List.getD, List.getElem?_append_left (show i < Qs.length by omega)]
        rw [e3] at ht
        by_cases e : i = pl
        · rw [e] at ht; exact Or.inr ht
        · exact Or.inl (h4 i (by omega) (by omega) t ht))
      exact ⟨h6.1, h6.2.1, fun x hx => h6.2.2.1 x ((h5.2.1 x).2 (Or.inl hx)), h6.2.2.2⟩
    · rw [bfs_f hp]
      refine ⟨h1, h3, fun x hx => hx, fun x hx t ht => ?_⟩
      obtain ⟨i, hi, e⟩ := List.getElem_of_mem hx
      have e2 : Qs.getD i 0 = x := by rw [← e]; simp [List.getD, hi]
      exact h4 i (by omega) hi t (by rw [e2]; exact ht)
theorem anc_len {P V u : Int → Int} {r : Int} (hr : 0 ≤ r ∧ r < 80) (hB : anB P V r u) (hC : anC P V u) : sumN u 80 = ((bfs P V 81 0 (ftL P V r [] 2)).length : Int) := by
  obtain ⟨b1, b2, b3⟩ := hB
  have h5 := ftL_q (P := P) (V := V) (Qs := []) hr ⟨by simp, fun x hx => by simp at hx⟩
  have h6 := bfs_q (P := P) (V := V) (S := fun x => 0 ≤ x ∧ x < 80 ∧ u x = 1) (fun x t a b => ⟨b.1.1, b.1.2.1, hC x a.1 a.2.1 a.2.2 t b⟩) 81 0 (ftL P V r [] 2) h5.1 (by omega) (fun x hx => by
    rcases (h5.2.1 x).1 hx with a | a
    · simp at a
    · exact ⟨a.1.1, a.1.2.1, b3 x a⟩) (fun i hi => by omega)
  refine sum_len 80 _ h6.1.1 b1 (fun x => ⟨fun hx => h6.2.1 x hx, fun ⟨x1, x2, x3⟩ => ?_⟩)
  exact b2 x x1 x2 x3 (fun y => y ∈ bfs P V 81 0 (ftL P V r [] 2)) (fun t ht => h6.2.2.1 t ((h5.2.1 t).2 (Or.inr ht))) (fun x t a b => h6.2.2.2 x a t b)

set_option maxHeartbeats 600000 in
set_option maxRecDepth 100000 in
theorem c_X8_reaches (l : Launch) (D : va_G) (cI cZ cC : ClassId) (sz : Nat) (bd : Nat → Nat) (cn mp ty th sp ta ke on tw : Int) (Ir Vm V : Int → Int) (Ic Pm Am Dm P Ac Mo : Int → Int) (Rm : Int → Int) (r : Int) (g_R : rV Ir Vm V) (g_C : rC8 Ic Pm Am Dm P Ac Mo) (g_u0 : is01 Rm) (g_r : 0 ≤ r ∧ r < 80) : zMi l yX8_reaches wsX8_reaches ({ frames := 2, cells := 0, slots := 0, locals := 45 }) D cI cZ cC [(bd 0, .inr (8, [.ref (bd 1), .ref (bd 2), .ref (bd 3), .ref (bd 4), .ref (bd 5), .ref (bd 6), .ref (bd 7), .int (iI (cn)), .ref (bd 8), .int (iI (mp)), .ref (bd 9), .int (iI (ty)), .int (iI (th)), .ref (bd 10), .ref (bd 11), .int (iI (sp)), .int (iI (ta)), .int (iI (ke)), .int (iI (on)), .int (iI (tw))])), (bd 1, .inl (cZ, 80, .inl (iA (Ir)))), (bd 2, .inl (cI, 160, .inl (iA (Vm)))), (bd 3, .inl (cZ, 8, .inl (iA (Ic)))), (bd 4, .inl (cI, 8, .inl (iA (Pm)))), (bd 11, .inl (cZ, 80, .inl (iA (Rm))))] sz [.ref (bd 0), .int (iI (r))] (0) (0) (fun (u : Int → Int) => [(bd 0, .inr (8, [.ref (bd 1), .ref (bd 2), .ref (bd 3), .ref (bd 4), .ref (bd 5), .ref (bd 6), .ref (bd 7), .int (iI (cn)), .ref (bd 8), .int (iI (mp)), .ref (bd 9), .int (iI (ty)), .int (iI (th)), .ref (bd 10), .ref (bd 11), .int (iI (sp)), .int (iI (ta)), .int (iI (ke)), .int (iI (on)), .int (iI (tw))])), (bd 1, .inl (cZ, 80, .inl (iA (Ir)))), (bd 2, .inl (cI, 160, .inl (iA (Vm)))), (bd 3, .inl (cZ, 8, .inl (iA (Ic)))), (bd 4, .inl (cI, 8, .inl (iA (Pm)))), (bd 11, .inl (cZ, 80, .inl (iA (u))))]) (fun v (u : Int → Int) => (v = 0 ∨ v = 1) ∧ rsP P V r Rm u v 8) := by
  refine z_ofMi (cc := cX8_reaches) (maxL := 5) (ret := (some .boolean)) RX8 (by decide +kernel) rfl rfl (Nat.le_of_ble_eq_true rfl) ?_
  intro p0 en0 s0 m0 args0 below0 meth0 c0 ls AA hx hb hr hlocks hml hown hts hP hD hS hA hK hl
  have hl : lv_has ls 5 [(0, .ref (bd 0)), (1, .int (iI (r)))] := hl
  obtain ⟨H, hH⟩ : ∃ H, H = s0.heap := ⟨_, rfl⟩
  obtain ⟨locs, hlo⟩ : ∃ locs : List Loc, locs = [] := ⟨_, rfl⟩
  have hP : va_P D vwCl [(bd 0, .inr (8, [.ref (bd 1), .ref (bd 2), .ref (bd 3), .ref (bd 4), .ref (bd 5), .ref (bd 6), .ref (bd 7), .int (iI (cn)), .ref (bd 8), .int (iI (mp)), .ref (bd 9), .int (iI (ty)), .int (iI (th)), .ref (bd 10), .ref (bd 11), .int (iI (sp)), .int (iI (ta)), .int (iI (ke)), .int (iI (on)), .int (iI (tw))])), (bd 1, .inl (cZ, 80, .inl (iA (Ir)))), (bd 2, .inl (cI, 160, .inl (iA (Vm)))), (bd 3, .inl (cZ, 8, .inl (iA (Ic)))), (bd 4, .inl (cI, 8, .inl (iA (Pm)))), (bd 11, .inl (cZ, 80, .inl (iA (Rm))))] H := by rw [hH]; exact hP
  have hS : va_S AA s0.heap H locs := by rw [hH, hlo]; exact hS
  suffices hW : W p0 l en0 (headSpec wsX8_reaches ({ frames := 2, cells := 0, slots := 0, locals := 45 })).room s0 m0 args0 below0 meth0 c0 H locs 0 0 (QMi below0 D ((fun (u : Int → Int) => [(bd 0, .inr (8, [.ref (bd 1), .ref (bd 2), .ref (bd 3), .ref (bd 4), .ref (bd 5), .ref (bd 6), .ref (bd 7), .int (iI (cn)), .ref (bd 8), .int (iI (mp)), .ref (bd 9), .int (iI (ty)), .int (iI (th)), .ref (bd 10), .ref (bd 11), .int (iI (sp)), .int (iI (ta)), .int (iI (ke)), .int (iI (on)), .int (iI (tw))])), (bd 1, .inl (cZ, 80, .inl (iA (Ir)))), (bd 2, .inl (cI, 160, .inl (iA (Vm)))), (bd 3, .inl (cZ, 8, .inl (iA (Ic)))), (bd 4, .inl (cI, 8, .inl (iA (Pm)))), (bd 11, .inl (cZ, 80, .inl (iA (u))))])) (fun v (u : Int → Int) => (v = 0 ∨ v = 1) ∧ rsP P V r Rm u v 8) AA args0 s0 (0) (0)) (F0 m0 0 ls []) by rw [hH, hlo] at hW; exact hW
  have g_Ir := rV_01 g_R
  have g_Vm := rV_all g_R
  have g_Ic := rC_i g_C
  have g_Pm := rC_p g_C
  have g_Am := rC_a g_C
  have g_Dm := rC_d g_C
  refine lv_iconst (v := iI (0)) hx hb dX8_reaches_0 rfl ?_
  refine lv_istore_n (lv' := [(2, .int (iI (0))), (0, .ref (bd 0)), (1, .int (iI (r)))]) hx hb dX8_reaches_1 rfl hl (by decide) rfl (fun ls hl => ?_)
  refine lv_iconst (v := iI (0)) hx hb dX8_reaches_2 rfl ?_
  refine lv_istore_n (lv' := [(3, .int (iI (0))), (2, .int (iI (0))), (0, .ref (bd 0)), (1, .int (iI (r)))]) hx hb dX8_reaches_3 rfl hl (by decide) rfl (fun ls hl => ?_)
  have loop4 : ∀ (fu : Nat) (i : Nat) (mv : Int) (ux : Int → Int), (g_i : i ≤ 8) → (g_fu : 8 < i + fu) → (g_v : mv = 0 ∨ mv = 1) → (g_p : rsP P V r Rm ux mv i) → ∀ (H : Heap) (locs : List Loc), va_P D vwCl [(bd 0, .inr (8, [.ref (bd 1), .ref (bd 2), .ref (bd 3), .ref (bd 4), .ref (bd 5), .ref (bd 6), .ref (bd 7), .int (iI (cn)), .ref (bd 8), .int (iI (mp)), .ref (bd 9), .int (iI (ty)), .int (iI (th)), .ref (bd 10), .ref (bd 11), .int (iI (sp)), .int (iI (ta)), .int (iI (ke)), .int (iI (on)), .int (iI (tw))])), (bd 1, .inl (cZ, 80, .inl (iA (Ir)))), (bd 2, .inl (cI, 160, .inl (iA (Vm)))), (bd 3, .inl (cZ, 8, .inl (iA (Ic)))), (bd 4, .inl (cI, 8, .inl (iA (Pm)))), (bd 11, .inl (cZ, 80, .inl (iA (ux))))] H → va_D AA [(bd 0, .inr (8, [.ref (bd 1), .ref (bd 2), .ref (bd 3), .ref (bd 4), .ref (bd 5), .ref (bd 6), .ref (bd 7), .int (iI (cn)), .ref (bd 8), .int (iI (mp)), .ref (bd 9), .int (iI (ty)), .int (iI (th)), .ref (bd 10), .ref (bd 11), .int (iI (sp)), .int (iI (ta)), .int (iI (ke)), .int (iI (on)), .int (iI (tw))])), (bd 1, .inl (cZ, 80, .inl (iA (Ir)))), (bd 2, .inl (cI, 160, .inl (iA (Vm)))), (bd 3, .inl (cZ, 8, .inl (iA (Ic)))), (bd 4, .inl (cI, 8, .inl (iA (Pm)))), (bd 11, .inl (cZ, 80, .inl (iA (ux))))] → va_S AA s0.heap H locs → ∀ ls : Array Slot, lv_has ls 5 [(3, .int (iI ((i : Int)))), (2, .int (iI (mv))), (0, .ref (bd 0)), (1, .int (iI (r)))] → W p0 l en0 (headSpec wsX8_reaches ({ frames := 2, cells := 0, slots := 0, locals := 45 })).room s0 m0 args0 below0 meth0 c0 H locs 0 0 (QMi below0 D ((fun (u : Int → Int) => [(bd 0, .inr (8, [.ref (bd 1), .ref (bd 2), .ref (bd 3), .ref (bd 4), .ref (bd 5), .ref (bd 6), .ref (bd 7), .int (iI (cn)), .ref (bd 8), .int (iI (mp)), .ref (bd 9), .int (iI (ty)), .int (iI (th)), .ref (bd 10), .ref (bd 11), .int (iI (sp)), .int (iI (ta)), .int (iI (ke)), .int (iI (on)), .int (iI (tw))])), (bd 1, .inl (cZ, 80, .inl (iA (Ir)))), (bd 2, .inl (cI, 160, .inl (iA (Vm)))), (bd 3, .inl (cZ, 8, .inl (iA (Ic)))), (bd 4, .inl (cI, 8, .inl (iA (Pm)))), (bd 11, .inl (cZ, 80, .inl (iA (u))))])) (fun v (u : Int → Int) => (v = 0 ∨ v = 1) ∧ rsP P V r Rm u v 8) AA args0 s0 (0) (0)) (F0 m0 4 ls []) := by
    intro fu
    induction fu with
    | zero => intro i mv ux g_i g_fu g_v g_p H locs hP hD hS ls hl; exfalso; omega
    | succ fu ih4 =>
      intro i mv ux g_i g_fu g_v g_p H locs hP hD hS ls hl
      have g_u := g_p.1
      refine lv_iload_n hx hb dX8_reaches_4 rfl (lv_at hl 0 rfl) ?_
      refine lv_bipush (v := iI (8)) hx hb dX8_reaches_5 (by decide) ?_
      refine z_icmp_ge (tgt := 61) hx hb dX8_reaches_7 (by decide) ⟨⟨by omega, by omega⟩, ⟨by omega, by omega⟩⟩ (fun c_1 => ?_) (fun c_1 => ?_)
      · refine lv_iload_n hx hb dX8_reaches_61 rfl (lv_at hl 1 rfl) ?_
        refine z_mretZ (ux) hx hb hr hlocks dX8_reaches_62 (by omega) hP hD hS ?_
        exact ⟨g_v, by rw [show (8 : Nat) = i by omega]; exact g_p⟩
      · refine lv_aload_n hx hb dX8_reaches_10 rfl (lv_at hl 2 rfl) ?_
        refine lv_iload_n hx hb dX8_reaches_11 rfl (lv_at hl 3 rfl) ?_
        refine lv_iload_n hx hb dX8_reaches_12 rfl (lv_at hl 0 rfl) ?_
        refine z_roV (As := [.int (iI (r)), .int (iI ((i : Int)))]) (rest := []) ⟨hx, hb, hml, hown, hts⟩ (c_X8_target l D cI cZ cC (bd) (cn) (mp) (ty) (th) (sp) (ta) (ke) (on) (tw) (Ir) (Vm) (V) (Ic) (Pm) (Am) (Dm) (P) (Ac) (Mo) (r) ((i : Int)) (by first | assumption | omega) (by first | assumption | omega) (by first | assumption | omega) (by first | assumption | omega)) (cwV 2 hts gX8_reaches_X8_target rfl rfl rfl (by decide +kernel) ⟨Nat.le_of_ble_eq_true rfl, Nat.le_of_ble_eq_true rfl⟩) hP hK [0, 1, 2, 3, 4] rfl 0 8 rfl rfl rfl rfl hl.1 rfl (Nat.le_of_ble_eq_true rfl) dX8_reaches_13 ⟨by omega, by omega⟩ ?_
        have hf_2 := tgm_b g_R g_C (((i : Int))) (r) (by omega) (by omega)
        refine lv_istore (lv' := [(4, .int (iI ((tgm P V ((i : Int)) r)))), (3, .int (iI ((i : Int)))), (2, .int (iI (mv))), (0, .ref (bd 0)), (1, .int (iI (r)))]) hx hb dX8_reaches_16 hl (by decide) rfl (fun ls hl => ?_)
        refine lv_iload hx hb dX8_reaches_18 (lv_at hl 0 rfl) ?_
        refine lv_bipush (v := iI (-2)) hx hb dX8_reaches_20 (by decide) ?_
        refine z_icmp_eq (tgt := 55) hx hb dX8_reaches_22 (by decide) ⟨⟨by omega, by omega⟩, ⟨by omega, by omega⟩⟩ (fun c_3 => ?_) (fun c_3 => ?_)
        · refine lv_iinc (v := iI ((i : Int) + 1)) (lv' := [(3, .int (iI ((i : Int) + 1))), (4, .int (iI ((tgm P V ((i : Int)) r)))), (2, .int (iI (mv))), (0, .ref (bd 0)), (1, .int (iI (r)))]) hx hb dX8_reaches_55 hl (k := 1) rfl (iI_add ((i : Int)) (1)) (by decide) rfl (fun ls hl => ?_)
          refine lv_goto (tgt := 4) hx hb dX8_reaches_58 (by decide) ?_
          exact ih4 (i + 1) _ _ (by omega) (by omega) g_v (rsP_n g_p (fun q => by have := q.1; omega)) _ _ hP hD hS _ (lv_sub hl [0, 2, 3, 4] rfl)
        · refine lv_aload_n hx hb dX8_reaches_25 rfl (lv_at hl 3 rfl) ?_
          refine va_get (D := D) (ci := 8) (v := .ref (bd 1)) (C := RX8) (T := TX8) (N := 20) hx hb hts (fun _ h => List.mem_cons_of_mem _ (List.mem_append_right _ (h))) hown hK.1 hP 0 rfl rfl 0 (by decide) (hts (.fieldLink RX8 7 "ForeignKeyStoreModel" "isRow" "[Z") (List.mem_of_getElem? (i := 1) rfl)) (fun _ h9 => h9) rfl dX8_reaches_26 ?_
          refine lv_iload hx hb dX8_reaches_29 (lv_at hl 0 rfl) ?_
          refine z_zald hx hb hK.1 hP 1 1 rfl rfl (by omega) (by decide) dX8_reaches_31 ?_
          have hb_4 := g_Ir ((tgm P V ((i : Int)) r)) (by omega) (by omega)
          refine z_if_eq (tgt := 55) hx hb dX8_reaches_32 (by decide) ⟨by omega, by omega⟩ (fun c_5 => ?_) (fun c_5 => ?_)
          · refine lv_iinc (v := iI ((i : Int) + 1)) (lv' := [(3, .int (iI ((i : Int) + 1))), (4, .int (iI ((tgm P V ((i : Int)) r)))), (2, .int (iI (mv))), (0, .ref (bd 0)), (1, .int (iI (r)))]) hx hb dX8_reaches_55 hl (k := 1) rfl (iI_add ((i : Int)) (1)) (by decide) rfl (fun ls hl => ?_)
            refine lv_goto (tgt := 4) hx hb dX8_reaches_58 (by decide) ?_
            exact ih4 (i + 1) _ _ (by omega) (by omega) g_v (rsP_n g_p (fun q => by have := (rV_has g_R (r := tgm P V (i : Int) r) (by omega)).1 q; omega)) _ _ hP hD hS _ (lv_sub hl [0, 2, 3, 4] rfl)
          · refine lv_aload_n hx hb dX8_reaches_35 rfl (lv_at hl 3 rfl) ?_
            refine va_get (D := D) (ci := 8) (v := .ref (bd 11)) (C := RX8) (T := TX8) (N := 20) hx hb hts (fun _ h => List.mem_cons_of_mem _ (List.mem_append_right _ (h))) hown hK.1 hP 0 rfl rfl 14 (by decide) (hts (.fieldLink RX8 42 "ForeignKeyStoreModel" "isReached" "[Z") (List.mem_of_getElem? (i := 2) rfl)) (fun _ h9 => h9) rfl dX8_reaches_36 ?_
            refine lv_iload hx hb dX8_reaches_39 (lv_at hl 0 rfl) ?_
            refine z_zald hx hb hK.1 hP 5 1 rfl rfl (by omega) (by decide) dX8_reaches_41 ?_
            have hb_6 := g_u ((tgm P V ((i : Int)) r)) (by omega) (by omega)
            refine z_if_ne (tgt := 55) hx hb dX8_reaches_42 (by decide) ⟨by omega, by omega⟩ (fun c_7 => ?_) (fun c_7 => ?_)
            · refine lv_iinc (v := iI ((i : Int) + 1)) (lv' := [(3, .int (iI ((i : Int) + 1))), (4, .int (iI ((tgm P V ((i : Int)) r)))), (2, .int (iI (mv))), (0, .ref (bd 0)), (1, .int (iI (r)))]) hx hb dX8_reaches_55 hl (k := 1) rfl (iI_add ((i : Int)) (1)) (by decide) rfl (fun ls hl => ?_)
              refine lv_goto (tgt := 4) hx hb dX8_reaches_58 (by decide) ?_
              exact ih4 (i + 1) _ _ (by omega) (by omega) g_v (rsP_n g_p (fun q => by have := g_u (tgm P V (i : Int) r) (by omega) (by omega); omega)) _ _ hP hD hS _ (lv_sub hl [0, 2, 3, 4] rfl)
            · refine lv_aload_n hx hb dX8_reaches_45 rfl (lv_at hl 3 rfl) ?_
              refine va_get (D := D) (ci := 8) (v := .ref (bd 11)) (C := RX8) (T := TX8) (N := 20) hx hb hts (fun _ h => List.mem_cons_of_mem _ (List.mem_append_right _ (h))) hown hK.1 hP 0 rfl rfl 14 (by decide) (hts (.fieldLink RX8 42 "ForeignKeyStoreModel" "isReached" "[Z") (List.mem_of_getElem? (i := 2) rfl)) (fun _ h9 => h9) rfl dX8_reaches_46 ?_
              refine lv_iload hx hb dX8_reaches_49 (lv_at hl 0 rfl) ?_
              refine lv_iconst (v := iI (1)) hx hb dX8_reaches_51 rfl ?_
              refine z_zast hx hb hK.1 hP hD hS 5 1 rfl rfl (by omega) (by decide) (by omega) dX8_reaches_52 (fun H locs hP hD hS => ?_)
              have hP : va_P D vwCl [(bd 0, .inr (8, [.ref (bd 1), .ref (bd 2), .ref (bd 3), .ref (bd 4), .ref (bd 5), .ref (bd 6), .ref (bd 7), .int (iI (cn)), .ref (bd 8), .int (iI (mp)), .ref (bd 9), .int (iI (ty)), .int (iI (th)), .ref (bd 10), .ref (bd 11), .int (iI (sp)), .int (iI (ta)), .int (iI (ke)), .int (iI (on)), .int (iI (tw))])), (bd 1, .inl (cZ, 80, .inl (iA (Ir)))), (bd 2, .inl (cI, 160, .inl (iA (Vm)))), (bd 3, .inl (cZ, 8, .inl (iA (Ic)))), (bd 4, .inl (cI, 8, .inl (iA (Pm)))), (bd 11, .inl (cZ, 80, .inl (iA (uI (ux) ((tgm P V ((i : Int)) r)) (1)))))] H := hP
              have hD : va_D AA [(bd 0, .inr (8, [.ref (bd 1), .ref (bd 2), .ref (bd 3), .ref (bd 4), .ref (bd 5), .ref (bd 6), .ref (bd 7), .int (iI (cn)), .ref (bd 8), .int (iI (mp)), .ref (bd 9), .int (iI (ty)), .int (iI (th)), .ref (bd 10), .ref (bd 11), .int (iI (sp)), .int (iI (ta)), .int (iI (ke)), .int (iI (on)), .int (iI (tw))])), (bd 1, .inl (cZ, 80, .inl (iA (Ir)))), (bd 2, .inl (cI, 160, .inl (iA (Vm)))), (bd 3, .inl (cZ, 8, .inl (iA (Ic)))), (bd 4, .inl (cI, 8, .inl (iA (Pm)))), (bd 11, .inl (cZ, 80, .inl (iA (uI (ux) ((tgm P V ((i : Int)) r)) (1)))))] := hD
              refine lv_iconst (v := iI (1)) hx hb dX8_reaches_53 rfl ?_
              refine lv_istore_n (lv' := [(2, .int (iI (1))), (4, .int (iI ((tgm P V ((i : Int)) r)))), (3, .int (iI ((i : Int)))), (0, .ref (bd 0)), (1, .int (iI (r)))]) hx hb dX8_reaches_54 rfl hl (by decide) rfl (fun ls hl => ?_)
              refine lv_iinc (v := iI ((i : Int) + 1)) (lv' := [(3, .int (iI ((i : Int) + 1))), (2, .int (iI (1))), (4, .int (iI ((tgm P V ((i : Int)) r)))), (0, .ref (bd 0)), (1, .int (iI (r)))]) hx hb dX8_reaches_55 hl (k := 2) rfl (iI_add ((i : Int)) (1)) (by decide) rfl (fun ls hl => ?_)
              refine lv_goto (tgt := 4) hx hb dX8_reaches_58 (by decide) ?_
              exact ih4 (i + 1) _ _ (by omega) (by omega) (Or.inr rfl) (rsP_y g_p (by omega) g_v ((rV_has g_R (r := tgm P V (i : Int) r) (by omega)).2 (by omega)) (by omega)) _ _ hP hD hS _ (lv_sub hl [0, 1, 3, 4] rfl)
  exact loop4 9 0 0 _ (by omega) (by omega) (Or.inl rfl) (rsP_0 g_u0) _ _ hP hD hS _ (lv_sub hl [0, 1, 2, 3] rfl)

set_option maxHeartbeats 600000 in
set_option maxRecDepth 100000 in
theorem c_X8_ancestors (l : Launch) (D : va_G) (cI cZ cC : ClassId) (sz : Nat) (bd : Nat → Nat) (cn mp ty th sp ta ke on tw : Int) (Ir Vm V : Int → Int) (Ic Pm Am Dm P Ac Mo : Int → Int) (Rm : Int → Int) (t k : Int) (g_R : rV Ir Vm V) (g_C : rC8 Ic Pm Am Dm P Ac Mo) (g_t : ib t) (g_k : ib k) : zMi l yX8_ancestors wsX8_ancestors ({ frames := 3, cells := 0, slots := 0, locals := 69 }) D cI cZ cC [(bd 0, .inr (8, [.ref (bd 1), .ref (bd 2), .ref (bd 3), .ref (bd 4), .ref (bd 5), .ref (bd 6), .ref (bd 7), .int (iI (cn)), .ref (bd 8), .int (iI (mp)), .ref (bd 9), .int (iI (ty)), .int (iI (th)), .ref (bd 10), .ref (bd 11), .int (iI (sp)), .int (iI (ta)), .int (iI (ke)), .int (iI (on)), .int (iI (tw))])), (bd 1, .inl (cZ, 80, .inl (iA (Ir)))), (bd 2, .inl (cI, 160, .inl (iA (Vm)))), (bd 3, .inl (cZ, 8, .inl (iA (Ic)))), (bd 4, .inl (cI, 8, .inl (iA (Pm)))), (bd 11, .inl (cZ, 80, .inl (iA (Rm))))] sz [.ref (bd 0), .int (iI (t)), .int (iI (k))] (0) (0) (fun (u : (Int → Int) × Int) => [(bd 0, .inr (8, [.ref (bd 1), .ref (bd 2), .ref (bd 3), .ref (bd 4), .ref (bd 5), .ref (bd 6), .ref (bd 7), .int (iI (cn)), .ref (bd 8), .int (iI (mp)), .ref (bd 9), .int (iI (ty)), .int (iI (u.2)), .ref (bd 10), .ref (bd 11), .int (iI (sp)), .int (iI (ta)), .int (iI (ke)), .int (iI (on)), .int (iI (tw))])), (bd 1, .inl (cZ, 80, .inl (iA (Ir)))), (bd 2, .inl (cI, 160, .inl (iA (Vm)))), (bd 3, .inl (cZ, 8, .inl (iA (Ic)))), (bd 4, .inl (cI, 8, .inl (iA (Pm)))), (bd 11, .inl (cZ, 80, .inl (iA (u.1))))]) (fun v (u : (Int → Int) × Int) => u.2 = goK (0 ≤ t ∧ t < 4 ∧ 0 ≤ k ∧ k < 20) (True) (True) ∧ ib v ∧ (u.2 = 0 → v = @ite Int (hasR V (t * 20 + k)) (Classical.propDecidable _) ((bfs P V 81 0 (ftL P V (t * 20 + k) [] 2)).length : Int) (-2))) := by
  refine z_ofMi (cc := cX8_ancestors) (maxL := 6) (ret := (some .int)) RX8 (by decide +kernel) rfl rfl (Nat.le_of_ble_eq_true rfl) ?_
  intro p0 en0 s0 m0 args0 below0 meth0 c0 ls AA hx hb hr hlocks hml hown hts hP hD hS hA hK hl
  have hl : lv_has ls 6 [(0, .ref (bd 0)), (1, .int (iI (t))), (2, .int (iI (k)))] := hl
  obtain ⟨H, hH⟩ : ∃ H, H = s0.heap := ⟨_, rfl⟩
  obtain ⟨locs, hlo⟩ : ∃ locs : List Loc, locs = [] := ⟨_, rfl⟩
  have hP : va_P D vwCl [(bd 0, .inr (8, [.ref (bd 1), .ref (bd 2), .ref (bd 3), .ref (bd 4), .ref (bd 5), .ref (bd 6), .ref (bd 7), .int (iI (cn)), .ref (bd 8), .int (iI (mp)), .ref (bd 9), .int (iI (ty)), .int (iI (th)), .ref (bd 10), .ref (bd 11), .int (iI (sp)), .int (iI (ta)), .int (iI (ke)), .int (iI (on)), .int (iI (tw))])), (bd 1, .inl (cZ, 80, .inl (iA (Ir)))), (bd 2, .inl (cI, 160, .inl (iA (Vm)))), (bd 3, .inl (cZ, 8, .inl (iA (Ic)))), (bd 4, .inl (cI, 8, .inl (iA (Pm)))), (bd 11, .inl (cZ, 80, .inl (iA (Rm))))] H := by rw [hH]; exact hP
  have hS : va_S AA s0.heap H locs := by rw [hH, hlo]; exact hS
  suffices hW : W p0 l en0 (headSpec wsX8_ancestors ({ frames := 3, cells := 0, slots := 0, locals := 69 })).room s0 m0 args0 below0 meth0 c0 H locs 0 0 (QMi below0 D ((fun (u : (Int → Int) × Int) => [(bd 0, .inr (8, [.ref (bd 1), .ref (bd 2), .ref (bd 3), .ref (bd 4), .ref (bd 5), .ref (bd 6), .ref (bd 7), .int (iI (cn)), .ref (bd 8), .int (iI (mp)), .ref (bd 9), .int (iI (ty)), .int (iI (u.2)), .ref (bd 10), .ref (bd 11), .int (iI (sp)), .int (iI (ta)), .int (iI (ke)), .int (iI (on)), .int (iI (tw))])), (bd 1, .inl (cZ, 80, .inl (iA (Ir)))), (bd 2, .inl (cI, 160, .inl (iA (Vm)))), (bd 3, .inl (cZ, 8, .inl (iA (Ic)))), (bd 4, .inl (cI, 8, .inl (iA (Pm)))), (bd 11, .inl (cZ, 80, .inl (iA (u.1))))])) (fun v (u : (Int → Int) × Int) => u.2 = goK (0 ≤ t ∧ t < 4 ∧ 0 ≤ k ∧ k < 20) (True) (True) ∧ ib v ∧ (u.2 = 0 → v = @ite Int (hasR V (t * 20 + k)) (Classical.propDecidable _) ((bfs P V 81 0 (ftL P V (t * 20 + k) [] 2)).length : Int) (-2))) AA args0 s0 (0) (0)) (F0 m0 0 ls []) by rw [hH, hlo] at hW; exact hW
  have g_Ir := rV_01 g_R
  have g_Vm := rV_all g_R
  have g_Ic := rC_i g_C
  have g_Pm := rC_p g_C
  have g_Am := rC_a g_C
  have g_Dm := rC_d g_C
  refine lv_aload_n hx hb dX8_ancestors_0 rfl (lv_at hl 0 rfl) ?_
  refine lv_iload_n hx hb dX8_ancestors_1 rfl (lv_at hl 1 rfl) ?_
  refine z_roS (As := [.int (iI (t))]) (rest := [.ref (bd 0)]) ⟨hx, hb, hml, hown, hts⟩ (c_X8_isTable l D cI cZ cC (t) (by first | assumption | omega)) (va_cwS 1 hts gX8_ancestors_X8_isTable rfl rfl rfl (by decide +kernel) ⟨Nat.le_of_ble_eq_true rfl, Nat.le_of_ble_eq_true rfl⟩) hP hK [] rfl rfl hl.1 rfl (Nat.le_of_ble_eq_true rfl) dX8_ancestors_2 ⟨by omega, by omega⟩ ?_
  refine z_b_eq (tgt := 19) hx hb dX8_ancestors_5 (by decide) (fun c_1 => ?_) (fun c_1 => ?_)
  · refine lv_iconst (v := iI (0)) hx hb dX8_ancestors_19 rfl ?_
    refine lv_iconst (v := iI (1)) hx hb dX8_ancestors_20 rfl ?_
    refine lv_iconst (v := iI (1)) hx hb dX8_ancestors_21 rfl ?_
    refine z_muV (As := [.int (iI (0)), .int (iI (1)), .int (iI (1))]) (rest := []) (wr := [(bd 1, .inl (cZ, 80, .inl (iA (Ir)))), (bd 2, .inl (cI, 160, .inl (iA (Vm)))), (bd 3, .inl (cZ, 8, .inl (iA (Ic)))), (bd 4, .inl (cI, 8, .inl (iA (Pm)))), (bd 11, .inl (cZ, 80, .inl (iA (Rm))))]) (ws2 := (fun (u : Unit) => [(bd 0, .inr (8, [.ref (bd 1), .ref (bd 2), .ref (bd 3), .ref (bd 4), .ref (bd 5), .ref (bd 6), .ref (bd 7), .int (iI (cn)), .ref (bd 8), .int (iI (mp)), .ref (bd 9), .int (iI (ty)), .int (iI (gkI 0 1 1)), .ref (bd 10), .ref (bd 11), .int (iI (sp)), .int (iI (ta)), .int (iI (ke)), .int (iI (on)), .int (iI (tw))])), (bd 1, .inl (cZ, 80, .inl (iA (Ir)))), (bd 2, .inl (cI, 160, .inl (iA (Vm)))), (bd 3, .inl (cZ, 8, .inl (iA (Ic)))), (bd 4, .inl (cI, 8, .inl (iA (Pm)))), (bd 11, .inl (cZ, 80, .inl (iA (Rm))))])) ⟨hx, hb, hml, hown, hts⟩ (c_X8_goes l D cI cZ cC H.size (bd) (cn) (mp) (ty) (th) (sp) (ta) (ke) (on) (tw) (0) (1) (1) (by first | assumption | omega) (by first | assumption | omega) (by first | assumption | omega)) (cwV 3 hts gX8_ancestors_X8_goes rfl rfl rfl (by decide +kernel) ⟨Nat.le_of_ble_eq_true rfl, Nat.le_of_ble_eq_true rfl⟩) hP hD hS hA hK [0] [1, 2, 3, 4, 5] [5, 0, 1, 2, 3, 4] rfl (by decide) rfl (by decide) (by decide) (by decide) (fun _ => rfl) 0 8 rfl rfl rfl rfl hl.1 rfl (Nat.le_of_ble_eq_true rfl) dX8_ancestors_22 ⟨by omega, by omega⟩ (fun r_3 u H locs hq_2 hP hD hS => ?_)
    have hP : va_P D vwCl [(bd 0, .inr (8, [.ref (bd 1), .ref (bd 2), .ref (bd 3), .ref (bd 4), .ref (bd 5), .ref (bd 6), .ref (bd 7), .int (iI (cn)), .ref (bd 8), .int (iI (mp)), .ref (bd 9), .int (iI (ty)), .int (iI (gkI 0 1 1)), .ref (bd 10), .ref (bd 11), .int (iI (sp)), .int (iI (ta)), .int (iI (ke)), .int (iI (on)), .int (iI (tw))])), (bd 1, .inl (cZ, 80, .inl (iA (Ir)))), (bd 2, .inl (cI, 160, .inl (iA (Vm)))), (bd 3, .inl (cZ, 8, .inl (iA (Ic)))), (bd 4, .inl (cI, 8, .inl (iA (Pm)))), (bd 11, .inl (cZ, 80, .inl (iA (Rm))))] H := hP
    have hD : va_D AA [(bd 0, .inr (8, [.ref (bd 1), .ref (bd 2), .ref (bd 3), .ref (bd 4), .ref (bd 5), .ref (bd 6), .ref (bd 7), .int (iI (cn)), .ref (bd 8), .int (iI (mp)), .ref (bd 9), .int (iI (ty)), .int (iI (gkI 0 1 1)), .ref (bd 10), .ref (bd 11), .int (iI (sp)), .int (iI (ta)), .int (iI (ke)), .int (iI (on)), .int (iI (tw))])), (bd 1, .inl (cZ, 80, .inl (iA (Ir)))), (bd 2, .inl (cI, 160, .inl (iA (Vm)))), (bd 3, .inl (cZ, 8, .inl (iA (Ic)))), (bd 4, .inl (cI, 8, .inl (iA (Pm)))), (bd 11, .inl (cZ, 80, .inl (iA (Rm))))] := hD
    try dsimp only at hq_2
    obtain ⟨hv9, hq_2⟩ := hq_2
    have hv9 := hv9.symm
    subst hv9
    have hth : gkI (0) (1) (1) = 1 := rfl
    rw [hth] at hP hD
    have hP : va_P D vwCl [(bd 0, .inr (8, [.ref (bd 1), .ref (bd 2), .ref (bd 3), .ref (bd 4), .ref (bd 5), .ref (bd 6), .ref (bd 7), .int (iI (cn)), .ref (bd 8), .int (iI (mp)), .ref (bd 9), .int (iI (ty)), .int (iI (1)), .ref (bd 10), .ref (bd 11), .int (iI (sp)), .int (iI (ta)), .int (iI (ke)), .int (iI (on)), .int (iI (tw))])), (bd 1, .inl (cZ, 80, .inl (iA (Ir)))), (bd 2, .inl (cI, 160, .inl (iA (Vm)))), (bd 3, .inl (cZ, 8, .inl (iA (Ic)))), (bd 4, .inl (cI, 8, .inl (iA (Pm)))), (bd 11, .inl (cZ, 80, .inl (iA (Rm))))] H := hP
    have hD : va_D AA [(bd 0, .inr (8, [.ref (bd 1), .ref (bd 2), .ref (bd 3), .ref (bd 4), .ref (bd 5), .ref (bd 6), .ref (bd 7), .int (iI (cn)), .ref (bd 8), .int (iI (mp)), .ref (bd 9), .int (iI (ty)), .int (iI (1)), .ref (bd 10), .ref (bd 11), .int (iI (sp)), .int (iI (ta)), .int (iI (ke)), .int (iI (on)), .int (iI (tw))])), (bd 1, .inl (cZ, 80, .inl (iA (Ir)))), (bd 2, .inl (cI, 160, .inl (iA (Vm)))), (bd 3, .inl (cZ, 8, .inl (iA (Ic)))), (bd 4, .inl (cI, 8, .inl (iA (Pm)))), (bd 11, .inl (cZ, 80, .inl (iA (Rm))))] := hD
    rw [show bI (gkI (0) (1) (1) = 0) = 0 from bI_f (by rw [hth]; decide)]
    refine z_if_ne (tgt := 30) hx hb dX8_ancestors_25 (by decide) ⟨by omega, by omega⟩ (fun c_4 => ?_) (fun c_4 => ?_)
    · exfalso
      omega
    · refine lv_iconst (v := iI (0)) hx hb dX8_ancestors_28 rfl ?_
      refine z_mret ((Rm, 1)) hx hb hr hlocks dX8_ancestors_29 hP hD hS ?_
      exact ⟨(goK_1 (by omega)).symm, ⟨by omega, by omega⟩, fun h => absurd h (by show ¬ (1 : Int) = 0; decide)⟩
  · refine lv_iload_n hx hb dX8_ancestors_8 rfl (lv_at hl 2 rfl) ?_
    refine z_roS (As := [.int (iI (k))]) (rest := [.ref (bd 0)]) ⟨hx, hb, hml, hown, hts⟩ (c_X8_isKey l D cI cZ cC (k) (by first | assumption | omega)) (va_cwS 1 hts gX8_ancestors_X8_isKey rfl rfl rfl (by decide +kernel) ⟨Nat.le_of_ble_eq_true rfl, Nat.le_of_ble_eq_true rfl⟩) hP hK [] rfl rfl hl.1 rfl (Nat.le_of_ble_eq_true rfl) dX8_ancestors_9 ⟨by omega, by omega⟩ ?_
    refine z_b_eq (tgt := 19) hx hb dX8_ancestors_12 (by decide) (fun c_5 => ?_) (fun c_5 => ?_)
    · refine lv_iconst (v := iI (0)) hx hb dX8_ancestors_19 rfl ?_
      refine lv_iconst (v := iI (1)) hx hb dX8_ancestors_20 rfl ?_
      refine lv_iconst (v := iI (1)) hx hb dX8_ancestors_21 rfl ?_
      refine z_muV (As := [.int (iI (0)), .int (iI (1)), .int (iI (1))]) (rest := []) (wr := [(bd 1, .inl (cZ, 80, .inl (iA (Ir)))), (bd 2, .inl (cI, 160, .inl (iA (Vm)))), (bd 3, .inl (cZ, 8, .inl (iA (Ic)))), (bd 4, .inl (cI, 8, .inl (iA (Pm)))), (bd 11, .inl (cZ, 80, .inl (iA (Rm))))]) (ws2 := (fun (u : Unit) => [(bd 0, .inr (8, [.ref (bd 1), .ref (bd 2), .ref (bd 3), .ref (bd 4), .ref (bd 5), .ref (bd 6), .ref (bd 7), .int (iI (cn)), .ref (bd 8), .int (iI (mp)), .ref (bd 9), .int (iI (ty)), .int (iI (gkI 0 1 1)), .ref (bd 10), .ref (bd 11), .int (iI (sp)), .int (iI (ta)), .int (iI (ke)), .int (iI (on)), .int (iI (tw))])), (bd 1, .inl (cZ, 80, .inl (iA (Ir)))), (bd 2, .inl (cI, 160, .inl (iA (Vm)))), (bd 3, .inl (cZ, 8, .inl (iA (Ic)))), (bd 4, .inl (cI, 8, .inl (iA (Pm)))), (bd 11, .inl (cZ, 80, .inl (iA (Rm))))])) ⟨hx, hb, hml, hown, hts⟩ (c_X8_goes l D cI cZ cC H.size (bd) (cn) (mp) (ty) (th) (sp) (ta) (ke) (on) (tw) (0) (1) (1) (by first | assumption | omega) (by first | assumption | omega) (by first | assumption | omega)) (cwV 3 hts gX8_ancestors_X8_goes rfl rfl rfl (by decide +kernel) ⟨Nat.le_of_ble_eq_true rfl, Nat.le_of_ble_eq_true rfl⟩) hP hD hS hA hK [0] [1, 2, 3, 4, 5] [5, 0, 1, 2, 3, 4] rfl (by decide) rfl (by decide) (by decide) (by decide) (fun _ => rfl) 0 8 rfl rfl rfl rfl hl.1 rfl (Nat.le_of_ble_eq_true rfl) dX8_ancestors_22 ⟨by omega, by omega⟩ (fun r_7 u H locs hq_6 hP hD hS => ?_)
      have hP : va_P D vwCl [(bd 0, .inr (8, [.ref (bd 1), .ref (bd 2), .ref (bd 3), .ref (bd 4), .ref (bd 5), .ref (bd 6), .ref (bd 7), .int (iI (cn)), .ref (bd 8), .int (iI (mp)), .ref (bd 9), .int (iI (ty)), .int (iI (gkI 0 1 1)), .ref (bd 10), .ref (bd 11), .int (iI (sp)), .int (iI (ta)), .int (iI (ke)), .int (iI (on)), .int (iI (tw))])), (bd 1, .inl (cZ, 80, .inl (iA (Ir)))), (bd 2, .inl (cI, 160, .inl (iA (Vm)))), (bd 3, .inl (cZ, 8, .inl (iA (Ic)))), (bd 4, .inl (cI, 8, .inl (iA (Pm)))), (bd 11, .inl (cZ, 80, .inl (iA (Rm))))] H := hP
      have hD : va_D AA [(bd 0, .inr (8, [.ref (bd 1), .ref (bd 2), .ref (bd 3), .ref (bd 4), .ref (bd 5), .ref (bd 6), .ref (bd 7), .int (iI (cn)), .ref (bd 8), .int (iI (mp)), .ref (bd 9), .int (iI (ty)), .int (iI (gkI 0 1 1)), .ref (bd 10), .ref (bd 11), .int (iI (sp)), .int (iI (ta)), .int (iI (ke)), .int (iI (on)), .int (iI (tw))])), (bd 1, .inl (cZ, 80, .inl (iA (Ir)))), (bd 2, .inl (cI, 160, .inl (iA (Vm)))), (bd 3, .inl (cZ, 8, .inl (iA (Ic)))), (bd 4, .inl (cI, 8, .inl (iA (Pm)))), (bd 11, .inl (cZ, 80, .inl (iA (Rm))))] := hD
      try dsimp only at hq_6
      obtain ⟨hv9, hq_6⟩ := hq_6
      have hv9 := hv9.symm
      subst hv9
      have hth : gkI (0) (1) (1) = 1 := rfl
      rw [hth] at hP hD
      have hP : va_P D vwCl [(bd 0, .inr (8, [.ref (bd 1), .ref (bd 2), .ref (bd 3), .ref (bd 4), .ref (bd 5), .ref (bd 6), .ref (bd 7), .int (iI (cn)), .ref (bd 8), .int (iI (mp)), .ref (bd 9), .int (iI (ty)), .int (iI (1)), .ref (bd 10), .ref (bd 11), .int (iI (sp)), .int (iI (ta)), .int (iI (ke)), .int (iI (on)), .int (iI (tw))])), (bd 1, .inl (cZ, 80, .inl (iA (Ir)))), (bd 2, .inl (cI, 160, .inl (iA (Vm)))), (bd 3, .inl (cZ, 8, .inl (iA (Ic)))), (bd 4, .inl (cI, 8, .inl (iA (Pm)))), (bd 11, .inl (cZ, 80, .inl (iA (Rm))))] H := hP
      have hD : va_D AA [(bd 0, .inr (8, [.ref (bd 1), .ref (bd 2), .ref (bd 3), .ref (bd 4), .ref (bd 5), .ref (bd 6), .ref (bd 7), .int (iI (cn)), .ref (bd 8), .int (iI (mp)), .ref (bd 9), .int (iI (ty)), .int (iI (1)), .ref (bd 10), .ref (bd 11), .int (iI (sp)), .int (iI (ta)), .int (iI (ke)), .int (iI (on)), .int (iI (tw))])), (bd 1, .inl (cZ, 80, .inl (iA (Ir)))), (bd 2, .inl (cI, 160, .inl (iA (Vm)))), (bd 3, .inl (cZ, 8, .inl (iA (Ic)))), (bd 4, .inl (cI, 8, .inl (iA (Pm)))), (bd 11, .inl (cZ, 80, .inl (iA (Rm))))] := hD
      rw [show bI (gkI (0) (1) (1) = 0) = 0 from bI_f (by rw [hth]; decide)]
      refine z_if_ne (tgt := 30) hx hb dX8_ancestors_25 (by decide) ⟨by omega, by omega⟩ (fun c_8 => ?_) (fun c_8 => ?_)
      · exfalso
        omega
      · refine lv_iconst (v := iI (0)) hx hb dX8_ancestors_28 rfl ?_
        refine z_mret ((Rm, 1)) hx hb hr hlocks dX8_ancestors_29 hP hD hS ?_
        exact ⟨(goK_1 (by omega)).symm, ⟨by omega, by omega⟩, fun h => absurd h (by show ¬ (1 : Int) = 0; decide)⟩
    · refine lv_iconst (v := iI (1)) hx hb dX8_ancestors_15 rfl ?_
      refine lv_goto (tgt := 20) hx hb dX8_ancestors_16 (by decide) ?_
      refine lv_iconst (v := iI (1)) hx hb dX8_ancestors_20 rfl ?_
      refine lv_iconst (v := iI (1)) hx hb dX8_ancestors_21 rfl ?_
      refine z_muV (As := [.int (iI (1)), .int (iI (1)), .int (iI (1))]) (rest := []) (wr := [(bd 1, .inl (cZ, 80, .inl (iA (Ir)))), (bd 2, .inl (cI, 160, .inl (iA (Vm)))), (bd 3, .inl (cZ, 8, .inl (iA (Ic)))), (bd 4, .inl (cI, 8, .inl (iA (Pm)))), (bd 11, .inl (cZ, 80, .inl (iA (Rm))))]) (ws2 := (fun (u : Unit) => [(bd 0, .inr (8, [.ref (bd 1), .ref (bd 2), .ref (bd 3), .ref (bd 4), .ref (bd 5), .ref (bd 6), .ref (bd 7), .int (iI (cn)), .ref (bd 8), .int (iI (mp)), .ref (bd 9), .int (iI (ty)), .int (iI (gkI 1 1 1)), .ref (bd 10), .ref (bd 11), .int (iI (sp)), .int (iI (ta)), .int (iI (ke)), .int (iI (on)), .int (iI (tw))])), (bd 1, .inl (cZ, 80, .inl (iA (Ir)))), (bd 2, .inl (cI, 160, .inl (iA (Vm)))), (bd 3, .inl (cZ, 8, .inl (iA (Ic)))), (bd 4, .inl (cI, 8, .inl (iA (Pm)))), (bd 11, .inl (cZ, 80, .inl (iA (Rm))))])) ⟨hx, hb, hml, hown, hts⟩ (c_X8_goes l D cI cZ cC H.size (bd) (cn) (mp) (ty) (th) (sp) (ta) (ke) (on) (tw) (1) (1) (1) (by first | assumption | omega) (by first | assumption | omega) (by first | assumption | omega)) (cwV 3 hts gX8_ancestors_X8_goes rfl rfl rfl (by decide +kernel) ⟨Nat.le_of_ble_eq_true rfl, Nat.le_of_ble_eq_true rfl⟩) hP hD hS hA hK [0] [1, 2, 3, 4, 5] [5, 0, 1, 2, 3, 4] rfl (by decide) rfl (by decide) (by decide) (by decide) (fun _ => rfl) 0 8 rfl rfl rfl rfl hl.1 rfl (Nat.le_of_ble_eq_true rfl) dX8_ancestors_22 ⟨by omega, by omega⟩ (fun r_10 u H locs hq_9 hP hD hS => ?_)
      have hP : va_P D vwCl [(bd 0, .inr (8, [.ref (bd 1), .ref (bd 2), .ref (bd 3), .ref (bd 4), .ref (bd 5), .ref (bd 6), .ref (bd 7), .int (iI (cn)), .ref (bd 8), .int (iI (mp)), .ref (bd 9), .int (iI (ty)), .int (iI (gkI 1 1 1)), .ref (bd 10), .ref (bd 11), .int (iI (sp)), .int (iI (ta)), .int (iI (ke)), .int (iI (on)), .int (iI (tw))])), (bd 1, .inl (cZ, 80, .inl (iA (Ir)))), (bd 2, .inl (cI, 160, .inl (iA (Vm)))), (bd 3, .inl (cZ, 8, .inl (iA (Ic)))), (bd 4, .inl (cI, 8, .inl (iA (Pm)))), (bd 11, .inl (cZ, 80, .inl (iA (Rm))))] H := hP
      have hD : va_D AA [(bd 0, .inr (8, [.ref (bd 1), .ref (bd 2), .ref (bd 3), .ref (bd 4), .ref (bd 5), .ref (bd 6), .ref (bd 7), .int (iI (cn)), .ref (bd 8), .int (iI (mp)), .ref (bd 9), .int (iI (ty)), .int (iI (gkI 1 1 1)), .ref (bd 10), .ref (bd 11), .int (iI (sp)), .int (iI (ta)), .int (iI (ke)), .int (iI (on)), .int (iI (tw))])), (bd 1, .inl (cZ, 80, .inl (iA (Ir)))), (bd 2, .inl (cI, 160, .inl (iA (Vm)))), (bd 3, .inl (cZ, 8, .inl (iA (Ic)))), (bd 4, .inl (cI, 8, .inl (iA (Pm)))), (bd 11, .inl (cZ, 80, .inl (iA (Rm))))] := hD
      try dsimp only at hq_9
      obtain ⟨hv9, hq_9⟩ := hq_9
      have hv9 := hv9.symm
      subst hv9
      have hth : gkI (1) (1) (1) = 0 := rfl
      rw [hth] at hP hD
      have hP : va_P D vwCl [(bd 0, .inr (8, [.ref (bd 1), .ref (bd 2), .ref (bd 3), .ref (bd 4), .ref (bd 5), .ref (bd 6), .ref (bd 7), .int (iI (cn)), .ref (bd 8), .int (iI (mp)), .ref (bd 9), .int (iI (ty)), .int (iI (0)), .ref (bd 10), .ref (bd 11), .int (iI (sp)), .int (iI (ta)), .int (iI (ke)), .int (iI (on)), .int (iI (tw))])), (bd 1, .inl (cZ, 80, .inl (iA (Ir)))), (bd 2, .inl (cI, 160, .inl (iA (Vm)))), (bd 3, .inl (cZ, 8, .inl (iA (Ic)))), (bd 4, .inl (cI, 8, .inl (iA (Pm)))), (bd 11, .inl (cZ, 80, .inl (iA (Rm))))] H := hP
      have hD : va_D AA [(bd 0, .inr (8, [.ref (bd 1), .ref (bd 2), .ref (bd 3), .ref (bd 4), .ref (bd 5), .ref (bd 6), .ref (bd 7), .int (iI (cn)), .ref (bd 8), .int (iI (mp)), .ref (bd 9), .int (iI (ty)), .int (iI (0)), .ref (bd 10), .ref (bd 11), .int (iI (sp)), .int (iI (ta)), .int (iI (ke)), .int (iI (on)), .int (iI (tw))])), (bd 1, .inl (cZ, 80, .inl (iA (Ir)))), (bd 2, .inl (cI, 160, .inl (iA (Vm)))), (bd 3, .inl (cZ, 8, .inl (iA (Ic)))), (bd 4, .inl (cI, 8, .inl (iA (Pm)))), (bd 11, .inl (cZ, 80, .inl (iA (Rm))))] := hD
      rw [show bI (gkI (1) (1) (1) = 0) = 1 from bI_t hth]
      refine z_if_ne (tgt := 30) hx hb dX8_ancestors_25 (by decide) ⟨by omega, by omega⟩ (fun c_11 => ?_) (fun c_11 => ?_)
      · refine lv_aload_n hx hb dX8_ancestors_30 rfl (lv_at hl 0 rfl) ?_
        refine va_get (D := D) (ci := 8) (v := .ref (bd 1)) (C := RX8) (T := TX8) (N := 20) hx hb hts (fun _ h => List.mem_cons_of_mem _ (List.mem_append_right _ (h))) hown hK.1 hP 0 rfl rfl 0 (by decide) (hts (.fieldLink RX8 7 "ForeignKeyStoreModel" "isRow" "[Z") (List.mem_of_getElem? (i := 1) rfl)) (fun _ h9 => h9) rfl dX8_ancestors_31 ?_
        refine lv_iload_n hx hb dX8_ancestors_34 rfl (lv_at hl 1 rfl) ?_
        refine lv_iload_n hx hb dX8_ancestors_35 rfl (lv_at hl 2 rfl) ?_
        refine z_roS (As := [.int (iI (t)), .int (iI (k))]) (rest := [.ref (bd 1)]) ⟨hx, hb, hml, hown, hts⟩ (c_X8_row l D cI cZ cC (t) (k) ) (va_cwS 2 hts gX8_ancestors_X8_row rfl rfl rfl (by decide +kernel) ⟨Nat.le_of_ble_eq_true rfl, Nat.le_of_ble_eq_true rfl⟩) hP hK [] rfl rfl hl.1 rfl (Nat.le_of_ble_eq_true rfl) dX8_ancestors_36 ⟨by omega, by omega⟩ ?_
        refine z_zald hx hb hK.1 hP 1 1 rfl rfl (by omega) (by decide) dX8_ancestors_39 ?_
        have hb_12 := g_Ir ((20 * t + k)) (by omega) (by omega)
        refine z_if_ne (tgt := 46) hx hb dX8_ancestors_40 (by decide) ⟨by omega, by omega⟩ (fun c_13 => ?_) (fun c_13 => ?_)
        · have h_rb2 : 0 ≤ t * 20 + k ∧ t * 20 + k < 80 := by omega
          have h_hh : hasR V (t * 20 + k) := (rV_has g_R h_rb2).2 (by rw [show t * 20 + k = 20 * t + k by omega]; omega)
          refine lv_iconst (v := iI (0)) hx hb dX8_ancestors_46 rfl ?_
          refine lv_istore_n (lv' := [(3, .int (iI (0))), (0, .ref (bd 0)), (1, .int (iI (t))), (2, .int (iI (k)))]) hx hb dX8_ancestors_47 rfl hl (by decide) rfl (fun ls hl => ?_)
          have loop48 : ∀ (fu : Nat) (i : Nat) (ux : Int → Int), (g_i : i ≤ 80) → (g_fu : 80 < i + fu) → (g_c : ∀ j : Int, 0 ≤ j → j < (i : Int) → ux j = 0) → ∀ (H : Heap) (locs : List Loc), va_P D vwCl [(bd 0, .inr (8, [.ref (bd 1), .ref (bd 2), .ref (bd 3), .ref (bd 4), .ref (bd 5), .ref (bd 6), .ref (bd 7), .int (iI (cn)), .ref (bd 8), .int (iI (mp)), .ref (bd 9), .int (iI (ty)), .int (iI (0)), .ref (bd 10), .ref (bd 11), .int (iI (sp)), .int (iI (ta)), .int (iI (ke)), .int (iI (on)), .int (iI (tw))])), (bd 1, .inl (cZ, 80, .inl (iA (Ir)))), (bd 2, .inl (cI, 160, .inl (iA (Vm)))), (bd 3, .inl (cZ, 8, .inl (iA (Ic)))), (bd 4, .inl (cI, 8, .inl (iA (Pm)))), (bd 11, .inl (cZ, 80, .inl (iA (ux))))] H → va_D AA [(bd 0, .inr (8, [.ref (bd 1), .ref (bd 2), .ref (bd 3), .ref (bd 4), .ref (bd 5), .ref (bd 6), .ref (bd 7), .int (iI (cn)), .ref (bd 8), .int (iI (mp)), .ref (bd 9), .int (iI (ty)), .int (iI (0)), .ref (bd 10), .ref (bd 11), .int (iI (sp)), .int (iI (ta)), .int (iI (ke)), .int (iI (on)), .int (iI (tw))])), (bd 1, .inl (cZ, 80, .inl (iA (Ir)))), (bd 2, .inl (cI, 160, .inl (iA (Vm)))), (bd 3, .inl (cZ, 8, .inl (iA (Ic)))), (bd 4, .inl (cI, 8, .inl (iA (Pm)))), (bd 11, .inl (cZ, 80, .inl (iA (ux))))] → va_S AA s0.heap H locs → ∀ ls : Array Slot, lv_has ls 6 [(3, .int (iI ((i : Int)))), (0, .ref (bd 0)), (1, .int (iI (t))), (2, .int (iI (k)))] → W p0 l en0 (headSpec wsX8_ancestors ({ frames := 3, cells := 0, slots := 0, locals := 69 })).room s0 m0 args0 below0 meth0 c0 H locs 0 0 (QMi below0 D ((fun (u : (Int → Int) × Int) => [(bd 0, .inr (8, [.ref (bd 1), .ref (bd 2), .ref (bd 3), .ref (bd 4), .ref (bd 5), .ref (bd 6), .ref (bd 7), .int (iI (cn)), .ref (bd 8), .int (iI (mp)), .ref (bd 9), .int (iI (ty)), .int (iI (u.2)), .ref (bd 10), .ref (bd 11), .int (iI (sp)), .int (iI (ta)), .int (iI (ke)), .int (iI (on)), .int (iI (tw))])), (bd 1, .inl (cZ, 80, .inl (iA (Ir)))), (bd 2, .inl (cI, 160, .inl (iA (Vm)))), (bd 3, .inl (cZ, 8, .inl (iA (Ic)))), (bd 4, .inl (cI, 8, .inl (iA (Pm)))), (bd 11, .inl (cZ, 80, .inl (iA (u.1))))])) (fun v (u : (Int → Int) × Int) => u.2 = goK (0 ≤ t ∧ t < 4 ∧ 0 ≤ k ∧ k < 20) (True) (True) ∧ ib v ∧ (u.2 = 0 → v = @ite Int (hasR V (t * 20 + k)) (Classical.propDecidable _) ((bfs P V 81 0 (ftL P V (t * 20 + k) [] 2)).length : Int) (-2))) AA args0 s0 (0) (0)) (F0 m0 48 ls []) := by
            intro fu
            induction fu with
            | zero => intro i ux g_i g_fu g_c H locs hP hD hS ls hl; exfalso; omega
            | succ fu ih48 =>
              intro i ux g_i g_fu g_c H locs hP hD hS ls hl
              refine lv_iload_n hx hb dX8_ancestors_48 rfl (lv_at hl 0 rfl) ?_
              refine lv_bipush (v := iI (80)) hx hb dX8_ancestors_49 (by decide) ?_
              refine z_icmp_ge (tgt := 67) hx hb dX8_ancestors_51 (by decide) ⟨⟨by omega, by omega⟩, ⟨by omega, by omega⟩⟩ (fun c_14 => ?_) (fun c_14 => ?_)
              · have h_z0 : ∀ j : Int, 0 ≤ j → j < 80 → ux j = 0 := fun j h1 h2 => g_c j h1 (by omega)
                refine lv_aload_n hx hb dX8_ancestors_67 rfl (lv_at hl 1 rfl) ?_
                refine lv_iload_n hx hb dX8_ancestors_68 rfl (lv_at hl 2 rfl) ?_
                refine lv_iload_n hx hb dX8_ancestors_69 rfl (lv_at hl 3 rfl) ?_
                refine z_roS (As := [.int (iI (t)), .int (iI (k))]) (rest := [.ref (bd 0)]) ⟨hx, hb, hml, hown, hts⟩ (c_X8_row l D cI cZ cC (t) (k) ) (va_cwS 2 hts gX8_ancestors_X8_row rfl rfl rfl (by decide +kernel) ⟨Nat.le_of_ble_eq_true rfl, Nat.le_of_ble_eq_true rfl⟩) hP hK [] rfl rfl hl.1 rfl (Nat.le_of_ble_eq_true rfl) dX8_ancestors_70 ⟨by omega, by omega⟩ ?_
                refine z_muV (As := [.int (iI ((20 * t + k)))]) (rest := []) (wr := []) (ws2 := (fun (u : Int → Int) => [(bd 0, .inr (8, [.ref (bd 1), .ref (bd 2), .ref (bd 3), .ref (bd 4), .ref (bd 5), .ref (bd 6), .ref (bd 7), .int (iI (cn)), .ref (bd 8), .int (iI (mp)), .ref (bd 9), .int (iI (ty)), .int (iI (0)), .ref (bd 10), .ref (bd 11), .int (iI (sp)), .int (iI (ta)), .int (iI (ke)), .int (iI (on)), .int (iI (tw))])), (bd 1, .inl (cZ, 80, .inl (iA (Ir)))), (bd 2, .inl (cI, 160, .inl (iA (Vm)))), (bd 3, .inl (cZ, 8, .inl (iA (Ic)))), (bd 4, .inl (cI, 8, .inl (iA (Pm)))), (bd 11, .inl (cZ, 80, .inl (iA (u))))])) ⟨hx, hb, hml, hown, hts⟩ (c_X8_reaches l D cI cZ cC H.size (bd) (cn) (mp) (ty) (0) (sp) (ta) (ke) (on) (tw) (Ir) (Vm) (V) (Ic) (Pm) (Am) (Dm) (P) (Ac) (Mo) (ux) ((20 * t + k)) (by first | assumption | omega) (by first | assumption | omega) ((fun j h1 h2 => Or.inl (h_z0 j h1 h2))) (⟨by omega, by omega⟩)) (cwV 1 hts gX8_ancestors_X8_reaches rfl rfl rfl (by decide +kernel) ⟨Nat.le_of_ble_eq_true rfl, Nat.le_of_ble_eq_true rfl⟩) hP hD hS hA hK [0, 1, 2, 3, 4, 5] [] [0, 1, 2, 3, 4, 5] rfl (by decide) rfl (by decide) (by decide) (by decide) (fun _ => rfl) 0 8 rfl rfl rfl rfl hl.1 rfl (Nat.le_of_ble_eq_true rfl) dX8_ancestors_73 ⟨by omega, by omega⟩ (fun r_16 u H locs hq_15 hP hD hS => ?_)
                obtain ⟨Rm_17, rfl⟩ : ∃ z, z = u := ⟨_, rfl⟩
                have hP : va_P D vwCl [(bd 0, .inr (8, [.ref (bd 1), .ref (bd 2), .ref (bd 3), .ref (bd 4), .ref (bd 5), .ref (bd 6), .ref (bd 7), .int (iI (cn)), .ref (bd 8), .int (iI (mp)), .ref (bd 9), .int (iI (ty)), .int (iI (0)), .ref (bd 10), .ref (bd 11), .int (iI (sp)), .int (iI (ta)), .int (iI (ke)), .int (iI (on)), .int (iI (tw))])), (bd 1, .inl (cZ, 80, .inl (iA (Ir)))), (bd 2, .inl (cI, 160, .inl (iA (Vm)))), (bd 3, .inl (cZ, 8, .inl (iA (Ic)))), (bd 4, .inl (cI, 8, .inl (iA (Pm)))), (bd 11, .inl (cZ, 80, .inl (iA (Rm_17))))] H := hP
                have hD : va_D AA [(bd 0, .inr (8, [.ref (bd 1), .ref (bd 2), .ref (bd 3), .ref (bd 4), .ref (bd 5), .ref (bd 6), .ref (bd 7), .int (iI (cn)), .ref (bd 8), .int (iI (mp)), .ref (bd 9), .int (iI (ty)), .int (iI (0)), .ref (bd 10), .ref (bd 11), .int (iI (sp)), .int (iI (ta)), .int (iI (ke)), .int (iI (on)), .int (iI (tw))])), (bd 1, .inl (cZ, 80, .inl (iA (Ir)))), (bd 2, .inl (cI, 160, .inl (iA (Vm)))), (bd 3, .inl (cZ, 8, .inl (iA (Ic)))), (bd 4, .inl (cI, 8, .inl (iA (Pm)))), (bd 11, .inl (cZ, 80, .inl (iA (Rm_17))))] := hD
                try dsimp only at hq_15
                obtain ⟨h_y1, h_y2⟩ := hq_15
                rw [show 20 * t + k = t * 20 + k by omega] at h_y2
                have h_y3 := anB_0 h_z0 h_y2
                have h_sb := sum01_b 80 (fun j a b => h_y3.1.1 j a b)
                refine lv_istore_n (lv' := [(3, .int (iI (r_16))), (0, .ref (bd 0)), (1, .int (iI (t))), (2, .int (iI (k)))]) hx hb dX8_ancestors_76 rfl hl (by decide) rfl (fun ls hl => ?_)
                have loop77 : ∀ (fu : Nat) (mw : Int) (uw : Int → Int), (g_w : mw = 0 ∨ mw = 1) → (g_f2 : 80 - sumN uw 80 + mw < (fu : Int)) → (g_sb : 0 ≤ sumN uw 80 ∧ sumN uw 80 ≤ 80) → (g_B : anB P V (t * 20 + k) uw) → (g_C2 : mw = 0 → anC P V uw) → ∀ (H : Heap) (locs : List Loc), va_P D vwCl [(bd 0, .inr (8, [.ref (bd 1), .ref (bd 2), .ref (bd 3), .ref (bd 4), .ref (bd 5), .ref (bd 6), .ref (bd 7), .int (iI (cn)), .ref (bd 8), .int (iI (mp)), .ref (bd 9), .int (iI (ty)), .int (iI (0)), .ref (bd 10), .ref (bd 11), .int (iI (sp)), .int (iI (ta)), .int (iI (ke)), .int (iI (on)), .int (iI (tw))])), (bd 1, .inl (cZ, 80, .inl (iA (Ir)))), (bd 2, .inl (cI, 160, .inl (iA (Vm)))), (bd 3, .inl (cZ, 8, .inl (iA (Ic)))), (bd 4, .inl (cI, 8, .inl (iA (Pm)))), (bd 11, .inl (cZ, 80, .inl (iA (uw))))] H → va_D AA [(bd 0, .inr (8, [.ref (bd 1), .ref (bd 2), .ref (bd 3), .ref (bd 4), .ref (bd 5), .ref (bd 6), .ref (bd 7), .int (iI (cn)), .ref (bd 8), .int (iI (mp)), .ref (bd 9), .int (iI (ty)), .int (iI (0)), .ref (bd 10), .ref (bd 11), .int (iI (sp)), .int (iI (ta)), .int (iI (ke)), .int (iI (on)), .int (iI (tw))])), (bd 1, .inl (cZ, 80, .inl (iA (Ir)))), (bd 2, .inl (cI, 160, .inl (iA (Vm)))), (bd 3, .inl (cZ, 8, .inl (iA (Ic)))), (bd 4, .inl (cI, 8, .inl (iA (Pm)))), (bd 11, .inl (cZ, 80, .inl (iA (uw))))] → va_S AA s0.heap H locs → ∀ ls : Array Slot, lv_has ls 6 [(3, .int (iI (mw))), (0, .ref (bd 0)), (1, .int (iI (t))), (2, .int (iI (k)))] → W p0 l en0 (headSpec wsX8_ancestors ({ frames := 3, cells := 0, slots := 0, locals := 69 })).room s0 m0 args0 below0 meth0 c0 H locs 0 0 (QMi below0 D ((fun (u : (Int → Int) × Int) => [(bd 0, .inr (8, [.ref (bd 1), .ref (bd 2), .ref (bd 3), .ref (bd 4), .ref (bd 5), .ref (bd 6), .ref (bd 7), .int (iI (cn)), .ref (bd 8), .int (iI (mp)), .ref (bd 9), .int (iI (ty)), .int (iI (u.2)), .ref (bd 10), .ref (bd 11), .int (iI (sp)), .int (iI (ta)), .int (iI (ke)), .int (iI (on)), .int (iI (tw))])), (bd 1, .inl (cZ, 80, .inl (iA (Ir)))), (bd 2, .inl (cI, 160, .inl (iA (Vm)))), (bd 3, .inl (cZ, 8, .inl (iA (Ic)))), (bd 4, .inl (cI, 8, .inl (iA (Pm)))), (bd 11, .inl (cZ, 80, .inl (iA (u.1))))])) (fun v (u : (Int → Int) × Int) => u.2 = goK (0 ≤ t ∧ t < 4 ∧ 0 ≤ k ∧ k < 20) (True) (True) ∧ ib v ∧ (u.2 = 0 → v = @ite Int (hasR V (t * 20 + k)) (Classical.propDecidable _) ((bfs P V 81 0 (ftL P V (t * 20 + k) [] 2)).length : Int) (-2))) AA args0 s0 (0) (0)) (F0 m0 77 ls []) := by
                  intro fu
                  induction fu with
                  | zero => intro mw uw g_w g_f2 g_sb g_B g_C2 H locs hP hD hS ls hl; exfalso; omega
                  | succ fu ih77 =>
                    intro mw uw g_w g_f2 g_sb g_B g_C2 H locs hP hD hS ls hl
                    have g_u := g_B.1
                    refine lv_iload_n hx hb dX8_ancestors_77 rfl (lv_at hl 0 rfl) ?_
                    refine z_if_eq (tgt := 131) hx hb dX8_ancestors_78 (by decide) ⟨by omega, by omega⟩ (fun c_18 => ?_) (fun c_18 => ?_)
                    · refine lv_iconst (v := iI (0)) hx hb dX8_ancestors_131 rfl ?_
                      refine lv_istore (lv' := [(4, .int (iI (0))), (3, .int (iI (mw))), (0, .ref (bd 0)), (1, .int (iI (t))), (2, .int (iI (k)))]) hx hb dX8_ancestors_132 hl (by decide) rfl (fun ls hl => ?_)
                      refine lv_iconst (v := iI (0)) hx hb dX8_ancestors_134 rfl ?_
                      refine lv_istore (lv' := [(5, .int (iI (0))), (4, .int (iI (0))), (3, .int (iI (mw))), (0, .ref (bd 0)), (1, .int (iI (t))), (2, .int (iI (k)))]) hx hb dX8_ancestors_135 hl (by decide) rfl (fun ls hl => ?_)
                      have loop137 : ∀ (fu : Nat) (i : Nat) (cnt : Int), (g_i : i ≤ 80) → (g_f4 : 80 < i + fu) → (g_cn : cnt = sumN uw i) → ∀ (H : Heap) (locs : List Loc), va_P D vwCl [(bd 0, .inr (8, [.ref (bd 1), .ref (bd 2), .ref (bd 3), .ref (bd 4), .ref (bd 5), .ref (bd 6), .ref (bd 7), .int (iI (cn)), .ref (bd 8), .int (iI (mp)), .ref (bd 9), .int (iI (ty)), .int (iI (0)), .ref (bd 10), .ref (bd 11), .int (iI (sp)), .int (iI (ta)), .int (iI (ke)), .int (iI (on)), .int (iI (tw))])), (bd 1, .inl (cZ, 80, .inl (iA (Ir)))), (bd 2, .inl (cI, 160, .inl (iA (Vm)))), (bd 3, .inl (cZ, 8, .inl (iA (Ic)))), (bd 4, .inl (cI, 8, .inl (iA (Pm)))), (bd 11, .inl (cZ, 80, .inl (iA (uw))))] H → va_D AA [(bd 0, .inr (8, [.ref (bd 1), .ref (bd 2), .ref (bd 3), .ref (bd 4), .ref (bd 5), .ref (bd 6), .ref (bd 7), .int (iI (cn)), .ref (bd 8), .int (iI (mp)), .ref (bd 9), .int (iI (ty)), .int (iI (0)), .ref (bd 10), .ref (bd 11), .int (iI (sp)), .int (iI (ta)), .int (iI (ke)), .int (iI (on)), .int (iI (tw))])), (bd 1, .inl (cZ, 80, .inl (iA (Ir)))), (bd 2, .inl (cI, 160, .inl (iA (Vm)))), (bd 3, .inl (cZ, 8, .inl (iA (Ic)))), (bd 4, .inl (cI, 8, .inl (iA (Pm)))), (bd 11, .inl (cZ, 80, .inl (iA (uw))))] → va_S AA s0.heap H locs → ∀ ls : Array Slot, lv_has ls 6 [(5, .int (iI ((i : Int)))), (4, .int (iI (cnt))), (0, .ref (bd 0))] → W p0 l en0 (headSpec wsX8_ancestors ({ frames := 3, cells := 0, slots := 0, locals := 69 })).room s0 m0 args0 below0 meth0 c0 H locs 0 0 (QMi below0 D ((fun (u : (Int → Int) × Int) => [(bd 0, .inr (8, [.ref (bd 1), .ref (bd 2), .ref (bd 3), .ref (bd 4), .ref (bd 5), .ref (bd 6), .ref (bd 7), .int (iI (cn)), .ref (bd 8), .int (iI (mp)), .ref (bd 9), .int (iI (ty)), .int (iI (u.2)), .ref (bd 10), .ref (bd 11), .int (iI (sp)), .int (iI (ta)), .int (iI (ke)), .int (iI (on)), .int (iI (tw))])), (bd 1, .inl (cZ, 80, .inl (iA (Ir)))), (bd 2, .inl (cI, 160, .inl (iA (Vm)))), (bd 3, .inl (cZ, 8, .inl (iA (Ic)))), (bd 4, .inl (cI, 8, .inl (iA (Pm)))), (bd 11, .inl (cZ, 80, .inl (iA (u.1))))])) (fun v (u : (Int → Int) × Int) => u.2 = goK (0 ≤ t ∧ t < 4 ∧ 0 ≤ k ∧ k < 20) (True) (True) ∧ ib v ∧ (u.2 = 0 → v = @ite Int (hasR V (t * 20 + k)) (Classical.propDecidable _) ((bfs P V 81 0 (ftL P V (t * 20 + k) [] 2)).length : Int) (-2))) AA args0 s0 (0) (0)) (F0 m0 137 ls []) := by
                        intro fu
                        induction fu with
                        | zero => intro i cnt g_i g_f4 g_cn H locs hP hD hS ls hl; exfalso; omega
                        | succ fu ih137 =>
                          intro i cnt g_i g_f4 g_cn H locs hP hD hS ls hl
                          refine lv_iload hx hb dX8_ancestors_137 (lv_at hl 0 rfl) ?_
                          refine lv_bipush (v := iI (80)) hx hb dX8_ancestors_139 (by decide) ?_
                          refine z_icmp_ge (tgt := 170) hx hb dX8_ancestors_141 (by decide) ⟨⟨by omega, by omega⟩, ⟨by omega, by omega⟩⟩ (fun c_19 => ?_) (fun c_19 => ?_)
                          · refine lv_iload hx hb dX8_ancestors_170 (lv_at hl 1 rfl) ?_
                            refine z_mret ((uw, 0)) hx hb hr hlocks dX8_ancestors_172 hP hD hS ?_
                            have h_al := anc_len (u := uw) h_rb2 g_B (g_C2 (by omega))
                            rw [show cnt = sumN uw 80 by rw [g_cn]; congr 1; omega]
                            exact ⟨(goK_0 (by omega) trivial trivial).symm, ⟨by omega, by omega⟩, fun _ => by rw [if_pos h_hh]; exact h_al⟩
                          · refine lv_iload hx hb dX8_ancestors_144 (lv_at hl 1 rfl) ?_
                            refine lv_aload_n hx hb dX8_ancestors_146 rfl (lv_at hl 2 rfl) ?_
                            refine va_get (D := D) (ci := 8) (v := .ref (bd 11)) (C := RX8) (T := TX8) (N := 20) hx hb hts (fun _ h => List.mem_cons_of_mem _ (List.mem_append_right _ (h))) hown hK.1 hP 0 rfl rfl 14 (by decide) (hts (.fieldLink RX8 42 "ForeignKeyStoreModel" "isReached" "[Z") (List.mem_of_getElem? (i := 2) rfl)) (fun _ h9 => h9) rfl dX8_ancestors_147 ?_
                            refine lv_iload hx hb dX8_ancestors_150 (lv_at hl 0 rfl) ?_
                            refine z_zald hx hb hK.1 hP 5 1 rfl rfl (by omega) (by decide) dX8_ancestors_152 ?_
                            have hb_20 := g_u ((i : Int)) (by omega) (by omega)
                            refine z_if_eq (tgt := 160) hx hb dX8_ancestors_153 (by decide) ⟨by omega, by omega⟩ (fun c_21 => ?_) (fun c_21 => ?_)
                            · refine lv_iconst (v := iI (0)) hx hb dX8_ancestors_160 rfl ?_
                              refine z_iadd hx hb dX8_ancestors_161 ?_
                              refine lv_istore (lv' := [(4, .int (iI ((cnt + 0)))), (5, .int (iI ((i : Int)))), (0, .ref (bd 0))]) hx hb dX8_ancestors_162 hl (by decide) rfl (fun ls hl => ?_)
                              refine lv_iinc (v := iI ((i : Int) + 1)) (lv' := [(5, .int (iI ((i : Int) + 1))), (4, .int (iI ((cnt + 0)))), (0, .ref (bd 0))]) hx hb dX8_ancestors_164 hl (k := 1) rfl (iI_add ((i : Int)) (1)) (by decide) rfl (fun ls hl => ?_)
                              refine lv_goto (tgt := 137) hx hb dX8_ancestors_167 (by decide) ?_
                              exact ih137 (i + 1) _ (by omega) (by omega) (by rw [sumN, ← g_cn]; omega) _ _ hP hD hS _ (lv_sub hl [0, 1, 2] rfl)
                            · refine lv_iconst (v := iI (1)) hx hb dX8_ancestors_156 rfl ?_
                              refine lv_goto (tgt := 161) hx hb dX8_ancestors_157 (by decide) ?_
                              refine z_iadd hx hb dX8_ancestors_161 ?_
                              refine lv_istore (lv' := [(4, .int (iI ((cnt + 1)))), (5, .int (iI ((i : Int)))), (0, .ref (bd 0))]) hx hb dX8_ancestors_162 hl (by decide) rfl (fun ls hl => ?_)
                              refine lv_iinc (v := iI ((i : Int) + 1)) (lv' := [(5, .int (iI ((i : Int) + 1))), (4, .int (iI ((cnt + 1)))), (0, .ref (bd 0))]) hx hb dX8_ancestors_164 hl (k := 1) rfl (iI_add ((i : Int)) (1)) (by decide) rfl (fun ls hl => ?_)
                              refine lv_goto (tgt := 137) hx hb dX8_ancestors_167 (by decide) ?_
                              exact ih137 (i + 1) _ (by omega) (by omega) (by rw [sumN, ← g_cn]; omega) _ _ hP hD hS _ (lv_sub hl [0, 1, 2] rfl)
                      exact loop137 81 0 0 (by omega) (by omega) rfl _ _ hP hD hS _ (lv_sub hl [0, 1, 3] rfl)
                    · refine lv_iconst (v := iI (0)) hx hb dX8_ancestors_81 rfl ?_
                      refine lv_istore_n (lv' := [(3, .int (iI (0))), (0, .ref (bd 0)), (1, .int (iI (t))), (2, .int (iI (k)))]) hx hb dX8_ancestors_82 rfl hl (by decide) rfl (fun ls hl => ?_)
                      refine lv_iconst (v := iI (0)) hx hb dX8_ancestors_83 rfl ?_
                      refine lv_istore (lv' := [(4, .int (iI (0))), (3, .int (iI (0))), (0, .ref (bd 0)), (1, .int (iI (t))), (2, .int (iI (k)))]) hx hb dX8_ancestors_84 hl (by decide) rfl (fun ls hl => ?_)
                      have loop86 : ∀ (fu : Nat) (i : Nat) (mv : Int) (uy : Int → Int), (g_i : i ≤ 80) → (g_f3 : 80 < i + fu) → (g_v : mv = 0 ∨ mv = 1) → (g_p : anL P V (t * 20 + k) uw uy mv i) → ∀ (H : Heap) (locs : List Loc), va_P D vwCl [(bd 0, .inr (8, [.ref (bd 1), .ref (bd 2), .ref (bd 3), .ref (bd 4), .ref (bd 5), .ref (bd 6), .ref (bd 7), .int (iI (cn)), .ref (bd 8), .int (iI (mp)), .ref (bd 9), .int (iI (ty)), .int (iI (0)), .ref (bd 10), .ref (bd 11), .int (iI (sp)), .int (iI (ta)), .int (iI (ke)), .int (iI (on)), .int (iI (tw))])), (bd 1, .inl (cZ, 80, .inl (iA (Ir)))), (bd 2, .inl (cI, 160, .inl (iA (Vm)))), (bd 3, .inl (cZ, 8, .inl (iA (Ic)))), (bd 4, .inl (cI, 8, .inl (iA (Pm)))), (bd 11, .inl (cZ, 80, .inl (iA (uy))))] H → va_D AA [(bd 0, .inr (8, [.ref (bd 1), .ref (bd 2), .ref (bd 3), .ref (bd 4), .ref (bd 5), .ref (bd 6), .ref (bd 7), .int (iI (cn)), .ref (bd 8), .int (iI (mp)), .ref (bd 9), .int (iI (ty)), .int (iI (0)), .ref (bd 10), .ref (bd 11), .int (iI (sp)), .int (iI (ta)), .int (iI (ke)), .int (iI (on)), .int (iI (tw))])), (bd 1, .inl (cZ, 80, .inl (iA (Ir)))), (bd 2, .inl (cI, 160, .inl (iA (Vm)))), (bd 3, .inl (cZ, 8, .inl (iA (Ic)))), (bd 4, .inl (cI, 8, .inl (iA (Pm)))), (bd 11, .inl (cZ, 80, .inl (iA (uy))))] → va_S AA s0.heap H locs → ∀ ls : Array Slot, lv_has ls 6 [(4, .int (iI ((i : Int)))), (3, .int (iI (mv))), (0, .ref (bd 0)), (1, .int (iI (t))), (2, .int (iI (k)))] → W p0 l en0 (headSpec wsX8_ancestors ({ frames := 3, cells := 0, slots := 0, locals := 69 })).room s0 m0 args0 below0 meth0 c0 H locs 0 0 (QMi below0 D ((fun (u : (Int → Int) × Int) => [(bd 0, .inr (8, [.ref (bd 1), .ref (bd 2), .ref (bd 3), .ref (bd 4), .ref (bd 5), .ref (bd 6), .ref (bd 7), .int (iI (cn)), .ref (bd 8), .int (iI (mp)), .ref (bd 9), .int (iI (ty)), .int (iI (u.2)), .ref (bd 10), .ref (bd 11), .int (iI (sp)), .int (iI (ta)), .int (iI (ke)), .int (iI (on)), .int (iI (tw))])), (bd 1, .inl (cZ, 80, .inl (iA (Ir)))), (bd 2, .inl (cI, 160, .inl (iA (Vm)))), (bd 3, .inl (cZ, 8, .inl (iA (Ic)))), (bd 4, .inl (cI, 8, .inl (iA (Pm)))), (bd 11, .inl (cZ, 80, .inl (iA (u.1))))])) (fun v (u : (Int → Int) × Int) => u.2 = goK (0 ≤ t ∧ t < 4 ∧ 0 ≤ k ∧ k < 20) (True) (True) ∧ ib v ∧ (u.2 = 0 → v = @ite Int (hasR V (t * 20 + k)) (Classical.propDecidable _) ((bfs P V 81 0 (ftL P V (t * 20 + k) [] 2)).length : Int) (-2))) AA args0 s0 (0) (0)) (F0 m0 86 ls []) := by
                        intro fu
                        induction fu with
                        | zero => intro i mv uy g_i g_f3 g_v g_p H locs hP hD hS ls hl; exfalso; omega
                        | succ fu ih86 =>
                          intro i mv uy g_i g_f3 g_v g_p H locs hP hD hS ls hl
                          have g_u := g_p.1.1
                          refine lv_iload hx hb dX8_ancestors_86 (lv_at hl 0 rfl) ?_
                          refine lv_bipush (v := iI (80)) hx hb dX8_ancestors_88 (by decide) ?_
                          refine z_icmp_ge (tgt := 128) hx hb dX8_ancestors_90 (by decide) ⟨⟨by omega, by omega⟩, ⟨by omega, by omega⟩⟩ (fun c_22 => ?_) (fun c_22 => ?_)
                          · refine lv_goto (tgt := 77) hx hb dX8_ancestors_128 (by decide) ?_
                            have h_sb := sum01_b 80 (fun j a b => g_p.1.1 j a b)
                            have h_cl : mv = 0 → anC P V uy := fun q x x1 x2 x3 => (g_p.2.1 q).2 x x1 (by omega) x3
                            have h_s0 : mv = 0 → sumN uy 80 = sumN uw 80 := fun q => by rw [(g_p.2.1 q).1]
                            have h_s1 := g_p.2.2
                            exact ih77 _ _ g_v (by omega) ⟨by omega, by omega⟩ g_p.1 h_cl _ _ hP hD hS _ (lv_sub hl [1, 2, 3, 4] rfl)
                          · refine lv_aload_n hx hb dX8_ancestors_93 rfl (lv_at hl 2 rfl) ?_
                            refine va_get (D := D) (ci := 8) (v := .ref (bd 11)) (C := RX8) (T := TX8) (N := 20) hx hb hts (fun _ h => List.mem_cons_of_mem _ (List.mem_append_right _ (h))) hown hK.1 hP 0 rfl rfl 14 (by decide) (hts (.fieldLink RX8 42 "ForeignKeyStoreModel" "isReached" "[Z") (List.mem_of_getElem? (i := 2) rfl)) (fun _ h9 => h9) rfl dX8_ancestors_94 ?_
                            refine lv_iload hx hb dX8_ancestors_97 (lv_at hl 0 rfl) ?_
                            refine z_zald hx hb hK.1 hP 5 1 rfl rfl (by omega) (by decide) dX8_ancestors_99 ?_
                            have hb_23 := g_u ((i : Int)) (by omega) (by omega)
                            refine z_if_eq (tgt := 112) hx hb dX8_ancestors_100 (by decide) ⟨by omega, by omega⟩ (fun c_24 => ?_) (fun c_24 => ?_)
                            · refine lv_iload_n hx hb dX8_ancestors_112 rfl (lv_at hl 1 rfl) ?_
                              refine z_if_eq (tgt := 120) hx hb dX8_ancestors_113 (by decide) ⟨by omega, by omega⟩ (fun c_25 => ?_) (fun c_25 => ?_)
                              · refine lv_iconst (v := iI (0)) hx hb dX8_ancestors_120 rfl ?_
                                refine lv_istore_n (lv' := [(3, .int (iI (0))), (4, .int (iI ((i : Int)))), (0, .ref (bd 0)), (1, .int (iI (t))), (2, .int (iI (k)))]) hx hb dX8_ancestors_121 rfl hl (by decide) rfl (fun ls hl => ?_)
                                refine lv_iinc (v := iI ((i : Int) + 1)) (lv' := [(4, .int (iI ((i : Int) + 1))), (3, .int (iI (0))), (0, .ref (bd 0)), (1, .int (iI (t))), (2, .int (iI (k)))]) hx hb dX8_ancestors_122 hl (k := 1) rfl (iI_add ((i : Int)) (1)) (by decide) rfl (fun ls hl => ?_)
                                refine lv_goto (tgt := 86) hx hb dX8_ancestors_125 (by decide) ?_
                                exact ih86 (i + 1) _ _ (by omega) (by omega) (Or.inl rfl) (by have h9 := anL_n g_p (by omega); rw [show mv = 0 by omega] at h9; exact h9) _ _ hP hD hS _ (lv_sub hl [0, 1, 2, 3, 4] rfl)
                              · refine lv_iconst (v := iI (1)) hx hb dX8_ancestors_116 rfl ?_
                                refine lv_goto (tgt := 121) hx hb dX8_ancestors_117 (by decide) ?_
                                refine lv_istore_n (lv' := [(3, .int (iI (1))), (4, .int (iI ((i : Int)))), (0, .ref (bd 0)), (1, .int (iI (t))), (2, .int (iI (k)))]) hx hb dX8_ancestors_121 rfl hl (by decide) rfl (fun ls hl => ?_)
                                refine lv_iinc (v := iI ((i : Int) + 1)) (lv' := [(4, .int (iI ((i : Int) + 1))), (3, .int (iI (1))), (0, .ref (bd 0)), (1, .int (iI (t))), (2, .int (iI (k)))]) hx hb dX8_ancestors_122 hl (k := 1) rfl (iI_add ((i : Int)) (1)) (by decide) rfl (fun ls hl => ?_)
                                refine lv_goto (tgt := 86) hx hb dX8_ancestors_125 (by decide) ?_
                                exact ih86 (i + 1) _ _ (by omega) (by omega) (Or.inr rfl) (by have h9 := anL_n g_p (by omega); rw [show mv = 1 by omega] at h9; exact h9) _ _ hP hD hS _ (lv_sub hl [0, 1, 2, 3, 4] rfl)
                            · refine lv_aload_n hx hb dX8_ancestors_103 rfl (lv_at hl 2 rfl) ?_
                              refine lv_iload hx hb dX8_ancestors_104 (lv_at hl 0 rfl) ?_
                              refine z_muV (As := [.int (iI ((i : Int)))]) (rest := []) (wr := []) (ws2 := (fun (u : Int → Int) => [(bd 0, .inr (8, [.ref (bd 1), .ref (bd 2), .ref (bd 3), .ref (bd 4), .ref (bd 5), .ref (bd 6), .ref (bd 7), .int (iI (cn)), .ref (bd 8), .int (iI (mp)), .ref (bd 9), .int (iI (ty)), .int (iI (0)), .ref (bd 10), .ref (bd 11), .int (iI (sp)), .int (iI (ta)), .int (iI (ke)), .int (iI (on)), .int (iI (tw))])), (bd 1, .inl (cZ, 80, .inl (iA (Ir)))), (bd 2, .inl (cI, 160, .inl (iA (Vm)))), (bd 3, .inl (cZ, 8, .inl (iA (Ic)))), (bd 4, .inl (cI, 8, .inl (iA (Pm)))), (bd 11, .inl (cZ, 80, .inl (iA (u))))])) ⟨hx, hb, hml, hown, hts⟩ (c_X8_reaches l D cI cZ cC H.size (bd) (cn) (mp) (ty) (0) (sp) (ta) (ke) (on) (tw) (Ir) (Vm) (V) (Ic) (Pm) (Am) (Dm) (P) (Ac) (Mo) (uy) ((i : Int)) (by first | assumption | omega) (by first | assumption | omega) (g_u) (⟨by omega, by omega⟩)) (cwV 1 hts gX8_ancestors_X8_reaches rfl rfl rfl (by decide +kernel) ⟨Nat.le_of_ble_eq_true rfl, Nat.le_of_ble_eq_true rfl⟩) hP hD hS hA hK [0, 1, 2, 3, 4, 5] [] [0, 1, 2, 3, 4, 5] rfl (by decide) rfl (by decide) (by decide) (by decide) (fun _ => rfl) 0 8 rfl rfl rfl rfl hl.1 rfl (Nat.le_of_ble_eq_true rfl) dX8_ancestors_106 ⟨by omega, by omega⟩ (fun r_27 u H locs hq_26 hP hD hS => ?_)
                              obtain ⟨Rm_28, rfl⟩ : ∃ z, z = u := ⟨_, rfl⟩
                              have hP : va_P D vwCl [(bd 0, .inr (8, [.ref (bd 1), .ref (bd 2), .ref (bd 3), .ref (bd 4), .ref (bd 5), .ref (bd 6), .ref (bd 7), .int (iI (cn)), .ref (bd 8), .int (iI (mp)), .ref (bd 9), .int (iI (ty)), .int (iI (0)), .ref (bd 10), .ref (bd 11), .int (iI (sp)), .int (iI (ta)), .int (iI (ke)), .int (iI (on)), .int (iI (tw))])), (bd 1, .inl (cZ, 80, .inl (iA (Ir)))), (bd 2, .inl (cI, 160, .inl (iA (Vm)))), (bd 3, .inl (cZ, 8, .inl (iA (Ic)))), (bd 4, .inl (cI, 8, .inl (iA (Pm)))), (bd 11, .inl (cZ, 80, .inl (iA (Rm_28))))] H := hP
                              have hD : va_D AA [(bd 0, .inr (8, [.ref (bd 1), .ref (bd 2), .ref (bd 3), .ref (bd 4), .ref (bd 5), .ref (bd 6), .ref (bd 7), .int (iI (cn)), .ref (bd 8), .int (iI (mp)), .ref (bd 9), .int (iI (ty)), .int (iI (0)), .ref (bd 10), .ref (bd 11), .int (iI (sp)), .int (iI (ta)), .int (iI (ke)), .int (iI (on)), .int (iI (tw))])), (bd 1, .inl (cZ, 80, .inl (iA (Ir)))), (bd 2, .inl (cI, 160, .inl (iA (Vm)))), (bd 3, .inl (cZ, 8, .inl (iA (Ic)))), (bd 4, .inl (cI, 8, .inl (iA (Pm)))), (bd 11, .inl (cZ, 80, .inl (iA (Rm_28))))] := hD
                              try dsimp only at hq_26
                              obtain ⟨h_r1, h_r2⟩ := hq_26
                              refine z_if_ne (tgt := 116) hx hb dX8_ancestors_109 (by decide) ⟨by omega, by omega⟩ (fun c_29 => ?_) (fun c_29 => ?_)
                              · refine lv_iconst (v := iI (1)) hx hb dX8_ancestors_116 rfl ?_
                                refine lv_goto (tgt := 121) hx hb dX8_ancestors_117 (by decide) ?_
                                refine lv_istore_n (lv' := [(3, .int (iI (1))), (4, .int (iI ((i : Int)))), (0, .ref (bd 0)), (1, .int (iI (t))), (2, .int (iI (k)))]) hx hb dX8_ancestors_121 rfl hl (by decide) rfl (fun ls hl => ?_)
                                refine lv_iinc (v := iI ((i : Int) + 1)) (lv' := [(4, .int (iI ((i : Int) + 1))), (3, .int (iI (1))), (0, .ref (bd 0)), (1, .int (iI (t))), (2, .int (iI (k)))]) hx hb dX8_ancestors_122 hl (k := 1) rfl (iI_add ((i : Int)) (1)) (by decide) rfl (fun ls hl => ?_)
                                refine lv_goto (tgt := 86) hx hb dX8_ancestors_125 (by decide) ?_
                                exact ih86 (i + 1) 1 _ (by omega) (by omega) (Or.inr rfl) (anL_r g_p (by omega) (by omega) h_r2 h_r1 g_v (fun _ => rfl) (fun q => by omega)) _ _ hP hD hS _ (lv_sub hl [0, 1, 2, 3, 4] rfl)
                              · refine lv_iload_n hx hb dX8_ancestors_112 rfl (lv_at hl 1 rfl) ?_
                                refine z_if_eq (tgt := 120) hx hb dX8_ancestors_113 (by decide) ⟨by omega, by omega⟩ (fun c_30 => ?_) (fun c_30 => ?_)
                                · refine lv_iconst (v := iI (0)) hx hb dX8_ancestors_120 rfl ?_
                                  refine lv_istore_n (lv' := [(3, .int (iI (0))), (4, .int (iI ((i : Int)))), (0, .ref (bd 0)), (1, .int (iI (t))), (2, .int (iI (k)))]) hx hb dX8_ancestors_121 rfl hl (by decide) rfl (fun ls hl => ?_)
                                  refine lv_iinc (v := iI ((i : Int) + 1)) (lv' := [(4, .int (iI ((i : Int) + 1))), (3, .int (iI (0))), (0, .ref (bd 0)), (1, .int (iI (t))), (2, .int (iI (k)))]) hx hb dX8_ancestors_122 hl (k := 1) rfl (iI_add ((i : Int)) (1)) (by decide) rfl (fun ls hl => ?_)
                                  refine lv_goto (tgt := 86) hx hb dX8_ancestors_125 (by decide) ?_
                                  exact ih86 (i + 1) 0 _ (by omega) (by omega) (Or.inl rfl) (anL_r g_p (by omega) (by omega) h_r2 h_r1 g_v (fun q => by omega) (fun _ => by omega)) _ _ hP hD hS _ (lv_sub hl [0, 1, 2, 3, 4] rfl)
                                · refine lv_iconst (v := iI (1)) hx hb dX8_ancestors_116 rfl ?_
                                  refine lv_goto (tgt := 121) hx hb dX8_ancestors_117 (by decide) ?_
                                  refine lv_istore_n (lv' := [(3, .int (iI (1))), (4, .int (iI ((i : Int)))), (0, .ref (bd 0)), (1, .int (iI (t))), (2, .int (iI (k)))]) hx hb dX8_ancestors_121 rfl hl (by decide) rfl (fun ls hl => ?_)
                                  refine lv_iinc (v := iI ((i : Int) + 1)) (lv' := [(4, .int (iI ((i : Int) + 1))), (3, .int (iI (1))), (0, .ref (bd 0)), (1, .int (iI (t))), (2, .int (iI (k)))]) hx hb dX8_ancestors_122 hl (k := 1) rfl (iI_add ((i : Int)) (1)) (by decide) rfl (fun ls hl => ?_)
                                  refine lv_goto (tgt := 86) hx hb dX8_ancestors_125 (by decide) ?_
                                  exact ih86 (i + 1) 1 _ (by omega) (by omega) (Or.inr rfl) (anL_r g_p (by omega) (by omega) h_r2 h_r1 g_v (fun q => by omega) (fun _ => by omega)) _ _ hP hD hS _ (lv_sub hl [0, 1, 2, 3, 4] rfl)
                      exact loop86 81 0 0 _ (by omega) (by omega) (Or.inl rfl) (anL_0 g_B) _ _ hP hD hS _ (lv_sub hl [0, 1, 2, 3, 4] rfl)
                exact loop77 83 _ _ h_y1 (by omega) h_sb h_y3.1 h_y3.2 _ _ hP hD hS _ (lv_sub hl [0, 1, 2, 3] rfl)
              · refine lv_aload_n hx hb dX8_ancestors_54 rfl (lv_at hl 1 rfl) ?_
                refine va_get (D := D) (ci := 8) (v := .ref (bd 11)) (C := RX8) (T := TX8) (N := 20) hx hb hts (fun _ h => List.mem_cons_of_mem _ (List.mem_append_right _ (h))) hown hK.1 hP 0 rfl rfl 14 (by decide) (hts (.fieldLink RX8 42 "ForeignKeyStoreModel" "isReached" "[Z") (List.mem_of_getElem? (i := 2) rfl)) (fun _ h9 => h9) rfl dX8_ancestors_55 ?_
                refine lv_iload_n hx hb dX8_ancestors_58 rfl (lv_at hl 0 rfl) ?_
                refine lv_iconst (v := iI (0)) hx hb dX8_ancestors_59 rfl ?_
                refine z_zast hx hb hK.1 hP hD hS 5 1 rfl rfl (by omega) (by decide) (by omega) dX8_ancestors_60 (fun H locs hP hD hS => ?_)
                have hP : va_P D vwCl [(bd 0, .inr (8, [.ref (bd 1), .ref (bd 2), .ref (bd 3), .ref (bd 4), .ref (bd 5), .ref (bd 6), .ref (bd 7), .int (iI (cn)), .ref (bd 8), .int (iI (mp)), .ref (bd 9), .int (iI (ty)), .int (iI (0)), .ref (bd 10), .ref (bd 11), .int (iI (sp)), .int (iI (ta)), .int (iI (ke)), .int (iI (on)), .int (iI (tw))])), (bd 1, .inl (cZ, 80, .inl (iA (Ir)))), (bd 2, .inl (cI, 160, .inl (iA (Vm)))), (bd 3, .inl (cZ, 8, .inl (iA (Ic)))), (bd 4, .inl (cI, 8, .inl (iA (Pm)))), (bd 11, .inl (cZ, 80, .inl (iA (uI (ux) ((i : Int)) (0)))))] H := hP
                have hD : va_D AA [(bd 0, .inr (8, [.ref (bd 1), .ref (bd 2), .ref (bd 3), .ref (bd 4), .ref (bd 5), .ref (bd 6), .ref (bd 7), .int (iI (cn)), .ref (bd 8), .int (iI (mp)), .ref (bd 9), .int (iI (ty)), .int (iI (0)), .ref (bd 10), .ref (bd 11), .int (iI (sp)), .int (iI (ta)), .int (iI (ke)), .int (iI (on)), .int (iI (tw))])), (bd 1, .inl (cZ, 80, .inl (iA (Ir)))), (bd 2, .inl (cI, 160, .inl (iA (Vm)))), (bd 3, .inl (cZ, 8, .inl (iA (Ic)))), (bd 4, .inl (cI, 8, .inl (iA (Pm)))), (bd 11, .inl (cZ, 80, .inl (iA (uI (ux) ((i : Int)) (0)))))] := hD
                refine lv_iinc (v := iI ((i : Int) + 1)) (lv' := [(3, .int (iI ((i : Int) + 1))), (0, .ref (bd 0)), (1, .int (iI (t))), (2, .int (iI (k)))]) hx hb dX8_ancestors_61 hl (k := 0) rfl (iI_add ((i : Int)) (1)) (by decide) rfl (fun ls hl => ?_)
                refine lv_goto (tgt := 48) hx hb dX8_ancestors_64 (by decide) ?_
                exact ih48 (i + 1) _ (by omega) (by omega) (clr_s g_c) _ _ hP hD hS _ (lv_sub hl [0, 1, 2, 3] rfl)
          exact loop48 81 0 _ (by omega) (by omega) (fun j h1 h2 => by omega) _ _ hP hD hS _ (lv_sub hl [0, 1, 2, 3] rfl)
        · refine lv_bipush (v := iI (-2)) hx hb dX8_ancestors_43 (by decide) ?_
          refine z_mret ((Rm, 0)) hx hb hr hlocks dX8_ancestors_45 hP hD hS ?_
          exact ⟨(goK_0 (by omega) trivial trivial).symm, ⟨by omega, by omega⟩, fun _ => by rw [if_neg (fun q => by have h9 := (rV_has g_R (r := t * 20 + k) (by omega)).1 q; rw [show t * 20 + k = 20 * t + k by omega] at h9; omega)]⟩
      · exfalso
        omega

