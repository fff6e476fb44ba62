/-! what the methods that throw need of the constants (nothing here), and a wider frame -/
def zE (_b0 : Nat) (_adK _adV : Nat → Nat) (_U : State) (_H : Heap) : Prop := True
theorem zE.warm {b0 : Nat} {adK adV : Nat → Nat} {s U : State} {H : Heap} {locs : List Loc} (_hW : s.WarmedH U.vm) (_hU : U.heap = H) (_hS : va_S (fun q => b0 ≤ q) s.heap H locs) (_h : zE b0 adK adV s s.heap) : zE b0 adK adV U U.heap := trivial
theorem va_S.wide {A B : Nat → Prop} {H0 H : Heap} {locs : List Loc} (h : va_S A H0 H locs) (g : ∀ q, A q → B q) : va_S B H0 H locs := ⟨h.1, fun q a b => h.2.1 q a (fun z => b (g q z)), fun l hl => g _ (h.2.2 l hl)⟩
def zPwE (D : va_G) (cI cZ cC : ClassId) (wc : va_W) (sz b0 : Nat) (adK adV : Nat → Nat) (U : State) : Prop := zPw D cI cZ cC wc sz U ∧ zE b0 adK adV U U.heap ∧ va_D (fun q => b0 ≤ q) wc ∧ b0 ≤ sz
theorem zPwE_blind {D : va_G} {cI cZ cC : ClassId} {wc : va_W} {sz b0 : Nat} {adK adV : Nat → Nat} {av : List Value} : FrameBlind (va_Pc av (zPwE D cI cZ cC wc sz b0 adK adV)) := fun a U g mk q => ⟨q.1, (zPw_blind a U g mk ⟨q.1, q.2.1⟩).2, trivial, q.2.2.2⟩
