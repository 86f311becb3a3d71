/-! ===== the reference's parser, told against what can go on ===== -/
def TM (g : List en_E) (i : Int) : Int := (eA g 236 i).toInt
def nM (g : List en_E) : Int := (gI g 231 8).toInt
theorem TM.c {g g' : List en_E} (h : gA g' 236 = gA g 236) : TM g' = TM g := funext (fun _ => eA_ti h)
theorem nM.c {g g' : List en_E} (h : gI g' 231 8 = gI g 231 8) : nM g' = nM g := congrArg Int32.toInt h
theorem pI.c {g g' : List en_E} {b : Nat} (h : gI g' 231 b = gI g 231 b) : pI g' b = pI g b := congrArg Int32.toInt h
theorem pI.ci {g g' : List en_E} (_h : HI g') {b : Nat} (h : gI g' 231 b = gI g 231 b) : pI g' b = pI g b := congrArg Int32.toInt h
def wth (g : List en_E) : Int := (gJ g 231 12).toInt
theorem wth.c {g g' : List en_E} (h : gJ g' 231 12 = gJ g 231 12) : wth g' = wth g := congrArg Int64.toInt h
/-- what is told of the token at hand -/
def WTH (g : List en_E) : Prop := (pI g 11 = 3 → wth g = TM g (pI g 9)) ∧ (pI g 11 = 1 → (pI g 10 - pI g 9 ≤ 10 → wth g = VAL (TM g) (pI g 9) (pI g 10)) ∧ (10 < pI g 10 - pI g 9 → wth g = -1)) ∧ (pI g 11 = 2 → wth g = NUM (TM g) (pI g 9) (pI g 10) ∨ (1000000 < wth g ∧ 1000000 < NUM (TM g) (pI g 9) (pI g 10)))
def TKM (g : List en_E) : Prop := TKR (TM g) (nM g) (pI g 9) (pI g 11) (pI g 10) ∧ WTH g ∧ 0 ≤ pI g 9
def CDM (g : List en_E) : Int := CDE (TM g) (pI g 9) (pI g 11) (pI g 10)
theorem WTH.c {g g' : List en_E} (h : WTH g) (h1 : gA g' 236 = gA g 236) (h9 : gI g' 231 9 = gI g 231 9) (h10 : gI g' 231 10 = gI g 231 10) (h11 : gI g' 231 11 = gI g 231 11) (h12 : gJ g' 231 12 = gJ g 231 12) : WTH g' := by
  unfold WTH at *
  rw [TM.c h1, pI.c h9, pI.c h10, pI.c h11, wth.c h12]
  exact h
theorem TKM.c {g g' : List en_E} (h : TKM g) (h1 : gA g' 236 = gA g 236) (h8 : gI g' 231 8 = gI g 231 8) (h9 : gI g' 231 9 = gI g 231 9) (h10 : gI g' 231 10 = gI g 231 10) (h11 : gI g' 231 11 = gI g 231 11) (h12 : gJ g' 231 12 = gJ g 231 12) : TKM g' := by
  unfold TKM at *
  rw [TM.c h1, nM.c h8, pI.c h9, pI.c h10, pI.c h11]
  exact ⟨h.1, h.2.1.c h1 h9 h10 h11 h12, h.2.2⟩
theorem CDM.c {g g' : List en_E} (h1 : gA g' 236 = gA g 236) (h9 : gI g' 231 9 = gI g 231 9) (h10 : gI g' 231 10 = gI g 231 10) (h11 : gI g' 231 11 = gI g 231 11) : CDM g' = CDM g := by
  unfold CDM
  rw [TM.c h1, pI.c h9, pI.c h10, pI.c h11]
theorem TKM.tok {g g' : List en_E} (h : TKM g) (hs : SKP (TM g) (nM g) (pI g 10) (pI g' 9)) : TOK (TM g) (nM g) (pI g 9) (CDM g) (pI g' 9) := ⟨_, _, h.1, rfl, hs⟩
theorem TKM.some {g : List en_E} (h : TKM g) : ∃ q, TOK (TM g) (nM g) (pI g 9) (CDM g) q := by
  have l := h.1.le
  obtain ⟨j, hj⟩ := SKP.ex (T := TM g) (n := nM g) _ (i := pI g 10) rfl l.2.1
  exact ⟨j, _, _, h.1, rfl, hj⟩
/-! long words -/
def f32 : Nat → Int
  | 0 => 0
  | 1 => 1
  | k + 2 => 32 * f32 (k + 1)
def h32 : Nat → Int
  | 0 => 1
  | k + 1 => 32 * h32 k
theorem f32.pos : ∀ k : Nat, 1 ≤ f32 (k + 1)
  | 0 => Int.le_refl 1
  | k + 1 => by
    have a := f32.pos k
    show 1 ≤ 32 * f32 (k + 1)
    omega
theorem f32.mono : ∀ (j k : Nat), f32 (k + 1) ≤ f32 (k + 1 + j)
  | 0, k => Int.le_refl _
  | j + 1, k => by
    have a := f32.mono j k
    have b := f32.pos (k + j)
    show f32 (k + 1) ≤ f32 (k + 1 + j + 1)
    rw [show k + 1 + j + 1 = (k + j) + 2 by omega]
    show f32 (k + 1) ≤ 32 * f32 (k + j + 1)
    rw [show k + 1 + j = k + j + 1 by omega] at a
    omega
theorem vlv.big {T : Int → Int} {p : Int} : ∀ m : Nat, (∀ k : Nat, k < m → smP (T (p + (k : Int)))) → f32 m ≤ vlv T p m
  | 0, _ => Int.le_refl 0
  | 1, h => by
    have b := h 0 (by omega)
    unfold smP at b
    show 1 ≤ 32 * 0 + (T (p + ((0 : Nat) : Int)) - 96)
    omega
  | m + 2, h => by
    have a := vlv.big (T := T) (p := p) (m + 1) (fun k hk => h k (by omega))
    have b := h (m + 1) (by omega)
    unfold smP at b
    show 32 * f32 (m + 1) ≤ 32 * vlv T p (m + 1) + (T (p + ((m + 1 : Nat) : Int)) - 96)
    omega
theorem vlv.lt {T : Int → Int} {p : Int} : ∀ m : Nat, (∀ k : Nat, k < m → smP (T (p + (k : Int)))) → vlv T p m < h32 m
  | 0, _ => (by decide : (0 : Int) < 1)
  | m + 1, h => by
    have a := vlv.lt (T := T) (p := p) m (fun k hk => h k (by omega))
    have b := h m (by omega)
    unfold smP at b
    show 32 * vlv T p m + (T (p + (m : Int)) - 96) < 32 * h32 m
    omega
theorem h32.pos : ∀ k : Nat, 1 ≤ h32 k
  | 0 => Int.le_refl 1
  | k + 1 => by
    have a := h32.pos k
    show 1 ≤ 32 * h32 k
    omega
theorem h32.mono : ∀ (j k : Nat), h32 k ≤ h32 (k + j)
  | 0, k => Int.le_refl _
  | j + 1, k => by
    have a := h32.mono j k
    have b := h32.pos (k + j)
    show h32 k ≤ 32 * h32 (k + j)
    omega
theorem lkc.mem : ∀ (L : List (Int × Int)) {c : Int}, lkc L c = -1 ∨ ∃ q ∈ L, lkc L c = q.1
  | [], c => Or.inl rfl
  | q :: r, c => by
    by_cases e : c = q.2
    · exact Or.inr ⟨q, List.mem_cons_self .., if_pos e⟩
    · rw [show lkc (q :: r) c = lkc r c from if_neg e]
      exact (lkc.mem r).imp_right (fun ⟨x, hx, h⟩ => ⟨x, List.mem_cons_of_mem _ hx, h⟩)
theorem WL_3 : ∀ q ∈ WL, q.1 < 1125899906842624 := by decide +kernel
theorem wvl.lt (c : Int) : wvl c < 1125899906842624 := by
  rcases lkc.mem WL (c := c) with h | ⟨q, hq, h⟩
  · rw [show wvl c = -1 from h]; decide
  · rw [show wvl c = q.1 from h]; exact WL_3 q hq
theorem TKM.word {g : List en_E} (k : TKM g) (h : pI g 11 = 1) : pI g 9 < pI g 10 ∧ pI g 10 ≤ nM g ∧ ∀ i : Nat, i < (pI g 10 - pI g 9).toNat → smP (TM g (pI g 9 + (i : Int))) := by
  rcases k.1 with ⟨a1, a2, a3⟩ | ⟨a1, a2, a3, a4⟩ | ⟨a1, a2, a3, a4⟩ | ⟨a1, a2, a3, a4, a5⟩
  · omega
  · exact ⟨a4.1, a4.2.1, fun j hj => a4.2.2.1 _ (by omega) (by omega)⟩
  · omega
  · omega
/-- a word at hand is told by its number -/
theorem TKM.wv {g : List en_E} (k : TKM g) {c : Int} (h0 : 0 ≤ wvl c) (h : pI g 11 = 1) : wth g = wvl c ↔ VAL (TM g) (pI g 9) (pI g 10) = wvl c := by
  have w := k.2.1.2.1 h
  have t := k.word h
  by_cases q : pI g 10 - pI g 9 ≤ 10
  · rw [w.1 q]
  · have e := w.2 (by omega)
    have b := vlv.big (T := TM g) (p := pI g 9) _ t.2.2
    have m := f32.mono ((pI g 10 - pI g 9).toNat - 11) 10
    rw [show 10 + 1 + ((pI g 10 - pI g 9).toNat - 11) = (pI g 10 - pI g 9).toNat by omega] at m
    have v : f32 (10 + 1) = 1125899906842624 := by decide
    have l := wvl.lt c
    have d : VAL (TM g) (pI g 9) (pI g 10) = vlv (TM g) (pI g 9) (pI g 10 - pI g 9).toNat := rfl
    exact ⟨fun x => by omega, fun x => by omega⟩
theorem TKM.num {g : List en_E} (h : TKM g) : pI g 11 = 2 → 0 ≤ NUM (TM g) (pI g 9) (pI g 10) := h.1.num
theorem ISM.sign {g : List en_E} {a c r : Int} (h : BL (pI g 11 = 3 ∧ wth g = a) r) (k : TKM g) (hc : isSC c) (hs : sch c = a) : BL (CDM g = c) r := by
  have l := k.1.le
  have e := CDE.g (T := TM g) (p := pI g 9) (s := pI g 11) (e := pI g 10) ⟨l.2.2.1, l.2.2.2.1⟩ k.num hc
  have f : (pI g 11 = 3 ∧ wth g = a) ↔ CDM g = c := by
    rw [← hs]
    exact ⟨fun z => e.mp ⟨z.1, by rw [← k.2.1.1 z.1]; exact z.2⟩, fun z => by
      have y := e.mpr z
      exact ⟨y.1, by rw [k.2.1.1 y.1]; exact y.2⟩⟩
  exact h.elim (fun z => Or.inl ⟨z.1, f.mp z.2⟩) (fun z => Or.inr ⟨z.1, fun y => z.2 (f.mpr y)⟩)
theorem ISM.word {g : List en_E} {a c r : Int} (h : BL (pI g 11 = 1 ∧ wth g = a) r) (k : TKM g) (hc : isWC c) (hs : wvl c = a) (h0 : 0 ≤ a) : BL (CDM g = c) r := by
  have e := CDE.w (T := TM g) (p := pI g 9) (s := pI g 11) (e := pI g 10) k.num hc
  have f : (pI g 11 = 1 ∧ wth g = a) ↔ CDM g = c := by
    rw [← hs] at h0 ⊢
    exact ⟨fun z => e.mp ⟨z.1, (k.wv h0 z.1).mp z.2⟩, fun z => by
      have y := e.mpr z
      exact ⟨y.1, (k.wv h0 y.1).mpr y.2⟩⟩
  exact h.elim (fun z => Or.inl ⟨z.1, f.mp z.2⟩) (fun z => Or.inr ⟨z.1, fun y => z.2 (f.mpr y)⟩)
/-! ===== frames of a pile ===== -/
def upF : List Int → List Int
  | [] => []
  | f :: R => (if f = 1 ∨ f = 4 then f + 1 else f) :: R
/-- frames of the first k of a pile, over a base -/
def frm (P : Int → Int) (b : Int) : Nat → List Int
  | 0 => [b]
  | k + 1 => if P (k : Int) = 31 then 0 :: frm P b k else if P (k : Int) = 30 then 1 :: frm P b k else if 24 ≤ P (k : Int) ∧ P (k : Int) ≤ 26 then upF (frm P b k) else if 27 ≤ P (k : Int) then ucF (frm P b k) else frm P b k
theorem frm.ne (P : Int → Int) (b : Int) : ∀ k, ∃ f R, frm P b k = f :: R
  | 0 => ⟨b, [], rfl⟩
  | k + 1 => by
    obtain ⟨f, R, e⟩ := frm.ne P b k
    show ∃ f R, (if P (k : Int) = 31 then 0 :: frm P b k else if P (k : Int) = 30 then 1 :: frm P b k else if 24 ≤ P (k : Int) ∧ P (k : Int) ≤ 26 then upF (frm P b k) else if 27 ≤ P (k : Int) then ucF (frm P b k) else frm P b k) = f :: R
    rw [e]
    split
    · exact ⟨_, _, rfl⟩
    · split
      · exact ⟨_, _, rfl⟩
      · split
        · exact ⟨_, _, rfl⟩
        · split
          · exact ⟨_, _, rfl⟩
          · exact ⟨_, _, rfl⟩
section FRAMES
variable {P P' : Int → Int} {b : Int}
theorem frm.sq {k : Nat} (h : P (k : Int) = 31) : frm P b (k + 1) = 0 :: frm P b k := if_pos h
theorem frm.rd {k : Nat} (h : P (k : Int) = 30) : frm P b (k + 1) = 1 :: frm P b k := (if_neg (show ¬ P (k : Int) = 31 from by omega)).trans (if_pos h)
theorem frm.cm {k : Nat} (h : 24 ≤ P (k : Int) ∧ P (k : Int) ≤ 26) : frm P b (k + 1) = upF (frm P b k) := (if_neg (show ¬ P (k : Int) = 31 from by omega)).trans ((if_neg (show ¬ P (k : Int) = 30 from by omega)).trans (if_pos h))
theorem frm.lo {k : Nat} (h : 27 ≤ P (k : Int) ∧ P (k : Int) ≤ 29) : frm P b (k + 1) = ucF (frm P b k) := (if_neg (show ¬ P (k : Int) = 31 from by omega)).trans ((if_neg (show ¬ P (k : Int) = 30 from by omega)).trans ((if_neg (show ¬ (24 ≤ P (k : Int) ∧ P (k : Int) ≤ 26) from by omega)).trans (if_pos h.1)))
theorem frm.ar {k : Nat} (h : P (k : Int) ≤ 23) : frm P b (k + 1) = frm P b k := (if_neg (show ¬ P (k : Int) = 31 from by omega)).trans ((if_neg (show ¬ P (k : Int) = 30 from by omega)).trans ((if_neg (show ¬ (24 ≤ P (k : Int) ∧ P (k : Int) ≤ 26) from by omega)).trans (if_neg (show ¬ 27 ≤ P (k : Int) from by omega))))
theorem frm.c : ∀ k : Nat, (∀ j : Int, 0 ≤ j → j < k → P j = P' j) → frm P b k = frm P' b k
  | 0, _ => rfl
  | k + 1, h => by
    have ih := frm.c k (fun j h0 h1 => h j h0 (by omega))
    have e := h (k : Int) (by omega) (by omega)
    show (if P (k : Int) = 31 then 0 :: frm P b k else if P (k : Int) = 30 then 1 :: frm P b k else if 24 ≤ P (k : Int) ∧ P (k : Int) ≤ 26 then upF (frm P b k) else if 27 ≤ P (k : Int) then ucF (frm P b k) else frm P b k) = (if P' (k : Int) = 31 then 0 :: frm P' b k else if P' (k : Int) = 30 then 1 :: frm P' b k else if 24 ≤ P' (k : Int) ∧ P' (k : Int) ≤ 26 then upF (frm P' b k) else if 27 ≤ P' (k : Int) then ucF (frm P' b k) else frm P' b k)
    rw [e, ih]
theorem ucF_cons (f : Int) (R : List Int) : ucF (f :: R) = (if f = 2 ∨ f = 5 then f - 1 else f) :: R := rfl
theorem upF_cons (f : Int) (R : List Int) : upF (f :: R) = (if f = 1 ∨ f = 4 then f + 1 else f) :: R := rfl
theorem ucF_u : ∀ F : List Int, ucF (ucF F) = ucF F
  | [] => rfl
  | f :: R => by
    rw [ucF_cons, ucF_cons]
    by_cases h : f = 2 ∨ f = 5
    · rw [if_pos h, if_neg (show ¬ (f - 1 = 2 ∨ f - 1 = 5) from by omega)]
    · rw [if_neg h, if_neg h]
theorem ucF_up : ∀ F : List Int, ucF (upF F) = ucF F
  | [] => rfl
  | f :: R => by
    rw [upF_cons, ucF_cons, ucF_cons]
    by_cases h : f = 1 ∨ f = 4
    · rw [if_pos h, if_pos (show f + 1 = 2 ∨ f + 1 = 5 from by omega), if_neg (show ¬ (f = 2 ∨ f = 5) from by omega), show f + 1 - 1 = f from by omega]
    · rw [if_neg h]
theorem frm.pop {k : Nat} : ∀ j : Nat, (∀ i : Int, k ≤ i → i < k + j → P i < 30) → ucF (frm P b (k + j)) = ucF (frm P b k)
  | 0, _ => rfl
  | j + 1, h => by
    have ih := frm.pop (k := k) j (fun i h0 h1 => h i h0 (by omega))
    have e := h ((k + j : Nat) : Int) (by omega) (by omega)
    rw [← ih, show k + (j + 1) = (k + j) + 1 by omega]
    by_cases h1 : P ((k + j : Nat) : Int) ≤ 23
    · rw [frm.ar h1]
    · by_cases h2 : P ((k + j : Nat) : Int) ≤ 26
      · rw [frm.cm ⟨by omega, h2⟩, ucF_up]
      · rw [frm.lo ⟨by omega, by omega⟩, ucF_u]
theorem frm.popA {k : Nat} : ∀ j : Nat, (∀ i : Int, k ≤ i → i < k + j → P i ≤ 23) → frm P b (k + j) = frm P b k
  | 0, _ => rfl
  | j + 1, h => by
    have ih := frm.popA (k := k) j (fun i h0 h1 => h i h0 (by omega))
    have e := h ((k + j : Nat) : Int) (by omega) (by omega)
    rw [← ih, show k + (j + 1) = (k + j) + 1 by omega, frm.ar e]
end FRAMES
/-- frames, over numbers -/
def FRM (P : Int → Int) (b p : Int) : List Int := frm P b p.toNat
section FRAMEI
variable {P P' : Int → Int} {b p p' : Int}
theorem FRM.z (h : p ≤ 0) : FRM P b p = [b] := by unfold FRM; rw [show p.toNat = 0 by omega]; rfl
theorem FRM.pop (h0 : 0 ≤ p') (h : p' ≤ p) (hb : ∀ i : Int, p' ≤ i → i < p → P i < 30) : ucF (FRM P b p) = ucF (FRM P b p') := by
  unfold FRM
  rw [show p.toNat = p'.toNat + (p - p').toNat by omega]
  exact frm.pop _ (fun i i0 i1 => hb i (by omega) (by omega))
theorem FRM.popA (h0 : 0 ≤ p') (h : p' ≤ p) (hb : ∀ i : Int, p' ≤ i → i < p → P i ≤ 23) : FRM P b p = FRM P b p' := by
  unfold FRM
  rw [show p.toNat = p'.toNat + (p - p').toNat by omega]
  exact frm.popA _ (fun i i0 i1 => hb i (by omega) (by omega))
theorem FRM.c (h : ∀ j : Int, 0 ≤ j → j < p → P j = P' j) : FRM P b p = FRM P' b p := frm.c _ (fun j h0 h1 => h j h0 (by omega))
theorem FRM.one (h0 : 0 ≤ p) (e : p' = p + 1) : FRM P b p' = frm P b (p.toNat + 1) := by unfold FRM; rw [show p'.toNat = p.toNat + 1 by omega]
theorem pn (h0 : 0 ≤ p) : P ((p.toNat : Nat) : Int) = P p := by rw [show ((p.toNat : Nat) : Int) = p by omega]
theorem FRM.sq (h0 : 0 ≤ p) (e : p' = p + 1) (h : P p = 31) : FRM P b p' = 0 :: FRM P b p := (FRM.one h0 e).trans (frm.sq ((pn (P := P) h0).trans h))
theorem FRM.rd (h0 : 0 ≤ p) (e : p' = p + 1) (h : P p = 30) : FRM P b p' = 1 :: FRM P b p := (FRM.one h0 e).trans (frm.rd ((pn (P := P) h0).trans h))
theorem FRM.cm (h0 : 0 ≤ p) (e : p' = p + 1) (h : 24 ≤ P p ∧ P p ≤ 26) : FRM P b p' = upF (FRM P b p) := (FRM.one h0 e).trans (frm.cm (by rw [pn (P := P) h0]; exact h))
theorem FRM.lo (h0 : 0 ≤ p) (e : p' = p + 1) (h : 27 ≤ P p ∧ P p ≤ 29) : FRM P b p' = ucF (FRM P b p) := (FRM.one h0 e).trans (frm.lo (by rw [pn (P := P) h0]; exact h))
theorem FRM.ar (h0 : 0 ≤ p) (e : p' = p + 1) (h : P p ≤ 23) : FRM P b p' = FRM P b p := (FRM.one h0 e).trans (frm.ar (by rw [pn (P := P) h0]; exact h))
theorem FRM.ne : ∃ f R, FRM P b p = f :: R := frm.ne P b _
end FRAMEI
theorem ucF_inv {F R : List Int} {f : Int} (h : ucF F = f :: R) : (f = 0 → F = 0 :: R) ∧ (f = 3 → F = 3 :: R) ∧ (f = 1 → F = 1 :: R ∨ F = 2 :: R) ∧ (f = 4 → F = 4 :: R ∨ F = 5 :: R) ∧ f ≠ 2 ∧ f ≠ 5 := by
  cases F with
  | nil => cases h
  | cons a A =>
    rw [ucF_cons] at h
    have h1 := (List.cons.inj h).1
    have h2 := (List.cons.inj h).2
    subst h2
    by_cases c : a = 2 ∨ a = 5
    · rw [if_pos c] at h1
      refine ⟨fun e => by omega, fun e => by omega, fun e => Or.inr ?_, fun e => Or.inr ?_, by omega, by omega⟩
      · rw [show a = 2 by omega]
      · rw [show a = 5 by omega]
    · rw [if_neg c] at h1
      refine ⟨fun e => ?_, fun e => ?_, fun e => Or.inl ?_, fun e => Or.inl ?_, by omega, by omega⟩ <;> rw [h1, e]
/-- brackets in a pile -/
def brk (P : Int → Int) : Nat → Int
  | 0 => 0
  | k + 1 => if 30 ≤ P (k : Int) then brk P k + 1 else brk P k
def BRK (P : Int → Int) (p : Int) : Int := brk P p.toNat
theorem brk.nn (P : Int → Int) : ∀ k : Nat, 0 ≤ brk P k
  | 0 => Int.le_refl 0
  | k + 1 => by
    have z := brk.nn P k
    show 0 ≤ if 30 ≤ P (k : Int) then brk P k + 1 else brk P k
    split <;> omega
theorem BRK.nn (P : Int → Int) (p : Int) : 0 ≤ BRK P p := brk.nn P _
theorem brk.c {P P' : Int → Int} : ∀ k : Nat, (∀ j : Int, 0 ≤ j → j < k → P j = P' j) → brk P k = brk P' k
  | 0, _ => rfl
  | k + 1, h => by
    show (if 30 ≤ P (k : Int) then brk P k + 1 else brk P k) = (if 30 ≤ P' (k : Int) then brk P' k + 1 else brk P' k)
    rw [brk.c k (fun j a c => h j a (by omega)), h (k : Int) (by omega) (by omega)]
theorem BRK.c {P P' : Int → Int} {p : Int} (h : ∀ j : Int, 0 ≤ j → j < p → P j = P' j) : BRK P p = BRK P' p := brk.c _ (fun j a c => h j a (by omega))
theorem BRK.z {P : Int → Int} {p : Int} (h : p ≤ 0) : BRK P p = 0 := by unfold BRK; rw [show p.toNat = 0 by omega]; rfl
theorem BRK.s {P : Int → Int} {p p' : Int} (h0 : 0 ≤ p) (e : p' = p + 1) : BRK P p' = if 30 ≤ P p then BRK P p + 1 else BRK P p := by
  unfold BRK
  rw [show p'.toNat = p.toNat + 1 by omega]
  show (if 30 ≤ P ((p.toNat : Nat) : Int) then brk P p.toNat + 1 else brk P p.toNat) = _
  rw [show ((p.toNat : Nat) : Int) = p by omega]
theorem brk.pop {P : Int → Int} {k : Nat} : ∀ j : Nat, (∀ i : Int, k ≤ i → i < k + j → P i < 30) → brk P (k + j) = brk P k
  | 0, _ => rfl
  | j + 1, h => by
    rw [← brk.pop (k := k) j (fun i a c => h i a (by omega)), show k + (j + 1) = (k + j) + 1 by omega]
    have e := h ((k + j : Nat) : Int) (by omega) (by omega)
    exact if_neg (by omega)
theorem BRK.pop {P : Int → Int} {p p' : Int} (h0 : 0 ≤ p') (h : p' ≤ p) (hb : ∀ i : Int, p' ≤ i → i < p → P i < 30) : BRK P p = BRK P p' := by
  unfold BRK
  rw [show p.toNat = p'.toNat + (p - p').toNat by omega]
  exact brk.pop _ (fun i a c => hb i (by omega) (by omega))
theorem ucF_len : ∀ F : List Int, (ucF F).length = F.length
  | [] => rfl
  | _ :: _ => rfl
theorem upF_len : ∀ F : List Int, (upF F).length = F.length
  | [] => rfl
  | _ :: _ => rfl
theorem frm.len {P : Int → Int} {b : Int} : ∀ k : Nat, (∀ j : Int, 0 ≤ j → j < k → P j ≤ 31) → ((frm P b k).length : Int) = brk P k + 1
  | 0, _ => rfl
  | k + 1, h => by
    have ih := frm.len (P := P) (b := b) k (fun j a c => h j a (by omega))
    have e := h (k : Int) (by omega) (by omega)
    show _ = (if 30 ≤ P (k : Int) then brk P k + 1 else brk P k) + 1
    by_cases c1 : P (k : Int) = 31
    · rw [frm.sq c1, if_pos (by omega), List.length_cons]; omega
    · by_cases c2 : P (k : Int) = 30
      · rw [frm.rd c2, if_pos (by omega), List.length_cons]; omega
      · rw [if_neg (show ¬ 30 ≤ P (k : Int) from by omega)]
        by_cases c3 : P (k : Int) ≤ 23
        · rw [frm.ar c3]; exact ih
        · by_cases c4 : P (k : Int) ≤ 26
          · rw [frm.cm ⟨by omega, c4⟩, upF_len]; exact ih
          · rw [frm.lo ⟨by omega, by omega⟩, ucF_len]; exact ih
theorem FRM.len {P : Int → Int} {b p : Int} (h : ∀ j : Int, 0 ≤ j → j < p → P j ≤ 31) : ((FRM P b p).length : Int) = BRK P p + 1 := frm.len _ (fun j a c => h j a (by omega))
/-! ===== how the parser stands ===== -/
/-- no fault so far -/
abbrev okM (g : List en_E) : Prop := pI g 14 = 0 ∧ pI g 13 = -1
abbrev pP (g : List en_E) : Int → Int := pE g 240
def FG (g : List en_E) (b : Int) : List Int := FRM (pP g) b (pI g 23)
/-- what an expression's turn says -/
def cfgM (g : List en_E) (b t : Int) : CF := if t = 4 then ((if b = 3 then 7 else 8), [], pI g 20, pI g 15, pI g 9) else if t = 2 then (2, ucF (FG g b), pI g 20, pI g 15, pI g 9) else (t, FG g b, pI g 20, pI g 15, pI g 9)
def INVM (g : List en_E) (b t : Int) : Prop := (b = 3 ∨ b = 4) ∧ (b = 3 → t ≠ 0 ∧ t ≠ 2 ∧ ∀ j : Int, 0 ≤ j → j < pI g 23 → pP g j ≠ 30) ∧ (t = 0 → ucF (FG g b) = FG g b) ∧ pI g 24 = BRK (pP g) (pI g 23) ∧ (∀ j : Int, 0 ≤ j → j < pI g 23 → 20 ≤ pP g j ∧ pP g j ≤ 31) ∧ 0 ≤ pI g 23
def CSM (T : Int → Int) (n : Int) (c0 : CF) (g : List en_E) (b t : Int) : Prop := (okM g ∧ INVM g b t ∧ RUN T n c0 (cfgM g b t)) ∨ (pI g 14 ≠ 0 ∧ RUN T n c0 (BADC (pI g 13)))
theorem cfgM.n {g : List en_E} {b t : Int} (h : t ≠ 4 ∧ t ≠ 2) : cfgM g b t = (t, FG g b, pI g 20, pI g 15, pI g 9) := (if_neg h.1).trans (if_neg h.2)
theorem cfgM.t {g : List en_E} {b : Int} : cfgM g b 2 = (2, ucF (FG g b), pI g 20, pI g 15, pI g 9) := (if_neg (show ¬ (2 : Int) = 4 from by decide)).trans (if_pos rfl)
theorem cfgM.o3 {g : List en_E} : cfgM g 3 4 = (7, [], pI g 20, pI g 15, pI g 9) := (if_pos rfl).trans (by rw [if_pos (show (3 : Int) = 3 from rfl)])
theorem cfgM.o4 {g : List en_E} : cfgM g 4 4 = (8, [], pI g 20, pI g 15, pI g 9) := (if_pos rfl).trans (by rw [if_neg (show ¬ (4 : Int) = 3 from by decide)])
section CSMS
variable {T : Int → Int} {n : Int} {c0 : CF} {g g' : List en_E} {b t t' : Int}
/-- on: one step of the automaton, or some -/
theorem CSM.on (h : CSM T n c0 g b t) (k : pI g 14 = 0 → INVM g b t → INVM g' b t' ∧ RUN T n (cfgM g b t) (cfgM g' b t')) (e : pI g 14 = 0 → pI g' 14 = 0 ∧ pI g' 13 = pI g 13) (eb : pI g 14 ≠ 0 → pI g' 14 = pI g 14 ∧ pI g' 13 = pI g 13) : CSM T n c0 g' b t' := by
  rcases h with ⟨⟨h1, h0⟩, h2, h3⟩ | ⟨h1, h2⟩
  · have z := k h1 h2
    exact Or.inl ⟨⟨(e h1).1, (e h1).2.trans h0⟩, z.1, h3.tr z.2⟩
  · have z := eb h1
    exact Or.inr ⟨by rw [z.1]; exact h1, by rw [z.2]; exact h2⟩
theorem CSM.bad (h : CSM T n c0 g b t) (k : pI g 14 = 0 → INVM g b t → RUN T n (cfgM g b t) (BADC (pI g 9))) (e : pI g 14 = 0 → pI g' 14 ≠ 0 ∧ pI g' 13 = pI g 9) (eb : pI g 14 ≠ 0 → pI g' 14 = pI g 14 ∧ pI g' 13 = pI g 13) : CSM T n c0 g' b t' := by
  rcases h with ⟨⟨h1, h0⟩, h2, h3⟩ | ⟨h1, h2⟩
  · have z := e h1
    exact Or.inr ⟨z.1, by rw [z.2]; exact h3.tr (k h1 h2)⟩
  · have z := eb h1
    exact Or.inr ⟨by rw [z.1]; exact h1, by rw [z.2]; exact h2⟩
end CSMS
theorem INVM.mk {g : List en_E} {b t : Int} (h1 : b = 3 ∨ b = 4) (h2 : b = 3 → t ≠ 0 ∧ t ≠ 2 ∧ ∀ j : Int, 0 ≤ j → j < pI g 23 → pP g j ≠ 30) (h3 : t = 0 → ucF (FG g b) = FG g b) (h4 : pI g 24 = BRK (pP g) (pI g 23)) (h5 : ∀ j : Int, 0 ≤ j → j < pI g 23 → 20 ≤ pP g j ∧ pP g j ≤ 31) (h6 : 0 ≤ pI g 23) : INVM g b t := ⟨h1, h2, h3, h4, h5, h6⟩
theorem INVM.len {g : List en_E} {b t : Int} (h : INVM g b t) : ((FG g b).length : Int) = pI g 24 + 1 := by
  rw [h.2.2.2.1]
  exact FRM.len (fun j j0 j1 => (h.2.2.2.2.1 j j0 j1).2)
/-- the pile as it was -/
theorem INVM.eq {g g' : List en_E} {b t t' : Int} (h : INVM g b t) (hA : gA g' 240 = gA g 240) (hp : pI g' 23 = pI g 23) (ho : pI g' 24 = pI g 24) (ht : t' = t ∨ (t' ≠ 0 ∧ (b = 3 → t' ≠ 2))) : FG g' b = FG g b ∧ INVM g' b t' := by
  have e : pP g' = pP g := pE_c hA
  have f : FG g' b = FG g b := by unfold FG; rw [e, hp]
  refine ⟨f, h.1, fun h3 => ?_, fun h0 => ?_, by rw [e, hp, ho]; exact h.2.2.2.1, by rw [e, hp]; exact h.2.2.2.2.1, by rw [hp]; exact h.2.2.2.2.2⟩
  · have z := h.2.1 h3
    rw [e, hp]
    rcases ht with ht | ht
    · rw [ht]; exact z
    · exact ⟨ht.1, ht.2 h3, z.2.2⟩
  · rw [f]
    rcases ht with ht | ht
    · exact h.2.2.1 (by omega)
    · exact absurd h0 ht.1
/-- one more on the pile -/
theorem INVM.push {g g' : List en_E} {b t t' o a : Int} (h : INVM g b t) (hE : PUSH g g' o a) (ho : 20 ≤ o ∧ o ≤ 31) (h24 : pI g' 24 = pI g 24 + (if 30 ≤ o then 1 else 0)) (ht : b = 3 → t' ≠ 0 ∧ t' ≠ 2 ∧ o ≠ 30) (h0 : t' = 0 → ucF (FG g' b) = FG g' b) : INVM g' b t' := by
  obtain ⟨e1, e2, e3, e4, e5⟩ := hE
  have q : ∀ j : Int, 0 ≤ j → j < pI g 23 → pP g' j = pP g j := fun j j0 j1 => congrArg Int32.toInt (e2 j j0 (by omega))
  have hp := h.2.2.2.2.2
  refine ⟨h.1, fun h3 => ?_, h0, ?_, fun j j0 j1 => ?_, by omega⟩
  · have z := h.2.1 h3
    have y := ht h3
    refine ⟨y.1, y.2.1, fun j j0 j1 => ?_⟩
    by_cases c : j = pI g 23
    · rw [c, show pP g' (pI g 23) = o from e4]; exact y.2.2
    · rw [q j j0 (by omega)]; exact z.2.2 j j0 (by omega)
  · rw [BRK.s hp e1, show pP g' (pI g 23) = o from e4, BRK.c (P' := pP g) (fun j j0 j1 => q j j0 j1), h24, h.2.2.2.1]
    split <;> omega
  · by_cases c : j = pI g 23
    · rw [c, show pP g' (pI g 23) = o from e4]; exact ho
    · rw [q j j0 (by omega)]; exact h.2.2.2.2.1 j j0 (by omega)
theorem FG.push {g g' : List en_E} {b o a : Int} (hE : PUSH g g' o a) (hp : 0 ≤ pI g 23) : (o = 31 → FG g' b = 0 :: FG g b) ∧ (o = 30 → FG g' b = 1 :: FG g b) ∧ (24 ≤ o ∧ o ≤ 26 → FG g' b = upF (FG g b)) ∧ (27 ≤ o ∧ o ≤ 29 → FG g' b = ucF (FG g b)) ∧ (o ≤ 23 → FG g' b = FG g b) := by
  obtain ⟨e1, e2, e3, e4, e5⟩ := hE
  have f : FRM (pP g') b (pI g 23) = FG g b := FRM.c (fun j j0 j1 => congrArg Int32.toInt (e2 j j0 (by omega)))
  have e4' : pP g' (pI g 23) = o := e4
  refine ⟨fun h => ?_, fun h => ?_, fun h => ?_, fun h => ?_, fun h => ?_⟩
  · exact (FRM.sq hp e1 (e4'.trans h)).trans (by rw [f])
  · exact (FRM.rd hp e1 (e4'.trans h)).trans (by rw [f])
  · exact (FRM.cm hp e1 (by rw [e4']; exact h)).trans (by rw [f])
  · exact (FRM.lo hp e1 (by rw [e4']; exact h)).trans (by rw [f])
  · exact (FRM.ar hp e1 (by rw [e4']; exact h)).trans f
/-- behind settle -/
def SETQ (g g' : List en_E) (a : Int) : Prop := 0 ≤ pI g' 23 ∧ pI g' 23 ≤ pI g 23 ∧ gA g' 240 = gA g 240 ∧ ∀ j : Int, pI g' 23 ≤ j → j < pI g 23 → pP g j < 30 ∧ (5 ≤ a → pP g j ≤ 23)
theorem FG.settle {g g' : List en_E} {b a : Int} (h : SETQ g g' a) : ucF (FG g' b) = ucF (FG g b) ∧ (5 ≤ a → FG g' b = FG g b) ∧ BRK (pP g') (pI g' 23) = BRK (pP g) (pI g 23) := by
  obtain ⟨h0, h1, h2, h3⟩ := h
  have e : pP g' = pP g := pE_c h2
  refine ⟨?_, fun ha => ?_, ?_⟩
  · unfold FG; rw [e]; exact (FRM.pop h0 h1 (fun i a b => (h3 i a b).1)).symm
  · unfold FG; rw [e]; exact (FRM.popA h0 h1 (fun i a b => (h3 i a b).2 ha)).symm
  · rw [e]; exact (BRK.pop h0 h1 (fun i a b => (h3 i a b).1)).symm
theorem INVM.settle {g g' : List en_E} {b t t' a : Int} (h : INVM g b t) (hs : SETQ g g' a) (ho : pI g' 24 = pI g 24) (ht : t' ≠ 0 ∧ (b = 3 → t' ≠ 2)) : INVM g' b t' := by
  have z := FG.settle (b := b) hs
  obtain ⟨h0, h1, h2, h3⟩ := hs
  have e : pP g' = pP g := pE_c h2
  refine ⟨h.1, fun q => ?_, fun q => absurd q ht.1, by rw [z.2.2, ho]; exact h.2.2.2.1, fun j j0 j1 => ?_, h0⟩
  · have y := h.2.1 q
    exact ⟨ht.1, ht.2 q, fun j j0 j1 => by rw [e]; exact y.2.2 j j0 (by omega)⟩
  · rw [e]; exact h.2.2.2.2.1 j j0 (by omega)
/-- the bracket on top goes -/
theorem FG.popB {g g' : List en_E} {b : Int} (hA : gA g' 240 = gA g 240) (hp : pI g' 23 = pI g 23 - 1) (h1 : 1 ≤ pI g 23) : (pP g (pI g 23 - 1) = 31 → FG g b = 0 :: FG g' b) ∧ (pP g (pI g 23 - 1) = 30 → FG g b = 1 :: FG g' b) ∧ (30 ≤ pP g (pI g 23 - 1) → BRK (pP g) (pI g 23) = BRK (pP g') (pI g' 23) + 1) := by
  have e : pP g' = pP g := pE_c hA
  refine ⟨fun h => ?_, fun h => ?_, fun h => ?_⟩
  · unfold FG; rw [e, hp]; exact FRM.sq (by omega) (by omega) h
  · unfold FG; rw [e, hp]; exact FRM.rd (by omega) (by omega) h
  · rw [e, hp, BRK.s (p := pI g 23 - 1) (by omega) (by omega), if_pos h]
theorem INVM.popB {g g' : List en_E} {b t t' : Int} (h : INVM g b t) (hA : gA g' 240 = gA g 240) (hp : pI g' 23 = pI g 23 - 1) (h1 : 1 ≤ pI g 23) (h30 : 30 ≤ pP g (pI g 23 - 1)) (ho : pI g' 24 = pI g 24 - 1) (ht : t' ≠ 0 ∧ (b = 3 → t' ≠ 2)) : INVM g' b t' := by
  have e : pP g' = pP g := pE_c hA
  have z := (FG.popB (b := b) hA hp h1).2.2 h30
  refine ⟨h.1, fun q => ?_, fun q => absurd q ht.1, by have := h.2.2.2.1; omega, fun j j0 j1 => ?_, by omega⟩
  · have y := h.2.1 q
    exact ⟨ht.1, ht.2 q, fun j j0 j1 => by rw [e]; exact y.2.2 j j0 (by omega)⟩
  · rw [e]; exact h.2.2.2.2.1 j j0 (by omega)
theorem PUSH.fr {g gx g' : List en_E} {o a : Int} (h : PUSH gx g' o a) (h240 : gA gx 240 = gA g 240) (h241 : gA gx 241 = gA g 241) (h23 : gI gx 231 23 = gI g 231 23) : PUSH g g' o a := by
  have e : pI gx 23 = pI g 23 := congrArg Int32.toInt h23
  obtain ⟨e1, e2, e3, e4, e5⟩ := h
  rw [e] at e1 e2 e3 e4 e5
  exact ⟨e1, fun i i0 hi => (e2 i i0 hi).trans (eA_c h240), fun i i0 hi => (e3 i i0 hi).trans (eA_c h241), e4, e5⟩
/-- where the innermost bracket is known -/
theorem INN.n31 {g : List en_E} {r : Int} (h : INN g (pI g 23) r) (n : NSQ g) : r ≠ 31 := fun e => by
  rcases h with ⟨h, _⟩ | ⟨_, j, j0, j1, hj, _⟩
  · omega
  · exact n j j0 j1 (by omega)
theorem INN.fr {g : List en_E} {b t r : Int} (i : INVM g b t) (h : INN g (pI g 23) r) : (r = -1 ∧ ucF (FG g b) = [b]) ∨ (r = 30 ∧ ∃ R, ucF (FG g b) = 1 :: R) ∨ (r = 31 ∧ ∃ R, ucF (FG g b) = 0 :: R) := by
  have hp := i.2.2.2.2.2
  rcases h with ⟨h1, h2⟩ | ⟨h1, k, k0, k1, k2, k3⟩
  · left
    refine ⟨h1, ?_⟩
    have z : ucF (FG g b) = ucF (FRM (pP g) b 0) := FRM.pop (Int.le_refl 0) hp (fun j j0 j1 => h2 j j0 j1)
    rw [z, FRM.z (Int.le_refl 0)]
    exact ucF_c [] (by have := i.1; omega)
  · right
    have z : ucF (FG g b) = ucF (FRM (pP g) b (k + 1)) := FRM.pop (by omega) (by omega) (fun j j0 j1 => k3 j (by omega) j1)
    have y := i.2.2.2.2.1 k k0 k1
    have k2' : pP g k = r := k2
    by_cases c : r = 31
    · right
      refine ⟨c, FRM (pP g) b k, z.trans ?_⟩
      rw [FRM.sq k0 rfl (by omega)]
      exact ucF_c _ (by decide)
    · left
      refine ⟨by omega, FRM (pP g) b k, z.trans ?_⟩
      rw [FRM.rd k0 rfl (by omega)]
      exact ucF_c _ (by decide)
theorem INN.b4 {g : List en_E} {b t r : Int} (i : INVM g b t) (h : INN g (pI g 23) r) (h1 : r ≠ -1) (h2 : r ≠ 31) : b = 4 := by
  rcases i.1 with e | e
  · exfalso
    rcases h with ⟨a1, a2⟩ | ⟨a1, k, k0, k1, k2, k3⟩
    · exact h1 a1
    · have y := i.2.2.2.2.1 k k0 k1
      have k2' : pP g k = r := k2
      exact (i.2.1 e).2.2 k k0 k1 (by omega)
  · exact e
/-- whether a comparison stands already -/
def CMPD (g : List en_E) (r : Int) : Prop := (r = 1 ∧ ∃ k, 0 ≤ k ∧ k < pI g 23 ∧ (24 ≤ pP g k ∧ pP g k ≤ 26) ∧ ∀ j : Int, k < j → j < pI g 23 → pP g j ≤ 23) ∨ (r = 0 ∧ ((∀ j : Int, 0 ≤ j → j < pI g 23 → pP g j ≤ 23) ∨ ∃ k, 0 ≤ k ∧ k < pI g 23 ∧ (pP g k < 20 ∨ 26 < pP g k) ∧ ∀ j : Int, k < j → j < pI g 23 → pP g j ≤ 23))
theorem CMPD.fr {g : List en_E} {b t r : Int} (i : INVM g b t) (h : CMPD g r) : (r ≠ 0 → ∃ F, FG g b = upF F) ∧ (r = 0 → ucF (FG g b) = FG g b) := by
  have hp := i.2.2.2.2.2
  have A : ∀ k, 0 ≤ k → k < pI g 23 → (∀ j : Int, k < j → j < pI g 23 → pP g j ≤ 23) → FG g b = FRM (pP g) b (k + 1) := fun k k0 k1 h => FRM.popA (by omega) (by omega) (fun j j0 j1 => h j (by omega) j1)
  rcases h with ⟨h1, k, k0, k1, k2, k3⟩ | ⟨h1, h2 | ⟨k, k0, k1, k2, k3⟩⟩
  · exact ⟨fun _ => ⟨_, (A k k0 k1 k3).trans (FRM.cm k0 rfl k2)⟩, fun e => by omega⟩
  · refine ⟨fun e => absurd h1 e, fun _ => ?_⟩
    have z : FG g b = FRM (pP g) b 0 := FRM.popA (Int.le_refl 0) hp (fun j j0 j1 => h2 j j0 j1)
    rw [z, FRM.z (Int.le_refl 0)]
    exact ucF_c [] (by have := i.1; omega)
  · refine ⟨fun e => absurd h1 e, fun _ => ?_⟩
    have y := i.2.2.2.2.1 k k0 k1
    rw [A k k0 k1 k3]
    by_cases c1 : pP g k = 31
    · rw [FRM.sq k0 rfl c1]; exact ucF_c _ (by decide)
    · by_cases c2 : pP g k = 30
      · rw [FRM.rd k0 rfl c2]; exact ucF_c _ (by decide)
      · rw [FRM.lo k0 rfl ⟨by omega, by omega⟩, ucF_u]
theorem up_inv {F G R : List Int} {f : Int} (h : ucF F = f :: R) (hf : f = 1 ∨ f = 4) (hu : F = upF G) : F = (f + 1) :: R := by
  have z := ucF_inv h
  have y : F ≠ f :: R := fun e => by
    rw [hu] at e
    cases G with
    | nil => cases e
    | cons a A =>
      rw [upF_cons] at e
      have e1 := (List.cons.inj e).1
      split at e1 <;> omega
  rcases hf with e | e
  · subst e
    exact (z.2.2.1 rfl).resolve_left y
  · subst e
    exact (z.2.2.2.1 rfl).resolve_left y
section MS
variable {T : Int → Int} {n : Int} {c0 : CF} {g gs gx g' : List en_E} {b c q o a : Int}
theorem M.sq (h : CSM T n c0 g b 1) (k : TOK T n (pI g 9) c (pI g' 9)) (hc : c = 3) (h8 : pI g 24 < 8) (hE : PUSH g g' o a) (ho : o = 31) (h24 : pI g' 24 = pI g 24 + 1) (h20 : pI g' 20 = pI g 20) (h15 : pI g' 15 = pI g 15) (e : pI g 14 = 0 → pI g' 14 = 0 ∧ pI g' 13 = pI g 13) (eb : pI g 14 ≠ 0 → pI g' 14 = pI g 14 ∧ pI g' 13 = pI g 13) : CSM T n c0 g' b 1 := h.on (fun z i => by
  have l := i.len
  have f := (FG.push (b := b) hE i.2.2.2.2.2).1 ho
  refine ⟨i.push hE (by omega) (by rw [h24, if_pos (by omega)]) (fun _ => by omega) (fun e => absurd e (by decide)), RUN.st ?_⟩
  rw [cfgM.n (by decide), cfgM.n (by decide), f, h20, h15]
  exact S.sq k hc (by omega)) e eb
theorem M.sqF (h : CSM T n c0 g b 1) (k : TOK T n (pI g 9) c q) (hc : c = 3) (h8 : 8 ≤ pI g 24) (e : pI g 14 = 0 → pI g' 14 ≠ 0 ∧ pI g' 13 = pI g 9) (eb : pI g 14 ≠ 0 → pI g' 14 = pI g 14 ∧ pI g' 13 = pI g 13) (t' : Int) : CSM T n c0 g' b t' := h.bad (fun z i => by
  have l := i.len
  rw [cfgM.n (by decide)]
  exact RUN.st (S.sqF k hc (by omega))) e eb
theorem M.leaf (h : CSM T n c0 g b 1) (k : TOK T n (pI g 9) c (pI g' 9)) (hc : (40 ≤ c ∧ c ≤ 48) ∨ 100 ≤ c) (hm : pI g 20 < 50) (hA : gA g' 240 = gA g 240) (hp : pI g' 23 = pI g 23) (h24 : pI g' 24 = pI g 24) (h20 : pI g' 20 = pI g 20 + 1) (h15 : pI g' 15 = pI g 15) (e : pI g 14 = 0 → pI g' 14 = 0 ∧ pI g' 13 = pI g 13) (eb : pI g 14 ≠ 0 → pI g' 14 = pI g 14 ∧ pI g' 13 = pI g 13) : CSM T n c0 g' b 3 := h.on (fun z i => by
  have f := i.eq (t' := 3) hA hp h24 (Or.inr ⟨by decide, fun _ => by decide⟩)
  refine ⟨f.2, RUN.st ?_⟩
  rw [cfgM.n (by decide), cfgM.n (by decide), f.1, h15]
  exact S.leaf k hc hm h20) e eb
theorem M.leafF (h : CSM T n c0 g b 1) (k : TOK T n (pI g 9) c q) (hc3 : c ≠ 3) (hc : ¬ (((40 ≤ c ∧ c ≤ 48) ∨ 100 ≤ c) ∧ pI g 20 < 50)) (e : pI g 14 = 0 → pI g' 14 ≠ 0 ∧ pI g' 13 = pI g 9) (eb : pI g 14 ≠ 0 → pI g' 14 = pI g 14 ∧ pI g' 13 = pI g 13) (t' : Int) : CSM T n c0 g' b t' := h.bad (fun z i => by
  rw [cfgM.n (by decide)]
  exact RUN.st (S.leafF k hc3 hc)) e eb
theorem M.plain (h : CSM T n c0 g b 0) (k : TOK T n (pI g 9) c q) (h1 : c ≠ 1) (h2 : c ≠ 2) : CSM T n c0 g b 1 := h.on (fun z i => by
  have f := i.eq (g' := g) (t' := 1) rfl rfl rfl (Or.inr ⟨by decide, fun _ => by decide⟩)
  refine ⟨f.2, RUN.st ?_⟩
  rw [cfgM.n (by decide), cfgM.n (by decide)]
  exact S.plain k h1 h2) (fun z => ⟨z, rfl⟩) (fun _ => ⟨rfl, rfl⟩)
theorem M.not (h : CSM T n c0 g b 0) (k : TOK T n (pI g 9) c (pI g' 9)) (hc : c = 1) (hE : PUSH g g' o a) (ho : o = 27) (h24 : pI g' 24 = pI g 24) (h20 : pI g' 20 = pI g 20) (h15 : pI g' 15 = pI g 15) (e : pI g 14 = 0 → pI g' 14 = 0 ∧ pI g' 13 = pI g 13) (eb : pI g 14 ≠ 0 → pI g' 14 = pI g 14 ∧ pI g' 13 = pI g 13) : CSM T n c0 g' b 0 := h.on (fun z i => by
  have f := (FG.push (b := b) hE i.2.2.2.2.2).2.2.2.1 (by omega)
  rw [i.2.2.1 rfl] at f
  refine ⟨i.push hE (by omega) (by rw [h24, if_neg (by omega)]; omega) (fun e => absurd rfl (i.2.1 e).1) (fun _ => by rw [f]; exact i.2.2.1 rfl), RUN.st ?_⟩
  rw [cfgM.n (by decide), cfgM.n (by decide), f, h20, h15]
  exact S.not k hc) e eb
theorem M.rnd (h : CSM T n c0 g b 0) (k : TOK T n (pI g 9) c (pI g' 9)) (hc : c = 2) (h8 : pI g 24 < 8) (hE : PUSH g g' o a) (ho : o = 30) (h24 : pI g' 24 = pI g 24 + 1) (h20 : pI g' 20 = pI g 20) (h15 : pI g' 15 = pI g 15) (e : pI g 14 = 0 → pI g' 14 = 0 ∧ pI g' 13 = pI g 13) (eb : pI g 14 ≠ 0 → pI g' 14 = pI g 14 ∧ pI g' 13 = pI g 13) : CSM T n c0 g' b 0 := h.on (fun z i => by
  have l := i.len
  have f := (FG.push (b := b) hE i.2.2.2.2.2).2.1 ho
  refine ⟨i.push hE (by omega) (by rw [h24, if_pos (by omega)]) (fun e => absurd rfl (i.2.1 e).1) (fun _ => by rw [f]; exact ucF_c _ (by decide)), RUN.st ?_⟩
  rw [cfgM.n (by decide), cfgM.n (by decide), f, h20, h15]
  exact S.rnd k hc (by omega)) e eb
theorem M.rndF (h : CSM T n c0 g b 0) (k : TOK T n (pI g 9) c q) (hc : c = 2) (h8 : 8 ≤ pI g 24) (e : pI g 14 = 0 → pI g' 14 ≠ 0 ∧ pI g' 13 = pI g 9) (eb : pI g 14 ≠ 0 → pI g' 14 = pI g 14 ∧ pI g' 13 = pI g 13) (t' : Int) : CSM T n c0 g' b t' := h.bad (fun z i => by
  have l := i.len
  rw [cfgM.n (by decide)]
  exact RUN.st (S.rndF k hc (by omega))) e eb
theorem M.join (h : CSM T n c0 g b 3) (k : TOK T n (pI g 9) c (pI g' 9)) (hc : 20 ≤ c ∧ c ≤ 23) (hs : SETQ g gs o) (h5 : 5 ≤ o) {o' : Int} (hE : PUSH gs g' o' a) (ho : 20 ≤ o' ∧ o' ≤ 23) (hs24 : pI gs 24 = pI g 24) (h24 : pI g' 24 = pI gs 24) (h20 : pI g' 20 = pI g 20) (h15 : pI g' 15 = pI g 15) (e : pI g 14 = 0 → pI g' 14 = 0 ∧ pI g' 13 = pI g 13) (eb : pI g 14 ≠ 0 → pI g' 14 = pI g 14 ∧ pI g' 13 = pI g 13) : CSM T n c0 g' b 1 := h.on (fun z i => by
  have i2 := i.settle (t' := 1) hs hs24 ⟨by decide, fun _ => by decide⟩
  have f := (FG.push (b := b) hE i2.2.2.2.2.2).2.2.2.2 ho.2
  rw [(FG.settle (b := b) hs).2.1 h5] at f
  refine ⟨i2.push hE (by omega) (by rw [h24, if_neg (by omega)]; omega) (fun _ => by omega) (fun e => absurd e (by decide)), RUN.st ?_⟩
  rw [cfgM.n (by decide), cfgM.n (by decide), f, h20, h15]
  exact S.join k hc) e eb
theorem M.close {g2 : List en_E} {t t' : Int} (i : INVM g b t) (hs : SETQ g gs o) (hs24 : pI gs 24 = pI g 24) (hA : gA g2 240 = gA gs 240) (hp : pI g2 23 = pI gs 23 - 1) (h1 : 1 ≤ pI gs 23) (h30 : 30 ≤ pP gs (pI gs 23 - 1)) (h24 : pI g2 24 = pI gs 24 - 1) (ht : t' ≠ 0 ∧ (b = 3 → t' ≠ 2)) {R : List Int} {f : Int} (hf : f = 0 ∨ f = 1) (hu : ucF (FG g b) = f :: R) : INVM g2 b t' ∧ R = FG g2 b := by
  have i2 := i.settle (t' := 1) hs hs24 ⟨by decide, fun _ => by decide⟩
  have i3 := i2.popB (t' := t') hA hp h1 h30 h24 ht
  refine ⟨i3, ?_⟩
  have y := FG.popB (b := b) hA hp h1
  have u := (FG.settle (b := b) hs).1
  rw [hu] at u
  have w := i2.2.2.2.2.1 (pI gs 23 - 1) (by omega) (by omega)
  by_cases c : pP gs (pI gs 23 - 1) = 31
  · rw [y.1 c, ucF_c _ (by decide)] at u
    exact ((List.cons.inj u).2).symm
  · rw [y.2.1 (by omega), ucF_c _ (by decide)] at u
    exact ((List.cons.inj u).2).symm
theorem M.sqE (h : CSM T n c0 g b 3) (k : TOK T n (pI g 9) c (pI g' 9)) (hc : c = 6) (hi : INN g (pI g 23) o) (ho : o = 31) {o' : Int} (hs : SETQ g gs o') (hs24 : pI gs 24 = pI g 24) (hA : gA g' 240 = gA gs 240) (hp : pI g' 23 = pI gs 23 - 1) (h1 : 1 ≤ pI gs 23) (h30 : 30 ≤ pP gs (pI gs 23 - 1)) (h24 : 0 ≤ pI gs 24 → pI g' 24 = pI gs 24 - 1) (h20 : pI g' 20 = pI g 20) (h15 : pI g' 15 = pI g 15) (e : pI g 14 = 0 → pI g' 14 = 0 ∧ pI g' 13 = pI g 13) (eb : pI g 14 ≠ 0 → pI g' 14 = pI g 14 ∧ pI g' 13 = pI g 13) : CSM T n c0 g' b 3 := h.on (fun z i => by
  rcases hi.fr i with w | w | ⟨w, R, hR⟩
  · omega
  · omega
  · have y := M.close (t' := 3) i hs hs24 hA hp h1 h30 (h24 (by rw [hs24, i.2.2.2.1]; exact BRK.nn _ _)) ⟨by decide, fun _ => by decide⟩ (Or.inl rfl) hR
    refine ⟨y.1, RUN.st ?_⟩
    rw [cfgM.n (by decide), cfgM.n (by decide), (ucF_inv hR).1 rfl, ← y.2, h20, h15]
    exact S.sqE k hc) e eb
theorem M.sqEF (h : CSM T n c0 g b 3) (k : TOK T n (pI g 9) c q) (hc : ¬ (20 ≤ c ∧ c ≤ 23)) (hc6 : c ≠ 6) (hi : INN g (pI g 23) o) (ho : o = 31) (e : pI g 14 = 0 → pI g' 14 ≠ 0 ∧ pI g' 13 = pI g 9) (eb : pI g 14 ≠ 0 → pI g' 14 = pI g 14 ∧ pI g' 13 = pI g 13) (t' : Int) : CSM T n c0 g' b t' := h.bad (fun z i => by
  rcases hi.fr i with w | w | ⟨w, R, hR⟩
  · omega
  · omega
  · rw [cfgM.n (by decide), (ucF_inv hR).1 rfl]
    exact RUN.st (S.sqEF k hc hc6)) e eb
theorem M.sum (h : CSM T n c0 g b 3) (hb : b = 3) (k : TOK T n (pI g 9) c q) (hc : ¬ (20 ≤ c ∧ c ≤ 23)) (hi : INN g (pI g 23) o) (ho : o = -1) (hA : gA g' 240 = gA g 240) (hp : pI g' 23 = pI g 23) (h24 : pI g' 24 = pI g 24) (h9 : pI g' 9 = pI g 9) (h20 : pI g' 20 = pI g 20) (h15 : pI g' 15 = pI g 15) (e : pI g 14 = 0 → pI g' 14 = 0 ∧ pI g' 13 = pI g 13) (eb : pI g 14 ≠ 0 → pI g' 14 = pI g 14 ∧ pI g' 13 = pI g 13) : CSM T n c0 g' b 4 := h.on (fun z i => by
  subst hb
  rcases hi.fr i with ⟨w, hR⟩ | w | w
  · have f := i.eq (t' := 4) hA hp h24 (Or.inr ⟨by decide, fun _ => by decide⟩)
    refine ⟨f.2, RUN.st ?_⟩
    rw [cfgM.n (by decide), cfgM.o3, (ucF_inv hR).2.1 rfl, h20, h15, h9]
    exact S.sum k hc
  · omega
  · omega) e eb
theorem M.tst (hi : INN g (pI g 23) o) (ho : o ≠ 31) {t : Int} (i : INVM g b t) (hb : b = 4) : ∃ f R, (f = 1 ∨ f = 4) ∧ ucF (FG g b) = f :: R := by
  rcases hi.fr i with ⟨w, hR⟩ | ⟨w, R, hR⟩ | ⟨w, _⟩
  · exact ⟨b, [], Or.inr hb, hR⟩
  · exact ⟨1, R, Or.inl rfl, hR⟩
  · exact absurd w ho
theorem M.told (h : CSM T n c0 g b 3) (hb : pI g 14 = 0 → INVM g b 3 → b = 4) (k : TOK T n (pI g 9) c q) (hc : ¬ (20 ≤ c ∧ c ≤ 23)) (hi : INN g (pI g 23) o) (ho : o ≠ 31) {r : Int} (hr : CMPD g r) (hr1 : r ≠ 0) (hA : gA g' 240 = gA g 240) (hp : pI g' 23 = pI g 23) (h24 : pI g' 24 = pI g 24) (h9 : pI g' 9 = pI g 9) (h20 : pI g' 20 = pI g 20) (h15 : pI g' 15 = pI g 15) (e : pI g 14 = 0 → pI g' 14 = 0 ∧ pI g' 13 = pI g 13) (eb : pI g 14 ≠ 0 → pI g' 14 = pI g 14 ∧ pI g' 13 = pI g 13) : CSM T n c0 g' b 2 := h.on (fun z i => by
  have b4 := hb z i
  obtain ⟨f, R, hf, hR⟩ := M.tst hi ho i b4
  obtain ⟨F, hF⟩ := (hr.fr i).1 hr1
  have y := up_inv hR hf hF
  have w := i.eq (t' := 2) hA hp h24 (Or.inr ⟨by decide, fun e => by omega⟩)
  refine ⟨w.2, RUN.st ?_⟩
  rw [cfgM.n (by decide), cfgM.t, w.1, hR, y, h20, h15, h9]
  exact S.told k hc hf) e eb
theorem M.cmp (h : CSM T n c0 g b 3) (hb : pI g 14 = 0 → INVM g b 3 → b = 4) (k : TOK T n (pI g 9) c (pI g' 9)) (hc : 24 ≤ c ∧ c ≤ 26) (hi : INN g (pI g 23) o) (ho : o ≠ 31) {r : Int} (hr : CMPD g r) (hr1 : r = 0) {o1 o2 : Int} (hs : SETQ g gs o1) (h5 : 5 ≤ o1) (hE : PUSH gs g' o2 a) (ho2 : 24 ≤ o2 ∧ o2 ≤ 26) (hs24 : pI gs 24 = pI g 24) (h24 : pI g' 24 = pI gs 24) (h20 : pI g' 20 = pI g 20) (h15 : pI g' 15 = pI g 15) (e : pI g 14 = 0 → pI g' 14 = 0 ∧ pI g' 13 = pI g 13) (eb : pI g 14 ≠ 0 → pI g' 14 = pI g 14 ∧ pI g' 13 = pI g 13) : CSM T n c0 g' b 1 := h.on (fun z i => by
  have b4 := hb z i
  obtain ⟨f, R, hf, hR⟩ := M.tst hi ho i b4
  have y := (hr.fr i).2 hr1
  rw [hR] at y
  have i2 := i.settle (t' := 1) hs hs24 ⟨by decide, fun _ => by decide⟩
  have u := (FG.push (b := b) hE i2.2.2.2.2.2).2.2.1 ho2
  rw [(FG.settle (b := b) hs).2.1 h5, ← y, upF_cons, if_pos hf] at u
  refine ⟨i2.push hE (by omega) (by rw [h24, if_neg (by omega)]; omega) (fun _ => by omega) (fun e => absurd e (by decide)), RUN.st ?_⟩
  rw [cfgM.n (by decide), cfgM.n (by decide), u, ← y, h20, h15]
  exact S.cmp k hc hf) e eb
theorem M.cmpF (h : CSM T n c0 g b 3) (hb : pI g 14 = 0 → INVM g b 3 → b = 4) (k : TOK T n (pI g 9) c q) (hc1 : ¬ (20 ≤ c ∧ c ≤ 23)) (hc : ¬ (24 ≤ c ∧ c ≤ 26)) (hi : INN g (pI g 23) o) (ho : o ≠ 31) {r : Int} (hr : CMPD g r) (hr1 : r = 0) (e : pI g 14 = 0 → pI g' 14 ≠ 0 ∧ pI g' 13 = pI g 9) (eb : pI g 14 ≠ 0 → pI g' 14 = pI g 14 ∧ pI g' 13 = pI g 13) (t' : Int) : CSM T n c0 g' b t' := h.bad (fun z i => by
  have b4 := hb z i
  obtain ⟨f, R, hf, hR⟩ := M.tst hi ho i b4
  have y := (hr.fr i).2 hr1
  rw [hR] at y
  rw [cfgM.n (by decide), ← y]
  exact RUN.st (S.cmpF k hc1 hc hf)) e eb
theorem M.andor (h : CSM T n c0 g b 2) (k : TOK T n (pI g 9) c (pI g' 9)) (hc : 28 ≤ c ∧ c ≤ 29) {o1 o2 : Int} (hs : SETQ g gs o1) (hE : PUSH gs g' o2 a) (ho2 : 28 ≤ o2 ∧ o2 ≤ 29) (hs24 : pI gs 24 = pI g 24) (h24 : pI g' 24 = pI gs 24) (h20 : pI g' 20 = pI g 20) (h15 : pI g' 15 = pI g 15) (e : pI g 14 = 0 → pI g' 14 = 0 ∧ pI g' 13 = pI g 13) (eb : pI g 14 ≠ 0 → pI g' 14 = pI g 14 ∧ pI g' 13 = pI g 13) : CSM T n c0 g' b 0 := h.on (fun z i => by
  have i2 := i.settle (t' := 1) hs hs24 ⟨by decide, fun _ => by decide⟩
  have u := (FG.push (b := b) hE i2.2.2.2.2.2).2.2.2.1 (by omega)
  rw [(FG.settle (b := b) hs).1] at u
  refine ⟨i2.push hE (by omega) (by rw [h24, if_neg (by omega)]; omega) (fun e => absurd rfl (i.2.1 e).2.1) (fun _ => by rw [u, ucF_u]), RUN.st ?_⟩
  rw [cfgM.t, cfgM.n (by decide), u, h20, h15]
  exact S.andor k hc) e eb
theorem M.test (h : CSM T n c0 g b 2) (k : TOK T n (pI g 9) c q) (hc : ¬ (28 ≤ c ∧ c ≤ 29)) (hi : INN g (pI g 23) o) (ho : o = -1) (hA : gA g' 240 = gA g 240) (hp : pI g' 23 = pI g 23) (h24 : pI g' 24 = pI g 24) (h9 : pI g' 9 = pI g 9) (h20 : pI g' 20 = pI g 20) (h15 : pI g' 15 = pI g 15) (e : pI g 14 = 0 → pI g' 14 = 0 ∧ pI g' 13 = pI g 13) (eb : pI g 14 ≠ 0 → pI g' 14 = pI g 14 ∧ pI g' 13 = pI g 13) : CSM T n c0 g' b 4 := h.on (fun z i => by
  have b4 : b = 4 := i.1.resolve_left (fun e => absurd rfl (i.2.1 e).2.1)
  subst b4
  rcases hi.fr i with ⟨w, hR⟩ | w | w
  · have f := i.eq (t' := 4) hA hp h24 (Or.inr ⟨by decide, fun _ => by decide⟩)
    refine ⟨f.2, RUN.st ?_⟩
    rw [cfgM.t, cfgM.o4, hR, h20, h15, h9]
    exact S.test k hc
  · omega
  · omega) e eb
theorem M.rndE (h : CSM T n c0 g b 2) (k : TOK T n (pI g 9) c (pI g' 9)) (hc : c = 9) (hi : INN g (pI g 23) o) (ho : o ≠ -1 ∧ o ≠ 31) {o' : Int} (hs : SETQ g gs o') (hs24 : pI gs 24 = pI g 24) (hA : gA g' 240 = gA gs 240) (hp : pI g' 23 = pI gs 23 - 1) (h1 : 1 ≤ pI gs 23) (h30 : 30 ≤ pP gs (pI gs 23 - 1)) (h24 : 0 ≤ pI gs 24 → pI g' 24 = pI gs 24 - 1) (h20 : pI g' 20 = pI g 20) (h15 : pI g' 15 = pI g 15) (e : pI g 14 = 0 → pI g' 14 = 0 ∧ pI g' 13 = pI g 13) (eb : pI g 14 ≠ 0 → pI g' 14 = pI g 14 ∧ pI g' 13 = pI g 13) : CSM T n c0 g' b 2 := h.on (fun z i => by
  rcases hi.fr i with w | ⟨w, R, hR⟩ | w
  · omega
  · have y := M.close (t' := 2) i hs hs24 hA hp h1 h30 (h24 (by rw [hs24, i.2.2.2.1]; exact BRK.nn _ _)) ⟨by decide, fun e => absurd rfl (i.2.1 e).2.1⟩ (Or.inr rfl) hR
    refine ⟨y.1, RUN.st ?_⟩
    rw [cfgM.t, cfgM.t, hR, ← y.2, h20, h15]
    exact S.rndE k hc
  · omega) e eb
theorem M.rndEF (h : CSM T n c0 g b 2) (k : TOK T n (pI g 9) c q) (hc : ¬ (28 ≤ c ∧ c ≤ 29)) (hc9 : c ≠ 9) (hi : INN g (pI g 23) o) (ho : o ≠ -1 ∧ o ≠ 31) (e : pI g 14 = 0 → pI g' 14 ≠ 0 ∧ pI g' 13 = pI g 9) (eb : pI g 14 ≠ 0 → pI g' 14 = pI g 14 ∧ pI g' 13 = pI g 13) (t' : Int) : CSM T n c0 g' b t' := h.bad (fun z i => by
  rcases hi.fr i with w | ⟨w, R, hR⟩ | w
  · omega
  · rw [cfgM.t, hR]
    exact RUN.st (S.rndEF k hc hc9)
  · omega) e eb
end MS
/-! ===== the next token ===== -/
def WLI (g : List en_E) (f t w : Int) : Prop := (∀ j, f ≤ j → j < t → smP (TM g j)) ∧ (t - f ≤ 10 → w = VAL (TM g) f t) ∧ (10 < t - f → w = -1)
def DLI (g : List en_E) (f t w : Int) : Prop := (∀ j, f ≤ j → j < t → dgP (TM g j)) ∧ (w = NUM (TM g) f t ∨ (1000000 < w ∧ 1000000 < NUM (TM g) f t))
theorem BLKM.st {g : List en_E} {b i i' : Int} (h : ∀ j : Int, b ≤ j → j < i → TM g j = 32) (hi : i' = i + 1) (e : TM g i = 32) : ∀ j : Int, b ≤ j → j < i' → TM g j = 32 := fun j h0 h1 => by
  by_cases x : j = i
  · rw [x]; exact e
  · exact h j h0 (by omega)
theorem WLI.z {g : List en_E} {f t w : Int} (h : t = f) (hw : w = 0) : WLI g f t w := ⟨fun j a b => absurd b (by omega), fun _ => by rw [hw]; exact (VAL.z _ h).symm, fun e => absurd e (by omega)⟩
theorem DLI.z {g : List en_E} {f t w : Int} (h : t = f) (hw : w = 0) : DLI g f t w := ⟨fun j a b => absurd b (by omega), Or.inl (by rw [hw]; exact (NUM.z _ h).symm)⟩
theorem ladd_e {x y v : Int64} (h : v = x + y) (h1 : -4611686018427387904 ≤ x.toInt) (h2 : x.toInt ≤ 4611686018427387903) (h3 : -4611686018427387904 ≤ y.toInt) (h4 : y.toInt ≤ 4611686018427387903) : v.toInt = x.toInt + y.toInt := by
  rw [h, Int64.toInt_add]
  exact Int.bmod_eq_of_le (by omega) (by omega)
theorem lsub_e {x y v : Int64} (h : v = x - y) (h1 : -4611686018427387904 ≤ x.toInt) (h2 : x.toInt ≤ 4611686018427387903) (h3 : -4611686018427387904 ≤ y.toInt) (h4 : y.toInt ≤ 4611686018427387903) : v.toInt = x.toInt - y.toInt := by
  rw [h, Int64.toInt_sub]
  exact Int.bmod_eq_of_le (by omega) (by omega)
theorem lmul_e {x y v : Int64} {k : Int} (h : v = x * y) (hy : y.toInt = k) (hk : k = 10 ∨ k = 32) (h1 : 0 ≤ x.toInt) (h2 : x.toInt ≤ 36028797018963968) : v.toInt = k * x.toInt := by
  rw [h, Int64.toInt_mul, hy, Int.mul_comm]
  rcases hk with e | e <;> subst e <;> exact Int.bmod_eq_of_le (by omega) (by omega)
theorem WLI.st {g : List en_E} {f t t' : Int} {w k m a s z r : Int64} (h : WLI g f t w.toInt) (hf : f ≤ t) (hc : smP (TM g t)) (et : t' = t + 1) (hl : t - f < 10) (hk : k.toInt = 32) (o1 : m = w * k) (ha : a.toInt = TM g t) (o2 : s = m + a) (hz : z.toInt = 96) (o3 : r = s - z) : WLI g f t' r.toInt := by
  have hl2 : ∀ j : Int, f ≤ j → j < t' → smP (TM g j) := fun j a b => by
    by_cases e : j = t
    · rw [e]; exact hc
    · exact h.1 j a (by omega)
  refine ⟨hl2, fun _ => ?_, fun e => absurd e (by omega)⟩
  have v := h.2.1 (by omega)
  have L := vlv.lt (T := TM g) (p := f) (t - f).toNat (fun i hi => h.1 _ (by omega) (by omega))
  have P := vlv.pos (T := TM g) (p := f) (t - f).toNat (fun i hi => h.1 _ (by omega) (by omega))
  have M := h32.mono (9 - (t - f).toNat) (t - f).toNat
  rw [show (t - f).toNat + (9 - (t - f).toNat) = 9 by omega] at M
  have n9 : h32 9 = 35184372088832 := by decide
  have v' : w.toInt = vlv (TM g) f (t - f).toNat := v
  unfold smP at hc
  have q1 := lmul_e o1 hk (Or.inr rfl) (by omega) (by omega)
  have q2 := ladd_e o2 (by omega) (by omega) (by omega) (by omega)
  have q3 := lsub_e o3 (by omega) (by omega) (by omega) (by omega)
  rw [VAL.s (TM g) hf et, ← v]
  omega
theorem WLI.st2 {g : List en_E} {f t t' w r : Int} (h : WLI g f t w) (hc : smP (TM g t)) (et : t' = t + 1) (hl : 10 ≤ t - f) (hr : r = -1) : WLI g f t' r := ⟨fun j a b => by
  by_cases e : j = t
  · rw [e]; exact hc
  · exact h.1 j a (by omega), fun e => absurd e (by omega), fun _ => hr⟩
theorem DLI.st {g : List en_E} {f t t' : Int} {w k m a s z r : Int64} (h : DLI g f t w.toInt) (hf : f ≤ t) (hc : dgP (TM g t)) (et : t' = t + 1) (hl : w.toInt ≤ 1000000) (hk : k.toInt = 10) (o1 : m = w * k) (ha : a.toInt = TM g t) (o2 : s = m + a) (hz : z.toInt = 48) (o3 : r = s - z) : DLI g f t' r.toInt := by
  have hl2 : ∀ j : Int, f ≤ j → j < t' → dgP (TM g j) := fun j a b => by
    by_cases e : j = t
    · rw [e]; exact hc
    · exact h.1 j a (by omega)
  refine ⟨hl2, Or.inl ?_⟩
  have v := h.2.resolve_right (by omega)
  have P := (NUM.ge (T := TM g) (p := f) (i := t) (e := t) h.1 hf (Int.le_refl t)).1
  unfold dgP at hc
  have q1 := lmul_e o1 hk (Or.inl rfl) (by omega) (by omega)
  have q2 := ladd_e o2 (by omega) (by omega) (by omega) (by omega)
  have q3 := lsub_e o3 (by omega) (by omega) (by omega) (by omega)
  rw [NUM.s (TM g) hf et, ← v]
  omega
theorem DLI.st2 {g : List en_E} {f t t' w r : Int} (h : DLI g f t w) (hf : f ≤ t) (hc : dgP (TM g t)) (et : t' = t + 1) (hl : 1000000 < w) (hr : r = w) : DLI g f t' r := by
  have hl2 : ∀ j : Int, f ≤ j → j < t' → dgP (TM g j) := fun j a b => by
    by_cases e : j = t
    · rw [e]; exact hc
    · exact h.1 j a (by omega)
  refine ⟨hl2, Or.inr ⟨by omega, ?_⟩⟩
  have P := NUM.ge (T := TM g) (p := f) (i := t) (e := t') hl2 hf (by omega)
  rcases h.2 with e | e <;> omega
section NEXTS
variable {g g' : List en_E} {f t w : Int}
theorem NEXT.e (hA : gA g' 236 = gA g 236) (h8 : gI g' 231 8 = gI g 231 8) (e9 : pI g' 9 = f) (h0 : 0 ≤ f) (s1 : pI g 10 ≤ f) (s2 : f ≤ nM g) (s3 : ∀ j : Int, pI g 10 ≤ j → j < f → TM g j = 32) (s4 : f < nM g → TM g f ≠ 32) (hf : f = nM g) (e11 : pI g' 11 = 0) (e10 : pI g' 10 = f) : TKM g' ∧ SKP (TM g) (nM g) (pI g 10) (pI g' 9) := by
  unfold TKM WTH
  rw [TM.c hA, nM.c h8, e9, e10, e11]
  exact ⟨⟨Or.inl ⟨hf, rfl, rfl⟩, ⟨fun e => absurd e (by decide), fun e => absurd e (by decide), fun e => absurd e (by decide)⟩, h0⟩, s1, s2, s3, s4⟩
theorem NEXT.wo (hA : gA g' 236 = gA g 236) (h8 : gI g' 231 8 = gI g 231 8) (e9 : pI g' 9 = f) (h0 : 0 ≤ f) (s1 : pI g 10 ≤ f) (s2 : f ≤ nM g) (s3 : ∀ j : Int, pI g 10 ≤ j → j < f → TM g j = 32) (s4 : f < nM g → TM g f ≠ 32) (hf : f < nM g) (e11 : pI g' 11 = 1) (e10 : pI g' 10 = t) (ew : wth g' = w) (hl : WLI g f t w) (ht : f < t ∧ t ≤ nM g) (hn : t < nM g → ¬ smP (TM g t)) : TKM g' ∧ SKP (TM g) (nM g) (pI g 10) (pI g' 9) := by
  unfold TKM WTH
  rw [TM.c hA, nM.c h8, e9, e10, e11, ew]
  exact ⟨⟨Or.inr (Or.inl ⟨hf, hl.1 f (Int.le_refl f) ht.1, rfl, ht.1, ht.2, hl.1, hn⟩), ⟨fun e => absurd e (by decide), fun _ => hl.2, fun e => absurd e (by decide)⟩, h0⟩, s1, s2, s3, s4⟩
theorem NEXT.d (hA : gA g' 236 = gA g 236) (h8 : gI g' 231 8 = gI g 231 8) (e9 : pI g' 9 = f) (h0 : 0 ≤ f) (s1 : pI g 10 ≤ f) (s2 : f ≤ nM g) (s3 : ∀ j : Int, pI g 10 ≤ j → j < f → TM g j = 32) (s4 : f < nM g → TM g f ≠ 32) (hf : f < nM g) (e11 : pI g' 11 = 2) (e10 : pI g' 10 = t) (ew : wth g' = w) (hl : DLI g f t w) (ht : f < t ∧ t ≤ nM g) (hn : t < nM g → ¬ dgP (TM g t)) : TKM g' ∧ SKP (TM g) (nM g) (pI g 10) (pI g' 9) := by
  unfold TKM WTH
  rw [TM.c hA, nM.c h8, e9, e10, e11, ew]
  exact ⟨⟨Or.inr (Or.inr (Or.inl ⟨hf, hl.1 f (Int.le_refl f) ht.1, rfl, ht.1, ht.2, hl.1, hn⟩)), ⟨fun e => absurd e (by decide), fun e => absurd e (by decide), fun _ => hl.2⟩, h0⟩, s1, s2, s3, s4⟩
theorem NEXT.s (hA : gA g' 236 = gA g 236) (h8 : gI g' 231 8 = gI g 231 8) (e9 : pI g' 9 = f) (h0 : 0 ≤ f) (s1 : pI g 10 ≤ f) (s2 : f ≤ nM g) (s3 : ∀ j : Int, pI g 10 ≤ j → j < f → TM g j = 32) (s4 : f < nM g → TM g f ≠ 32) (hf : f < nM g) (hsm : ¬ smP (TM g f)) (hdg : ¬ dgP (TM g f)) (e11 : pI g' 11 = 3) (e10 : pI g' 10 = f + 1) (ew : wth g' = TM g f) : TKM g' ∧ SKP (TM g) (nM g) (pI g 10) (pI g' 9) := by
  unfold TKM WTH
  rw [TM.c hA, nM.c h8, e9, e10, e11, ew]
  exact ⟨⟨Or.inr (Or.inr (Or.inr ⟨hf, hsm, hdg, rfl, rfl⟩)), ⟨fun _ => rfl, fun e => absurd e (by decide), fun e => absurd e (by decide)⟩, h0⟩, s1, s2, s3, s4⟩
end NEXTS
/-- must -/
def MUSTP (g g' : List en_E) (b : Int) : Prop := TKM g' ∧ (pI g 14 = 0 → b ≠ 0 → pI g' 14 = 0 ∧ pI g' 13 = pI g 13 ∧ SKP (TM g) (nM g) (pI g 10) (pI g' 9)) ∧ (pI g 14 = 0 → b = 0 → pI g' 14 ≠ 0 ∧ pI g' 13 = pI g 9) ∧ (pI g 14 ≠ 0 → pI g' 14 = pI g 14 ∧ pI g' 13 = pI g 13)
/-- which word of the nine -/
def PAI (c k r : Int) : Prop := (r = -1 ∧ (c < 40 ∨ 40 + k ≤ c)) ∨ (1 ≤ r ∧ r ≤ k ∧ c = 39 + r)
theorem PAI.z {c k r : Int} (h : k = 0) (hr : r = -1) : PAI c k r := by unfold PAI; omega
theorem PAI.st {c k k' r r' v w : Int} (h : PAI c k r) (e : k' = k + 1) (hk : 0 ≤ k) (hb : BL (c = w) v) (hw : w = 40 + k) (hr : (v ≠ 0 ∧ r' = k + 1) ∨ (v = 0 ∧ r' = r)) : PAI c k' r' := by
  unfold PAI at *
  rcases hb with ⟨b1, b2⟩ | ⟨b1, b2⟩ <;> omega
/-- which head of the three -/
def HEI (c k r : Int) : Prop := (r = -1 ∧ (c < 11 ∨ 11 + k ≤ c)) ∨ (0 ≤ r ∧ r < k ∧ c = 11 + r)
theorem HEI.z {c k r : Int} (h : k = 0) (hr : r = -1) : HEI c k r := by unfold HEI; omega
theorem HEI.st {c k k' r r' v w : Int} (h : HEI c k r) (e : k' = k + 1) (hk : 0 ≤ k) (hb : BL (c = w) v) (hw : w = 11 + k) (hr : (v ≠ 0 ∧ r' = k) ∨ (v = 0 ∧ r' = r)) : HEI c k' r' := by
  unfold HEI at *
  rcases hb with ⟨b1, b2⟩ | ⟨b1, b2⟩ <;> omega
theorem CDM.dig {g : List en_E} (k : TKM g) : (pI g 11 = 2 → wth g ≤ 1000 → 100 ≤ CDM g) ∧ (pI g 11 = 2 → 1000 < wth g → CDM g = 15) ∧ (pI g 11 ≠ 2 → CDM g < 100) := by
  refine ⟨fun h h1 => ?_, fun h h1 => ?_, fun h => ?_⟩
  · have w := (k.2.1.2.2 h).resolve_right (by omega)
    have z := k.num h
    have c : CDM g = if NUM (TM g) (pI g 9) (pI g 10) ≤ 1000 then 100 + NUM (TM g) (pI g 9) (pI g 10) else 15 := CDE.n h
    rw [c, if_pos (show NUM (TM g) (pI g 9) (pI g 10) ≤ 1000 from by omega)]
    omega
  · have w := k.2.1.2.2 h
    have c : CDM g = if NUM (TM g) (pI g 9) (pI g 10) ≤ 1000 then 100 + NUM (TM g) (pI g 9) (pI g 10) else 15 := CDE.n h
    rw [c, if_neg (show ¬ NUM (TM g) (pI g 9) (pI g 10) ≤ 1000 from by omega)]
  · have l := k.1.le
    have a := wcd_rg (VAL (TM g) (pI g 9) (pI g 10))
    have b := sgc_rg (TM g (pI g 9))
    unfold isWC at a
    unfold isSC at b
    unfold CDM CDE
    by_cases h0 : pI g 11 = 0
    · rw [if_pos h0]; decide
    · rw [if_neg h0]
      by_cases h1 : pI g 11 = 1
      · rw [if_pos h1]; omega
      · rw [if_neg h1, if_neg h]; omega
theorem MUSTP.z {g g' : List en_E} {b : Int} (m : MUSTP g g' b) (h : (gI g 231 14).toInt = 0) (k : (gI g' 231 14).toInt = 0) : b ≠ 0 ∧ (gI g' 231 13).toInt = (gI g 231 13).toInt := by
  have e : b ≠ 0 := fun z => (m.2.2.1 h z).1 k
  exact ⟨e, (m.2.1 h e).2.1⟩
theorem MUSTP.y {g g' : List en_E} {b : Int} (m : MUSTP g g' b) (h : (gI g 231 14).toInt = 0) (k : (gI g' 231 14).toInt ≠ 0) : b = 0 ∧ (gI g' 231 13).toInt = (gI g 231 9).toInt := by
  have e : b = 0 := Classical.byContradiction (fun z => k (m.2.1 h z).1)
  exact ⟨e, (m.2.2.1 h e).2⟩
theorem MUSTP.w {g g' : List en_E} {b : Int} (m : MUSTP g g' b) (k : (gI g' 231 14).toInt ≠ 0) : ((gI g 231 14).toInt ≠ 0 ∧ (gI g' 231 13).toInt = (gI g 231 13).toInt) ∨ ((gI g 231 14).toInt = 0 ∧ b = 0 ∧ (gI g' 231 13).toInt = (gI g 231 9).toInt) := by
  by_cases h : (gI g 231 14).toInt = 0
  · have z := m.y h k
    exact Or.inr ⟨h, z.1, z.2⟩
  · exact Or.inl ⟨h, (m.2.2.2 h).2⟩
theorem MUSTP.mk {g g' : List en_E} {b : Int} (h1 : TKM g') (h2 : pI g 14 = 0 → b ≠ 0 → pI g' 14 = 0 ∧ pI g' 13 = pI g 13 ∧ SKP (TM g) (nM g) (pI g 10) (pI g' 9)) (h3 : pI g 14 = 0 → b = 0 → pI g' 14 ≠ 0 ∧ pI g' 13 = pI g 9) (h4 : pI g 14 ≠ 0 → pI g' 14 = pI g 14 ∧ pI g' 13 = pI g 13) : MUSTP g g' b := ⟨h1, h2, h3, h4⟩
theorem ISM.mk {g : List en_E} {s w a r k : Int} (e11 : pI g 11 = s) (ew : wth g = w) (h : (s ≠ k ∧ r = 0) ∨ (s = k ∧ w = a ∧ r = 1) ∨ (s = k ∧ w ≠ a ∧ r = 0)) : BL (pI g 11 = k ∧ wth g = a) r := by
  rcases h with ⟨h1, h2⟩ | ⟨h1, h2, h3⟩ | ⟨h1, h2, h3⟩
  · exact Or.inr ⟨h2, fun z => h1 (e11.symm.trans z.1)⟩
  · exact Or.inl ⟨h3, e11.trans h1, ew.trans h2⟩
  · exact Or.inr ⟨h3, fun z => h2 (ew.symm.trans z.2)⟩
theorem WD_1 : ∀ j : Nat, j < 9 → (wd1.getD j 0).toInt = wvl (40 + (j : Int)) ∧ 0 ≤ (wd1.getD j 0).toInt := by decide +kernel
theorem WD_2 : ∀ j : Nat, j < 3 → (wd2.getD j 0).toInt = wvl (11 + (j : Int)) ∧ 0 ≤ (wd2.getD j 0).toInt := by decide +kernel
theorem WDV.a {g : List en_E} (h : HI g) {v : Int64} {j : Int} (hv : v = eK g 242 j) (h0 : 0 ≤ j ∧ j < 9) : v.toInt = wvl (40 + j) ∧ 0 ≤ v.toInt := by
  have z := WD_1 j.toNat (by omega)
  rw [show ((j.toNat : Nat) : Int) = j by omega] at z
  have e : eK g 242 j = wd1.getD j.toNat 0 := by unfold eK; rw [h.2.1.2.1]
  rw [hv, e]
  exact z
theorem WDV.b {g : List en_E} (h : HI g) {v : Int64} {j : Int} (hv : v = eK g 243 j) (h0 : 0 ≤ j ∧ j < 3) : v.toInt = wvl (11 + j) ∧ 0 ≤ v.toInt := by
  have z := WD_2 j.toNat (by omega)
  rw [show ((j.toNat : Nat) : Int) = j by omega] at z
  have e : eK g 243 j = wd2.getD j.toNat 0 := by unfold eK; rw [h.2.1.2.2]
  rw [hv, e]
  exact z
section QL
variable {d : Nat} {xs : Option (List Int32)} {rt : Option FieldType} {bs : en_Bs} {r : List en_Op} {n a b c pc N : Nat} {l : en_L} {st : List Value} {g : List en_E} {Ph : Option Value → en_H → Prop}
theorem q_laldE {p m : Nat} {i : Int32} (h : g[p]? = some (.inl (1, .inr (.inl (gK g p)))) ∧ (gK g p).length = m) (j : Int) (hj : i.toInt = j) (h0 : 0 ≤ j ∧ j < m) (k : ∀ v : Int64, v = eK g p j → Ar d xs rt bs r (pc + n, l, .long v :: st, (g, N)) Ph) : Ar d xs rt bs ((.laload, n, a, b, c) :: r) (pc, l, (.int i :: .ref p :: st), (g, N)) Ph := by
  refine r_lald h.1 (q_ge0 hj h0.1) (q_atL h.2 hj h0) (k _ ?_)
  rfl
end QL
/-- an expression's turn: from one to the next -/
def MTP (g g' : List en_E) (t r : Int) (C : Int → Prop) : Prop := ∀ (c0 : CF) (b : Int), C b → CSM (TM g) (nM g) c0 g b t → CSM (TM g) (nM g) c0 g' b r
/-- a whole expression, over a base -/
def XPM (g g' : List en_E) (b : Int) : Prop := ∀ c0 : CF, pI g 13 = -1 → (pI g 14 = 0 → RUN (TM g) (nM g) c0 ((if b = 3 then 1 else 0), [b], pI g 20, pI g 15, pI g 9)) → (okM g' ∧ RUN (TM g) (nM g) c0 ((if b = 3 then 7 else 8), [], pI g' 20, pI g' 15, pI g' 9)) ∨ (pI g' 14 ≠ 0 ∧ RUN (TM g) (nM g) c0 (BADC (pI g' 13)))
theorem PUSH.fr2 {g gx gp g' : List en_E} {o a : Int} (h : PUSH gx gp o a) (a0 : gA gx 240 = gA g 240) (a1 : gA gx 241 = gA g 241) (p0 : gI gx 231 23 = gI g 231 23) (b0 : gA g' 240 = gA gp 240) (b1 : gA g' 241 = gA gp 241) (q0 : gI g' 231 23 = gI gp 231 23) : PUSH g g' o a := by
  obtain ⟨e1, e2, e3, e4, e5⟩ := h.fr a0 a1 p0
  refine ⟨(congrArg Int32.toInt q0).trans e1, fun i i0 hi => (eA_c b0).trans (e2 i i0 hi), fun i i0 hi => (eA_c b1).trans (e3 i i0 hi), ?_, ?_⟩
  · rw [pE_c b0]; exact e4
  · rw [pE_c b1]; exact e5
theorem SETQ.mk {g g' : List en_E} {a : Int} (h0 : 0 ≤ pI g' 23) (h1 : pI g' 23 ≤ pI g 23) (hA : gA g' 240 = gA g 240) (h2 : ∀ j : Int, pI g' 23 ≤ j → j < pI g 23 → pP g j < 30) (h3 : ∀ j : Int, pI g' 23 ≤ j → j < pI g 23 → 5 ≤ a → pP g j ≤ 23) : SETQ g g' a := ⟨h0, h1, hA, fun j j0 j1 => ⟨h2 j j0 j1, h3 j j0 j1⟩⟩
theorem SETQ.fr {g gx g' : List en_E} {a : Int} (h : SETQ gx g' a) (a0 : gA gx 240 = gA g 240) (p0 : gI gx 231 23 = gI g 231 23) : SETQ g g' a := by
  have e : pP gx = pP g := pE_c a0
  have p : pI gx 23 = pI g 23 := congrArg Int32.toInt p0
  obtain ⟨h0, h1, h2, h3⟩ := h
  rw [p] at h1 h3
  rw [e] at h3
  exact ⟨h0, h1, h2.trans a0, h3⟩
theorem CMPD.fr0 {g gx : List en_E} {r : Int} (h : CMPD gx r) (a0 : gA gx 240 = gA g 240) (p0 : gI gx 231 23 = gI g 231 23) : CMPD g r := by
  have e : pP gx = pP g := pE_c a0
  have p : pI gx 23 = pI g 23 := congrArg Int32.toInt p0
  unfold CMPD at *
  rw [e, p] at h
  exact h
theorem CSM.eqv {T : Int → Int} {n : Int} {c0 : CF} {g g' : List en_E} {b t : Int} (h : CSM T n c0 g b t) (hA : gA g' 240 = gA g 240) (h9 : gI g' 231 9 = gI g 231 9) (h13 : gI g' 231 13 = gI g 231 13) (h14 : gI g' 231 14 = gI g 231 14) (h15 : gI g' 231 15 = gI g 231 15) (h20 : gI g' 231 20 = gI g 231 20) (h23 : gI g' 231 23 = gI g 231 23) (h24 : gI g' 231 24 = gI g 231 24) : CSM T n c0 g' b t := by
  have e : pP g' = pP g := pE_c hA
  unfold CSM okM INVM cfgM FG at *
  rw [e, pI.c h9, pI.c h13, pI.c h14, pI.c h15, pI.c h20, pI.c h23, pI.c h24]
  exact h
theorem MTP.fr {g gx g' : List en_E} {t r : Int} {C : Int → Prop} (m : MTP gx g' t r C) (hT : gA gx 236 = gA g 236) (hn : gI gx 231 8 = gI g 231 8) (hA : gA gx 240 = gA g 240) (h9 : gI gx 231 9 = gI g 231 9) (h13 : gI gx 231 13 = gI g 231 13) (h14 : gI gx 231 14 = gI g 231 14) (h15 : gI gx 231 15 = gI g 231 15) (h20 : gI gx 231 20 = gI g 231 20) (h23 : gI gx 231 23 = gI g 231 23) (h24 : gI gx 231 24 = gI g 231 24) : MTP g g' t r C := fun c0 b hC h => by
  have z := m c0 b hC
  rw [TM.c hT, nM.c hn] at z
  exact z (h.eqv hA h9 h13 h14 h15 h20 h23 h24)
/-- the base of an expression and whether it is a test -/
def HBT (a b : Int) : Prop := (b = 3 ∧ a = 0) ∨ (b = 4 ∧ a ≠ 0)
theorem HBT.b4 {g : List en_E} {a b t r : Int} (h : HBT a b) (i : INVM g b t) (n : INN g (pI g 23) r) (h1 : r ≠ 31) (h2 : r ≠ -1 ∨ a ≠ 0) : b = 4 := by
  rcases h2 with h2 | h2
  · exact INN.b4 i n h2 h1
  · rcases h with h | h
    · exact absurd h.2 h2
    · exact h.1
theorem MUSTP.tok {g g' : List en_E} {b : Int} (k : TKM g) (m : MUSTP g g' b) (h1 : pI g 14 = 0) (h2 : b ≠ 0) : TOK (TM g) (nM g) (pI g 9) (CDM g) (pI g' 9) := k.tok (m.2.1 h1 h2).2.2
theorem CSM.start {T : Int → Int} {n : Int} {c0 : CF} {g : List en_E} {b t : Int} (hb : (b = 3 ∧ t = 1) ∨ (b = 4 ∧ t = 0)) (h14 : pI g 14 = 0) (h13 : pI g 13 = -1) (h23 : pI g 23 = 0) (h24 : pI g 24 = 0) (h : RUN T n c0 ((if b = 3 then 1 else 0), [b], pI g 20, pI g 15, pI g 9)) : CSM T n c0 g b t := by
  have f : FG g b = [b] := by unfold FG; rw [h23]; exact FRM.z (Int.le_refl 0)
  refine Or.inl ⟨⟨h14, h13⟩, ⟨by omega, fun e => ⟨by omega, by omega, fun j j0 j1 => absurd j1 (by omega)⟩, fun e => ?_, by rw [h24, h23]; exact (BRK.z (Int.le_refl 0)).symm, fun j j0 j1 => absurd j1 (by omega), by omega⟩, ?_⟩
  · rw [f]
    exact ucF_c [] (by omega)
  · rw [cfgM.n (by omega), f]
    rcases hb with ⟨e1, e2⟩ | ⟨e1, e2⟩
    · rw [if_pos e1] at h
      rw [e2]
      exact h
    · rw [if_neg (show ¬ b = 3 from by omega)] at h
      rw [e2]
      exact h
theorem XPM.end_ {T : Int → Int} {n : Int} {c0 : CF} {g g' : List en_E} {b t : Int} (h : CSM T n c0 g b t) (ht : pI g 14 = 0 → t = 4) (e9 : pI g' 9 = pI g 9) (e13 : pI g' 13 = pI g 13) (e14 : pI g' 14 = pI g 14) (e15 : pI g' 15 = pI g 15) (e20 : pI g' 20 = pI g 20) : (okM g' ∧ RUN T n c0 ((if b = 3 then 7 else 8), [], pI g' 20, pI g' 15, pI g' 9)) ∨ (pI g' 14 ≠ 0 ∧ RUN T n c0 (BADC (pI g' 13))) := by
  unfold okM
  rw [e9, e13, e14, e15, e20]
  rcases h with ⟨h1, h2, h3⟩ | h
  · left
    refine ⟨h1, ?_⟩
    rw [ht h1.1] at h3
    have e : cfgM g b 4 = ((if b = 3 then 7 else 8), [], pI g 20, pI g 15, pI g 9) := if_pos rfl
    rw [e] at h3
    exact h3
  · exact Or.inr h
/-- between expressions -/
def CLM (T : Int → Int) (n : Int) (c0 : CF) (g : List en_E) (t : Int) : Prop := (okM g ∧ RUN T n c0 (t, [], pI g 20, pI g 15, pI g 9)) ∨ (pI g 14 ≠ 0 ∧ RUN T n c0 (BADC (pI g 13)))
theorem CLM.eqv {T : Int → Int} {n : Int} {c0 : CF} {g g' : List en_E} {t : Int} (h : CLM T n c0 g t) (e9 : pI g' 9 = pI g 9) (e13 : pI g' 13 = pI g 13) (e14 : pI g' 14 = pI g 14) (e15 : pI g' 15 = pI g 15) (e20 : pI g' 20 = pI g 20) : CLM T n c0 g' t := by
  unfold CLM okM at *
  rw [e9, e13, e14, e15, e20]
  exact h
theorem CLM.eqvH {T : Int → Int} {n : Int} {c0 : CF} {g g' : List en_E} {t : Int} (_hI : HI g') (h : CLM T n c0 g t) (e9 : pI g' 9 = pI g 9) (e13 : pI g' 13 = pI g 13) (e14 : pI g' 14 = pI g 14) (e15 : pI g' 15 = pI g 15) (e20 : pI g' 20 = pI g 20) : CLM T n c0 g' t := CLM.eqv h e9 e13 e14 e15 e20
theorem CLM.bad0 {T : Int → Int} {n : Int} {c0 : CF} {g g' : List en_E} {t t' : Int} (h : CLM T n c0 g t) (h1 : pI g 14 ≠ 0) (e13 : pI g' 13 = pI g 13) (e14 : pI g' 14 = pI g 14) : CLM T n c0 g' t' := by
  rcases h with h | h
  · exact absurd h.1.1 h1
  · exact Or.inr ⟨by rw [e14]; exact h.1, by rw [e13]; exact h.2⟩
section CLMS
variable {T : Int → Int} {n : Int} {c0 : CF} {g g' : List en_E} {c q : Int}
/-- a head: fees and ranks have a SUM, bars have none -/
theorem CLM.head (h : CLM T n c0 g 6) (h14 : pI g 14 = 0) (k : TOK T n (pI g 9) c (pI g' 9)) (hc : 11 ≤ c ∧ c ≤ 12) (hk : pI g 15 < 12) (e20 : pI g' 20 = pI g 20) (e15 : pI g' 15 = pI g 15 + 1) (e13 : pI g' 13 = pI g 13) : pI g' 13 = -1 ∧ RUN T n c0 (1, [3], pI g' 20, pI g' 15, pI g' 9) := by
  rcases h with h | h
  · rw [e20]; exact ⟨e13.trans h.1.2, h.2.tr (RUN.st (S.cls k hc hk e15))⟩
  · exact absurd h14 h.1
theorem CLM.headH (_hI : HI g') (h : CLM T n c0 g 6) (h14 : pI g 14 = 0) (k : TOK T n (pI g 9) c (pI g' 9)) (hc : 11 ≤ c ∧ c ≤ 12) (hk : pI g 15 < 12) (e20 : pI g' 20 = pI g 20) (e15 : pI g' 15 = pI g 15 + 1) (e13 : pI g' 13 = pI g 13) : pI g' 13 = -1 ∧ RUN T n c0 (1, [3], pI g' 20, pI g' 15, pI g' 9) := CLM.head h h14 k hc hk e20 e15 e13
theorem CLM.headB (h : CLM T n c0 g 6) (h14 : pI g 14 = 0) (k : TOK T n (pI g 9) c (pI g' 9)) (hc : c = 13) (hk : pI g 15 < 12) (e20 : pI g' 20 = pI g 20) (e15 : pI g' 15 = pI g 15 + 1) (f14 : pI g' 14 = 0) (e13 : pI g' 13 = pI g 13) : CLM T n c0 g' 7 := by
  rcases h with h | h
  · exact Or.inl ⟨⟨f14, e13.trans h.1.2⟩, by rw [e20]; exact h.2.tr (RUN.st (S.clsB k hc hk e15))⟩
  · exact absurd h14 h.1
theorem CLM.headBH (_hI : HI g') (h : CLM T n c0 g 6) (h14 : pI g 14 = 0) (k : TOK T n (pI g 9) c (pI g' 9)) (hc : c = 13) (hk : pI g 15 < 12) (e20 : pI g' 20 = pI g 20) (e15 : pI g' 15 = pI g 15 + 1) (f14 : pI g' 14 = 0) (e13 : pI g' 13 = pI g 13) : CLM T n c0 g' 7 := CLM.headB h h14 k hc hk e20 e15 f14 e13
theorem CLM.headF (h : CLM T n c0 g 6) (h14 : pI g 14 = 0) (k : TOK T n (pI g 9) c q) (hc : ¬ ((11 ≤ c ∧ c ≤ 13) ∧ pI g 15 < 12)) (f14 : pI g' 14 ≠ 0) (f13 : pI g' 13 = pI g 9) (t' : Int) : CLM T n c0 g' t' := by
  rcases h with h | h
  · exact Or.inr ⟨f14, by rw [f13]; exact h.2.tr (RUN.st (S.clsF k hc))⟩
  · exact absurd h14 h.1
theorem CLM.ifs (h : CLM T n c0 g 7) (h14 : pI g 14 = 0) (k : TOK T n (pI g 9) c (pI g' 9)) (hc : c = 10) (e20 : pI g' 20 = pI g 20) (e15 : pI g' 15 = pI g 15) (e13 : pI g' 13 = pI g 13) : pI g' 13 = -1 ∧ RUN T n c0 (0, [4], pI g' 20, pI g' 15, pI g' 9) := by
  rcases h with h | h
  · rw [e20, e15]; exact ⟨e13.trans h.1.2, h.2.tr (RUN.st (S.if_ k hc))⟩
  · exact absurd h14 h.1
theorem CLM.noif (h : CLM T n c0 g 7) (k : TOK T n (pI g 9) c q) (hc : pI g 14 = 0 → c ≠ 10) : CLM T n c0 g 8 := by
  rcases h with h | h
  · exact Or.inl ⟨h.1, h.2.tr (RUN.st (S.noif k (hc h.1.1)))⟩
  · exact Or.inr h
theorem CLM.semi (h : CLM T n c0 g 8) (h14 : pI g 14 = 0) (k : TOK T n (pI g 9) c (pI g' 9)) (hc : c = 14) (e20 : pI g' 20 = pI g 20) (e15 : pI g' 15 = pI g 15) (f14 : pI g' 14 = 0) (e13 : pI g' 13 = pI g 13) : CLM T n c0 g' 6 := by
  rcases h with h | h
  · exact Or.inl ⟨⟨f14, e13.trans h.1.2⟩, by rw [e20, e15]; exact h.2.tr (RUN.st (S.semi k hc))⟩
  · exact absurd h14 h.1
theorem CLM.sum (x : XPM g g' 3) (hT : TM g = T) (hn : nM g = n) (h : pI g 13 = -1 ∧ RUN T n c0 (1, [3], pI g 20, pI g 15, pI g 9)) : CLM T n c0 g' 7 := by
  subst hT hn
  exact x c0 h.1 (fun _ => h.2)
theorem CLM.test (x : XPM g g' 4) (hT : TM g = T) (hn : nM g = n) (h : pI g 13 = -1 ∧ RUN T n c0 (0, [4], pI g 20, pI g 15, pI g 9)) : CLM T n c0 g' 8 := by
  subst hT hn
  exact x c0 h.1 (fun _ => h.2)
end CLMS
/-- a clause -/
def CPM (g g' : List en_E) : Prop := ∀ c0 : CF, CLM (TM g) (nM g) c0 g 6 → CLM (TM g) (nM g) c0 g' 8
/-- the whole text: read, or the place of the fault -/
def RPM (g g' : List en_E) (ok : Prop) : Prop := ∃ q, SKP (TM g) (nM g) 0 q ∧ ((ok ∧ pI g' 13 = -1 ∧ ∃ m k p, RUN (TM g) (nM g) (6, [], 0, 0, q) (9, [], m, k, p)) ∨ (¬ ok ∧ RUN (TM g) (nM g) (6, [], 0, 0, q) (BADC (pI g' 13))))
section CLMW
variable {T : Int → Int} {n : Int} {c0 : CF} {g gs g' : List en_E} {c q : Int}
theorem CLM.start (h14 : pI g 14 = 0) (h13 : pI g 13 = -1) (h20 : pI g 20 = 0) (h15 : pI g 15 = 0) (e9 : pI g 9 = pI gs 9) : CLM T n (6, [], 0, 0, pI gs 9) g 6 := Or.inl ⟨⟨h14, h13⟩, by rw [h20, h15, e9]; exact RUN.rf rfl⟩
theorem CLM.fin (h : CLM T n c0 g 8) (h14 : pI g 14 = 0) (k : TOK T n (pI g 9) c q) (hc : c = 0) (e13 : pI g' 13 = pI g 13) : pI g' 13 = -1 ∧ ∃ m k p, RUN T n c0 (9, [], m, k, p) := by
  rcases h with h | h
  · exact ⟨e13.trans h.1.2, _, _, _, h.2.tr (RUN.st (S.fin k hc))⟩
  · exact absurd h14 h.1
theorem CLM.faild (h : CLM T n c0 g 8) (h14 : pI g 14 = 0) (k : TOK T n (pI g 9) c q) (hc : c ≠ 14) (hc0 : c ≠ 0) (e13 : pI g' 13 = pI g 9) : RUN T n c0 (BADC (pI g' 13)) := by
  rcases h with h | h
  · rw [e13]; exact h.2.tr (RUN.st (S.finF k hc hc0))
  · exact absurd h14 h.1
theorem CLM.badr (h : CLM T n c0 g 8) (h14 : pI g 14 ≠ 0) (e13 : pI g' 13 = pI g 13) : RUN T n c0 (BADC (pI g' 13)) := by
  rcases h with h | h
  · exact absurd h.1.1 h14
  · rw [e13]; exact h.2
end CLMW
theorem CPM.at_ {gc g g0 : List en_E} (m : CPM gc g) (hT : gA gc 236 = gA g0 236) (hn : gI gc 231 8 = gI g0 231 8) {c0 : CF} (h : CLM (TM g0) (nM g0) c0 gc 6) : CLM (TM g0) (nM g0) c0 g 8 := by
  have z := m c0
  rw [TM.c hT, nM.c hn] at z
  exact z h
theorem SKP.st0 {gp gs g0 : List en_E} (h : SKP (TM gp) (nM gp) (pI gp 10) (pI gs 9)) (hT : gA gp 236 = gA g0 236) (hn : gI gp 231 8 = gI g0 231 8) (h10 : pI gp 10 = 0) : SKP (TM g0) (nM g0) 0 (pI gs 9) := by
  rw [TM.c hT, nM.c hn, h10] at h
  exact h
/-- a law: how many stand, whether it is read, the place of the fault -/
def LWM (g g' : List en_E) (r : Int) : Prop := ((eA g 233 2).toInt = 6 ∧ r = -5 ∧ pI g' 13 = pI g 13 ∧ (eA g' 233 2).toInt = (eA g 233 2).toInt) ∨ ((eA g 233 2).toInt ≠ 6 ∧ RPM g g' (r ≠ -6) ∧ ((r = -6 ∧ (eA g' 233 2).toInt = (eA g 233 2).toInt) ∨ (r = (eA g 233 2).toInt ∧ r ≠ -6 ∧ (eA g' 233 2).toInt = (eA g 233 2).toInt + 1)))
theorem CDM.end_ {g : List en_E} (k : TKM g) : pI g 11 = 0 ↔ CDM g = 0 := CDE.e k.num
/-- an expression from its start to a turn -/
def MXP (g0 g : List en_E) (a t : Int) : Prop := ∀ (c0 : CF) (b : Int), HBT a b → pI g0 13 = -1 → RUN (TM g0) (nM g0) c0 ((if b = 3 then 1 else 0), [b], pI g0 20, pI g0 15, pI g0 9) → CSM (TM g0) (nM g0) c0 g b t
theorem MTP.base {g0 g g' : List en_E} {t r : Int} {C : Int → Prop} (m : MTP g g' t r C) (hT : gA g 236 = gA g0 236) (hn : gI g 231 8 = gI g0 231 8) : ∀ (c0 : CF) (b : Int), C b → CSM (TM g0) (nM g0) c0 g b t → CSM (TM g0) (nM g0) c0 g' b r := fun c0 b hC h => by
  have z := m c0 b hC
  rw [TM.c hT, nM.c hn] at z
  exact z h
theorem CSM.tt {T : Int → Int} {n : Int} {c0 : CF} {g : List en_E} {b t t' : Int} (h : CSM T n c0 g b t) (e : t = t') : CSM T n c0 g b t' := by rw [← e]; exact h
theorem TKM.someC {g g' : List en_E} (h : TKM g') (h1 : gA g' 236 = gA g 236) (h2 : gI g' 231 8 = gI g 231 8) : ∃ q, TOK (TM g) (nM g) (pI g' 9) (CDM g') q := by
  have z := h.some
  rw [TM.c h1, nM.c h2] at z
  exact z
