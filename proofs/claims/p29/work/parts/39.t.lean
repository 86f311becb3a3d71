/-! ===== tokens of a tape, and what can go on ===== -/
def SKP (T : Int → Int) (n i j : Int) : Prop := i ≤ j ∧ j ≤ n ∧ (∀ k, i ≤ k → k < j → T k = 32) ∧ (j < n → T j ≠ 32)
theorem SKP.u {T : Int → Int} {n i j j' : Int} (a : SKP T n i j) (b : SKP T n i j') : j = j' := by
  obtain ⟨a1, a2, a3, a4⟩ := a
  obtain ⟨b1, b2, b3, b4⟩ := b
  rcases Int.lt_trichotomy j j' with h | h | h
  · exact absurd (b3 j a1 h) (a4 (by omega))
  · exact h
  · exact absurd (a3 j' b1 h) (b4 (by omega))
/-- a longest row of what P holds of, from p to e -/
def RUNOF (P : Int → Prop) (T : Int → Int) (n p e : Int) : Prop := p < e ∧ e ≤ n ∧ (∀ k, p ≤ k → k < e → P (T k)) ∧ (e < n → ¬ P (T e))
theorem RUNOF.u {P : Int → Prop} {T : Int → Int} {n p e e' : Int} (a : RUNOF P T n p e) (b : RUNOF P T n p e') : e = e' := by
  obtain ⟨a1, a2, a3, a4⟩ := a
  obtain ⟨b1, b2, b3, b4⟩ := b
  rcases Int.lt_trichotomy e e' with h | h | h
  · exact absurd (b3 e (by omega) h) (a4 (by omega))
  · exact h
  · exact absurd (a3 e' (by omega) h) (b4 (by omega))
def smP (c : Int) : Prop := 97 ≤ c ∧ c ≤ 122
def dgP (c : Int) : Prop := 48 ≤ c ∧ c ≤ 57
/-- the token at p: its sort (0 end, 1 word, 2 digits, 3 sign) and its end -/
def TKR (T : Int → Int) (n p s e : Int) : Prop := (p = n ∧ s = 0 ∧ e = p) ∨ (p < n ∧ smP (T p) ∧ s = 1 ∧ RUNOF smP T n p e) ∨ (p < n ∧ dgP (T p) ∧ s = 2 ∧ RUNOF dgP T n p e) ∨ (p < n ∧ ¬ smP (T p) ∧ ¬ dgP (T p) ∧ s = 3 ∧ e = p + 1)
theorem TKR.u {T : Int → Int} {n p s e s' e' : Int} (a : TKR T n p s e) (b : TKR T n p s' e') : s = s' ∧ e = e' := by
  have x : ¬ (smP (T p) ∧ dgP (T p)) := by unfold smP dgP; omega
  rcases a with ⟨a1, a2, a3⟩ | ⟨a1, a2, a3, a4⟩ | ⟨a1, a2, a3, a4⟩ | ⟨a1, a2, a3, a4, a5⟩ <;> rcases b with ⟨b1, b2, b3⟩ | ⟨b1, b2, b3, b4⟩ | ⟨b1, b2, b3, b4⟩ | ⟨b1, b2, b3, b4, b5⟩
  · omega
  · omega
  · omega
  · omega
  · omega
  · exact ⟨by omega, a4.u b4⟩
  · exact absurd ⟨a2, b2⟩ x
  · exact absurd a2 b2
  · omega
  · exact absurd ⟨b2, a2⟩ x
  · exact ⟨by omega, a4.u b4⟩
  · exact absurd a2 b3
  · omega
  · exact absurd b2 a2
  · exact absurd b2 a3
  · omega
theorem TKR.le {T : Int → Int} {n p s e : Int} (a : TKR T n p s e) : p ≤ e ∧ e ≤ n ∧ 0 ≤ s ∧ s ≤ 3 ∧ (s = 0 ↔ p = n) ∧ (s ≠ 0 → p < e) := by
  rcases a with ⟨a1, a2, a3⟩ | ⟨a1, a2, a3, a4⟩ | ⟨a1, a2, a3, a4⟩ | ⟨a1, a2, a3, a4, a5⟩
  · omega
  · have := a4.1; have := a4.2.1; omega
  · have := a4.1; have := a4.2.1; omega
  · omega
def vlv (T : Int → Int) (p : Int) : Nat → Int
  | 0 => 0
  | k + 1 => 32 * vlv T p k + (T (p + (k : Int)) - 96)
/-- a word as a number -/
def VAL (T : Int → Int) (p e : Int) : Int := vlv T p (e - p).toNat
def nmv (T : Int → Int) (p : Int) : Nat → Int
  | 0 => 0
  | k + 1 => 10 * nmv T p k + (T (p + (k : Int)) - 48)
def NUM (T : Int → Int) (p e : Int) : Int := nmv T p (e - p).toNat
theorem VAL.z (T : Int → Int) {p e : Int} (h : e = p) : VAL T p e = 0 := by unfold VAL; rw [show (e - p).toNat = 0 by omega]; rfl
theorem NUM.z (T : Int → Int) {p e : Int} (h : e = p) : NUM T p e = 0 := by unfold NUM; rw [show (e - p).toNat = 0 by omega]; rfl
theorem VAL.s (T : Int → Int) {p e e' : Int} (h : p ≤ e) (h' : e' = e + 1) : VAL T p e' = 32 * VAL T p e + (T e - 96) := by
  unfold VAL
  rw [show (e' - p).toNat = (e - p).toNat + 1 by omega]
  show 32 * vlv T p (e - p).toNat + (T (p + (((e - p).toNat : Nat) : Int)) - 96) = _
  rw [show p + (((e - p).toNat : Nat) : Int) = e by omega]
theorem NUM.s (T : Int → Int) {p e e' : Int} (h : p ≤ e) (h' : e' = e + 1) : NUM T p e' = 10 * NUM T p e + (T e - 48) := by
  unfold NUM
  rw [show (e' - p).toNat = (e - p).toNat + 1 by omega]
  show 10 * nmv T p (e - p).toNat + (T (p + (((e - p).toNat : Nat) : Int)) - 48) = _
  rw [show p + (((e - p).toNat : Nat) : Int) = e by omega]
theorem VAL.c {T T' : Int → Int} {n p e : Int} (h : ∀ i, p ≤ i → i < e → T i = T' i) : VAL T p e = VAL T' p e := by
  unfold VAL
  have k : ∀ m : Nat, (m : Int) ≤ e - p → vlv T p m = vlv T' p m := by
    intro m
    induction m with
    | zero => intro _; rfl
    | succ m ih =>
      intro hm
      show 32 * vlv T p m + (T (p + (m : Int)) - 96) = 32 * vlv T' p m + (T' (p + (m : Int)) - 96)
      rw [ih (by omega), h (p + (m : Int)) (by omega) (by omega)]
  by_cases c : p ≤ e
  · exact k _ (by omega)
  · rw [show (e - p).toNat = 0 by omega]; rfl
theorem NUM.c {T T' : Int → Int} {n p e : Int} (h : ∀ i, p ≤ i → i < e → T i = T' i) : NUM T p e = NUM T' p e := by
  unfold NUM
  have k : ∀ m : Nat, (m : Int) ≤ e - p → nmv T p m = nmv T' p m := by
    intro m
    induction m with
    | zero => intro _; rfl
    | succ m ih =>
      intro hm
      show 10 * nmv T p m + (T (p + (m : Int)) - 48) = 10 * nmv T' p m + (T' (p + (m : Int)) - 48)
      rw [ih (by omega), h (p + (m : Int)) (by omega) (by omega)]
  by_cases c : p ≤ e
  · exact k _ (by omega)
  · rw [show (e - p).toNat = 0 by omega]; rfl
theorem nmv.ge {T : Int → Int} {p : Int} : ∀ (m j : Nat), (∀ k : Nat, k < m + j → dgP (T (p + (k : Int)))) → 0 ≤ nmv T p m ∧ nmv T p m ≤ nmv T p (m + j)
  | 0, 0, _ => ⟨Int.le_refl 0, Int.le_refl 0⟩
  | m + 1, 0, h => by
    have a := (nmv.ge (T := T) (p := p) m 0 (fun k hk => h k (by omega))).1
    have b := h m (by omega)
    unfold dgP at b
    refine ⟨?_, Int.le_refl _⟩
    show 0 ≤ 10 * nmv T p m + (T (p + (m : Int)) - 48)
    omega
  | m, j + 1, h => by
    have a := nmv.ge (T := T) (p := p) m j (fun k hk => h k (by omega))
    have b := h (m + j) (by omega)
    unfold dgP at b
    refine ⟨a.1, ?_⟩
    show nmv T p m ≤ 10 * nmv T p (m + j) + (T (p + ((m + j : Nat) : Int)) - 48)
    omega
theorem NUM.ge {T : Int → Int} {p i e : Int} (h : ∀ k, p ≤ k → k < e → dgP (T k)) (h1 : p ≤ i) (h2 : i ≤ e) : 0 ≤ NUM T p i ∧ NUM T p i ≤ NUM T p e := by
  unfold NUM
  have a := nmv.ge (T := T) (p := p) (i - p).toNat (e - i).toNat (fun k hk => h _ (by omega) (by omega))
  rw [show (i - p).toNat + (e - i).toNat = (e - p).toNat by omega] at a
  exact a
theorem vlv.pos {T : Int → Int} {p : Int} : ∀ m : Nat, (∀ k : Nat, k < m → smP (T (p + (k : Int)))) → (m : Int) ≤ vlv T p m
  | 0, _ => Int.le_refl 0
  | m + 1, h => by
    have a := vlv.pos (T := T) (p := p) m (fun k hk => h k (by omega))
    have b := h m (by omega)
    unfold smP at b
    show ((m + 1 : Nat) : Int) ≤ 32 * vlv T p m + (T (p + (m : Int)) - 96)
    omega
/-- words of small letters are told by their numbers -/
theorem vlv.inj {T C : Int → Int} {p q : Int} : ∀ m k : Nat, (∀ i : Nat, i < m → smP (T (p + (i : Int)))) → (∀ i : Nat, i < k → smP (C (q + (i : Int)))) → vlv T p m = vlv C q k → m = k ∧ ∀ i : Nat, i < m → T (p + (i : Int)) = C (q + (i : Int))
  | 0, 0, _, _, _ => ⟨rfl, fun i hi => absurd hi (by omega)⟩
  | 0, k + 1, _, h2, e => by
    have a := vlv.pos (T := C) (p := q) (k + 1) h2
    have z : vlv T p 0 = 0 := rfl
    omega
  | m + 1, 0, h1, _, e => by
    have a := vlv.pos (T := T) (p := p) (m + 1) h1
    have z : vlv C q 0 = 0 := rfl
    omega
  | m + 1, k + 1, h1, h2, e => by
    have e' : 32 * vlv T p m + (T (p + (m : Int)) - 96) = 32 * vlv C q k + (C (q + (k : Int)) - 96) := e
    have a := h1 m (by omega)
    have b := h2 k (by omega)
    unfold smP at a b
    have ih := vlv.inj (T := T) (C := C) (p := p) (q := q) m k (fun i hi => h1 i (by omega)) (fun i hi => h2 i (by omega)) (by omega)
    obtain ⟨rfl, i2⟩ := ih
    refine ⟨rfl, fun i hi => ?_⟩
    by_cases c : i = m
    · subst c; omega
    · exact i2 i (by omega)
theorem vlv.same {T C : Int → Int} {p q : Int} : ∀ m : Nat, (∀ i : Nat, i < m → T (p + (i : Int)) = C (q + (i : Int))) → vlv T p m = vlv C q m
  | 0, _ => rfl
  | m + 1, h => by
    show 32 * vlv T p m + (T (p + (m : Int)) - 96) = 32 * vlv C q m + (C (q + (m : Int)) - 96)
    rw [vlv.same m (fun i hi => h i (by omega)), h m (by omega)]
def lkv : List (Int × Int) → Int → Int
  | [], _ => 15
  | q :: r, v => if v = q.1 then q.2 else lkv r v
def lkc : List (Int × Int) → Int → Int
  | [], _ => -1
  | q :: r, c => if c = q.2 then q.1 else lkc r c
theorem lkv.mem : ∀ (L : List (Int × Int)) {v : Int}, lkv L v = 15 ∨ (v, lkv L v) ∈ L
  | [], v => Or.inl rfl
  | q :: r, v => by
    by_cases e : v = q.1
    · right
      rw [show lkv (q :: r) v = q.2 from if_pos e, e]
      exact List.mem_cons_self ..
    · rw [show lkv (q :: r) v = lkv r v from if_neg e]
      exact (lkv.mem r).imp_right (fun h => List.mem_cons_of_mem _ h)
def WL : List (Int × Int) := [(14836, 1), (294, 10), (6605428, 11), (6309, 12), (67155, 13), (1476, 28), (498, 29), (408612, 40), (777297172, 41), (8441477, 42), (20579780, 43), (398548, 44), (446125701, 45), (24159891, 46), (674919554696, 47), (52595, 48)]
def GL : List (Int × Int) := [(40, 2), (91, 3), (93, 6), (41, 9), (59, 14), (43, 20), (45, 21), (42, 22), (47, 23), (60, 24), (62, 25), (61, 26)]
/-- words, by their numbers -/
def wcd (v : Int) : Int := lkv WL v
def sgc (c : Int) : Int := lkv GL c
/-- what a token is: 0 end, words, signs, 100 and more numbers, 15 what can't be anywhere -/
def CDE (T : Int → Int) (p s e : Int) : Int := if s = 0 then 0 else if s = 1 then wcd (VAL T p e) else if s = 2 then (if NUM T p e ≤ 1000 then 100 + NUM T p e else 15) else sgc (T p)
/-- what words are called: their numbers -/
def wvl (c : Int) : Int := lkc WL c
def sch (c : Int) : Int := lkc GL c
def isWC (c : Int) : Prop := c = 1 ∨ (10 ≤ c ∧ c ≤ 13) ∨ c = 28 ∨ c = 29 ∨ (40 ≤ c ∧ c ≤ 48)
def isSC (c : Int) : Prop := c = 2 ∨ c = 3 ∨ c = 6 ∨ c = 9 ∨ c = 14 ∨ (20 ≤ c ∧ c ≤ 26)
theorem WL_1 : ∀ q ∈ WL, lkc WL q.2 = q.1 ∧ lkv WL q.1 = q.2 ∧ (q.2 = 1 ∨ (10 ≤ q.2 ∧ q.2 ≤ 13) ∨ q.2 = 28 ∨ q.2 = 29 ∨ (40 ≤ q.2 ∧ q.2 ≤ 48)) := by decide +kernel
theorem GL_1 : ∀ q ∈ GL, lkc GL q.2 = q.1 ∧ lkv GL q.1 = q.2 ∧ (q.2 = 2 ∨ q.2 = 3 ∨ q.2 = 6 ∨ q.2 = 9 ∨ q.2 = 14 ∨ (20 ≤ q.2 ∧ q.2 ≤ 26)) := by decide +kernel
theorem wcd_rg (v : Int) : isWC (wcd v) ∨ wcd v = 15 := by
  rcases lkv.mem WL (v := v) with h | h
  · exact Or.inr h
  · exact Or.inl (WL_1 _ h).2.2
theorem sgc_rg (v : Int) : isSC (sgc v) ∨ sgc v = 15 := by
  rcases lkv.mem GL (v := v) with h | h
  · exact Or.inr h
  · exact Or.inl (GL_1 _ h).2.2
theorem WL_2 {c : Int} (hc : isWC c) : wcd (wvl c) = c ∧ c ≠ 15 := by
  unfold isWC at hc
  rcases (show c = 1 ∨ c = 10 ∨ c = 11 ∨ c = 12 ∨ c = 13 ∨ c = 28 ∨ c = 29 ∨ c = 40 ∨ c = 41 ∨ c = 42 ∨ c = 43 ∨ c = 44 ∨ c = 45 ∨ c = 46 ∨ c = 47 ∨ c = 48 by omega) with h | h | h | h | h | h | h | h | h | h | h | h | h | h | h | h <;> subst h <;> decide +kernel
theorem GL_2 {c : Int} (hc : isSC c) : sgc (sch c) = c ∧ c ≠ 15 := by
  unfold isSC at hc
  rcases (show c = 2 ∨ c = 3 ∨ c = 6 ∨ c = 9 ∨ c = 14 ∨ c = 20 ∨ c = 21 ∨ c = 22 ∨ c = 23 ∨ c = 24 ∨ c = 25 ∨ c = 26 by omega) with h | h | h | h | h | h | h | h | h | h | h | h <;> subst h <;> decide +kernel
theorem wcd_i {v c : Int} (hc : isWC c) : wcd v = c ↔ v = wvl c := by
  have z := WL_2 hc
  constructor
  · intro k
    rcases lkv.mem WL (v := v) with h | h
    · exact absurd (k.symm.trans h) z.2
    · have y := (WL_1 _ h).1
      rw [show lkv WL v = c from k] at y
      exact y.symm
  · intro k
    rw [k]
    exact z.1
theorem sgc_i {v c : Int} (hc : isSC c) : sgc v = c ↔ v = sch c := by
  have z := GL_2 hc
  constructor
  · intro k
    rcases lkv.mem GL (v := v) with h | h
    · exact absurd (k.symm.trans h) z.2
    · have y := (GL_1 _ h).1
      rw [show lkv GL v = c from k] at y
      exact y.symm
  · intro k
    rw [k]
    exact z.1
theorem CDE.w {T : Int → Int} {p s e c : Int} (hn : s = 2 → 0 ≤ NUM T p e) (hc : isWC c) : (s = 1 ∧ VAL T p e = wvl c) ↔ CDE T p s e = c := by
  unfold CDE
  have hc' := hc
  unfold isWC at hc'
  have hs := sgc_rg (T p)
  unfold isSC at hs
  by_cases h0 : s = 0
  · rw [if_pos h0]; exact ⟨fun k => absurd k.1 (by omega), fun k => absurd k (by omega)⟩
  rw [if_neg h0]
  by_cases h1 : s = 1
  · rw [if_pos h1, wcd_i hc]; exact ⟨fun k => k.2, fun k => ⟨h1, k⟩⟩
  rw [if_neg h1]
  by_cases h2 : s = 2
  · rw [if_pos h2]
    have z := hn h2
    refine ⟨fun k => absurd k.1 h1, fun k => ?_⟩
    split at k <;> omega
  rw [if_neg h2]
  exact ⟨fun k => absurd k.1 h1, fun k => by omega⟩
theorem CDE.g {T : Int → Int} {p s e c : Int} (hr : 0 ≤ s ∧ s ≤ 3) (hn : s = 2 → 0 ≤ NUM T p e) (hc : isSC c) : (s = 3 ∧ T p = sch c) ↔ CDE T p s e = c := by
  unfold CDE
  have hc' := hc
  unfold isSC at hc'
  have hs := wcd_rg (VAL T p e)
  unfold isWC at hs
  by_cases h0 : s = 0
  · rw [if_pos h0]; exact ⟨fun k => absurd k.1 (by omega), fun k => absurd k (by omega)⟩
  rw [if_neg h0]
  by_cases h1 : s = 1
  · rw [if_pos h1]; exact ⟨fun k => absurd k.1 (by omega), fun k => by omega⟩
  rw [if_neg h1]
  by_cases h2 : s = 2
  · rw [if_pos h2]
    have z := hn h2
    refine ⟨fun k => absurd k.1 (by omega), fun k => ?_⟩
    split at k <;> omega
  rw [if_neg h2, sgc_i hc]
  exact ⟨fun k => k.2, fun k => ⟨by omega, k⟩⟩
theorem CDE.e {T : Int → Int} {p s e : Int} (hn : s = 2 → 0 ≤ NUM T p e) : s = 0 ↔ CDE T p s e = 0 := by
  unfold CDE
  have hw := wcd_rg (VAL T p e)
  unfold isWC at hw
  have hs := sgc_rg (T p)
  unfold isSC at hs
  by_cases h0 : s = 0
  · rw [if_pos h0]; exact ⟨fun _ => rfl, fun _ => h0⟩
  rw [if_neg h0]
  refine ⟨fun k => absurd k h0, fun k => ?_⟩
  exfalso
  by_cases h1 : s = 1
  · rw [if_pos h1] at k; omega
  rw [if_neg h1] at k
  by_cases h2 : s = 2
  · rw [if_pos h2] at k
    have z := hn h2
    split at k <;> omega
  rw [if_neg h2] at k
  omega
theorem CDE.n {T : Int → Int} {p s e : Int} (h2 : s = 2) : CDE T p s e = if NUM T p e ≤ 1000 then 100 + NUM T p e else 15 := by
  unfold CDE
  rw [if_neg (by omega), if_neg (by omega), if_pos h2]
/-- the token at p, told by its code, and where the next one is -/
def TOK (T : Int → Int) (n p c q : Int) : Prop := ∃ s e, TKR T n p s e ∧ c = CDE T p s e ∧ SKP T n e q
theorem TOK.u {T : Int → Int} {n p c q c' q' : Int} (a : TOK T n p c q) (b : TOK T n p c' q') : c = c' ∧ q = q' := by
  obtain ⟨s, e, a1, a2, a3⟩ := a
  obtain ⟨s', e', b1, b2, b3⟩ := b
  obtain ⟨rfl, rfl⟩ := a1.u b1
  exact ⟨a2.trans b2.symm, a3.u b3⟩
/-! ===== what can go on: turns 0 PLAIN, 1 PART, 2 TOLD, 3 SUMMED, 6 CLAUSE, 7 behind a SUM, 8 behind a CLAUSE; 9 read, 5 FAULT. Frames: 0 [, 1 ( ahead of a comparison, 2 ( behind it, 3 the SUM itself, 4 and 5 the TEST itself ===== -/
def hdF : List Int → Int
  | [] => 0
  | f :: _ => f
def tlF : List Int → List Int
  | [] => []
  | _ :: R => R
theorem hdF_c (f : Int) (R : List Int) : hdF (f :: R) = f := rfl
theorem tlF_c (f : Int) (R : List Int) : tlF (f :: R) = R := rfl
/-- the innermost frame as ahead of a comparison -/
def ucF : List Int → List Int
  | [] => []
  | f :: R => (if f = 2 ∨ f = 5 then f - 1 else f) :: R
theorem ucF_c {f : Int} (R : List Int) (h : f ≠ 2 ∧ f ≠ 5) : ucF (f :: R) = f :: R := by
  show (if f = 2 ∨ f = 5 then f - 1 else f) :: R = f :: R
  rw [if_neg (show ¬ (f = 2 ∨ f = 5) from by omega)]
theorem ucF_d {f : Int} (R : List Int) (h : f = 2 ∨ f = 5) : ucF (f :: R) = (f - 1) :: R := by
  show (if f = 2 ∨ f = 5 then f - 1 else f) :: R = (f - 1) :: R
  rw [if_pos h]
theorem ucF_n {F : List Int} (h : hdF F ≠ 2 ∧ hdF F ≠ 5) : ucF F = F := by
  cases F with
  | nil => rfl
  | cons f R => exact ucF_c R h
abbrev CF : Type := Int × List Int × Int × Int × Int
def BADC (p : Int) : CF := (5, [], 0, 0, p)
def stf (c q : Int) (z : CF) : CF :=
  if z.1 = 0 ∧ c = 1 then (0, z.2.1, z.2.2.1, z.2.2.2.1, q)
  else if z.1 = 0 ∧ c = 2 then (if z.2.1.length ≤ 8 then (0, 1 :: z.2.1, z.2.2.1, z.2.2.2.1, q) else BADC z.2.2.2.2)
  else if z.1 = 0 then (1, z.2.1, z.2.2.1, z.2.2.2.1, z.2.2.2.2)
  else if z.1 = 1 then
    (if c = 3 then (if z.2.1.length ≤ 8 then (1, 0 :: z.2.1, z.2.2.1, z.2.2.2.1, q) else BADC z.2.2.2.2)
    else if ((40 ≤ c ∧ c ≤ 48) ∨ 100 ≤ c) ∧ z.2.2.1 < 50 then (3, z.2.1, z.2.2.1 + 1, z.2.2.2.1, q) else BADC z.2.2.2.2)
  else if z.1 = 3 then
    (if 20 ≤ c ∧ c ≤ 23 then (1, z.2.1, z.2.2.1, z.2.2.2.1, q)
    else if hdF z.2.1 = 0 then (if c = 6 then (3, tlF z.2.1, z.2.2.1, z.2.2.2.1, q) else BADC z.2.2.2.2)
    else if hdF z.2.1 = 3 then (7, [], z.2.2.1, z.2.2.2.1, z.2.2.2.2)
    else if hdF z.2.1 = 2 ∨ hdF z.2.1 = 5 then (2, (hdF z.2.1 - 1) :: tlF z.2.1, z.2.2.1, z.2.2.2.1, z.2.2.2.2)
    else if 24 ≤ c ∧ c ≤ 26 then (1, (hdF z.2.1 + 1) :: tlF z.2.1, z.2.2.1, z.2.2.2.1, q) else BADC z.2.2.2.2)
  else if z.1 = 2 then
    (if 28 ≤ c ∧ c ≤ 29 then (0, z.2.1, z.2.2.1, z.2.2.2.1, q)
    else if hdF z.2.1 = 4 then (8, [], z.2.2.1, z.2.2.2.1, z.2.2.2.2)
    else if c = 9 then (2, ucF (tlF z.2.1), z.2.2.1, z.2.2.2.1, q) else BADC z.2.2.2.2)
  else if z.1 = 6 then
    (if (11 ≤ c ∧ c ≤ 13) ∧ z.2.2.2.1 < 12 then (if c = 13 then (7, [], z.2.2.1, z.2.2.2.1 + 1, q) else (1, [3], z.2.2.1, z.2.2.2.1 + 1, q)) else BADC z.2.2.2.2)
  else if z.1 = 7 then (if c = 10 then (0, [4], z.2.2.1, z.2.2.2.1, q) else (8, [], z.2.2.1, z.2.2.2.1, z.2.2.2.2))
  else if z.1 = 8 then (if c = 14 then (6, [], z.2.2.1, z.2.2.2.1, q) else if c = 0 then (9, [], z.2.2.1, z.2.2.2.1, z.2.2.2.2) else BADC z.2.2.2.2)
  else z
def STP (T : Int → Int) (n : Int) (a b : CF) : Prop := ∃ c q, TOK T n a.2.2.2.2 c q ∧ b = stf c q a
def rnN (T : Int → Int) (n : Int) : Nat → CF → CF → Prop
  | 0, a, b => a = b
  | k + 1, a, b => ∃ d, STP T n a d ∧ rnN T n k d b
def RUN (T : Int → Int) (n : Int) (a b : CF) : Prop := ∃ k, rnN T n k a b
theorem RUN.rf {T : Int → Int} {n : Int} {a b : CF} (h : a = b) : RUN T n a b := ⟨0, h⟩
theorem rnN.tr {T : Int → Int} {n : Int} {b c : CF} : ∀ (k j : Nat) {a : CF}, rnN T n k a b → rnN T n j b c → rnN T n (k + j) a c
  | 0, j, a, h, h' => by rw [Nat.zero_add]; have e : a = b := h; rw [e]; exact h'
  | k + 1, j, a, h, h' => by
    obtain ⟨d, h1, h2⟩ := h
    rw [show k + 1 + j = (k + j) + 1 by omega]
    exact ⟨d, h1, rnN.tr k j h2 h'⟩
theorem RUN.tr {T : Int → Int} {n : Int} {a b c : CF} (h : RUN T n a b) (h' : RUN T n b c) : RUN T n a c := by
  obtain ⟨k, h⟩ := h
  obtain ⟨j, h'⟩ := h'
  exact ⟨k + j, rnN.tr k j h h'⟩
theorem RUN.st {T : Int → Int} {n : Int} {a b : CF} (h : STP T n a b) : RUN T n a b := ⟨1, b, h, rfl⟩
theorem STP.u {T : Int → Int} {n : Int} {a b b' : CF} (h : STP T n a b) (h' : STP T n a b') : b = b' := by
  obtain ⟨c, q, h1, h2⟩ := h
  obtain ⟨c', q', h1', h2'⟩ := h'
  obtain ⟨rfl, rfl⟩ := h1.u h1'
  rw [h2, h2']
theorem STP.fin {T : Int → Int} {n : Int} {a b : CF} (h : STP T n a b) (hf : a.1 = 5 ∨ a.1 = 9) : b = a := by
  obtain ⟨c, q, h1, h2⟩ := h
  obtain ⟨t, F, m, k, p⟩ := a
  rw [h2]
  rcases hf with e | e
  · have e' : t = 5 := e
    subst e'
    unfold stf
    dsimp only
    rw [if_neg (show ¬ ((5 : Int) = 0 ∧ c = 1) from by omega), if_neg (show ¬ ((5 : Int) = 0 ∧ c = 2) from by omega), if_neg (show ¬ ((5 : Int) = 0) from by omega), if_neg (show ¬ ((5 : Int) = 1) from by omega), if_neg (show ¬ ((5 : Int) = 3) from by omega), if_neg (show ¬ ((5 : Int) = 2) from by omega), if_neg (show ¬ ((5 : Int) = 6) from by omega), if_neg (show ¬ ((5 : Int) = 7) from by omega), if_neg (show ¬ ((5 : Int) = 8) from by omega)]
  · have e' : t = 9 := e
    subst e'
    unfold stf
    dsimp only
    rw [if_neg (show ¬ ((9 : Int) = 0 ∧ c = 1) from by omega), if_neg (show ¬ ((9 : Int) = 0 ∧ c = 2) from by omega), if_neg (show ¬ ((9 : Int) = 0) from by omega), if_neg (show ¬ ((9 : Int) = 1) from by omega), if_neg (show ¬ ((9 : Int) = 3) from by omega), if_neg (show ¬ ((9 : Int) = 2) from by omega), if_neg (show ¬ ((9 : Int) = 6) from by omega), if_neg (show ¬ ((9 : Int) = 7) from by omega), if_neg (show ¬ ((9 : Int) = 8) from by omega)]
theorem rnN.fin {T : Int → Int} {n : Int} {b : CF} : ∀ (k : Nat) {a : CF}, (a.1 = 5 ∨ a.1 = 9) → rnN T n k a b → b = a
  | 0, a, _, h => (show a = b from h).symm
  | k + 1, a, hf, h => by
    obtain ⟨d, h1, h2⟩ := h
    have e := h1.fin hf
    subst e
    exact rnN.fin k hf h2
theorem rnN.u {T : Int → Int} {n : Int} {b b' : CF} (hb : b.1 = 5 ∨ b.1 = 9) (hb' : b'.1 = 5 ∨ b'.1 = 9) : ∀ (k j : Nat) {a : CF}, rnN T n k a b → rnN T n j a b' → b = b'
  | 0, j, a, h, h' => by
    have e : a = b := h
    subst e
    exact (rnN.fin j hb h').symm
  | k + 1, 0, a, h, h' => by
    have e : a = b' := h'
    subst e
    exact rnN.fin (k + 1) hb' h
  | k + 1, j + 1, a, h, h' => by
    obtain ⟨d, h1, h2⟩ := h
    obtain ⟨d', h1', h2'⟩ := h'
    have e := h1.u h1'
    subst e
    exact rnN.u hb hb' k j h2 h2'
/-- the end is one alone -/
theorem RUN.u {T : Int → Int} {n : Int} {a b b' : CF} (h : RUN T n a b) (h' : RUN T n a b') (hb : b.1 = 5 ∨ b.1 = 9) (hb' : b'.1 = 5 ∨ b'.1 = 9) : b = b' := by
  obtain ⟨k, h⟩ := h
  obtain ⟨j, h'⟩ := h'
  exact rnN.u hb hb' k j h h'
/-! one step each -/
section STEPS
variable {T : Int → Int} {n p c q m k : Int} {F R : List Int} {f : Int}
theorem S.not (h : TOK T n p c q) (e : c = 1) : STP T n (0, F, m, k, p) (0, F, m, k, q) := ⟨c, q, h, by unfold stf; dsimp only; rw [if_pos (show (0 : Int) = 0 ∧ c = 1 from by omega)]; first | done | rfl⟩
theorem S.rnd (h : TOK T n p c q) (e : c = 2) (d : F.length ≤ 8) : STP T n (0, F, m, k, p) (0, 1 :: F, m, k, q) := ⟨c, q, h, by unfold stf; dsimp only; rw [if_neg (show ¬ ((0 : Int) = 0 ∧ c = 1) from by omega), if_pos (show (0 : Int) = 0 ∧ c = 2 from by omega), if_pos (show F.length ≤ 8 from by omega)]; first | done | rfl⟩
theorem S.rndF (h : TOK T n p c q) (e : c = 2) (d : ¬ F.length ≤ 8) : STP T n (0, F, m, k, p) (BADC p) := ⟨c, q, h, by unfold stf; dsimp only; rw [if_neg (show ¬ ((0 : Int) = 0 ∧ c = 1) from by omega), if_pos (show (0 : Int) = 0 ∧ c = 2 from by omega), if_neg (show ¬ (F.length ≤ 8) from by omega)]; first | done | rfl⟩
theorem S.sq (h : TOK T n p c q) (e : c = 3) (d : F.length ≤ 8) : STP T n (1, F, m, k, p) (1, 0 :: F, m, k, q) := ⟨c, q, h, by unfold stf; dsimp only; rw [if_neg (show ¬ ((1 : Int) = 0 ∧ c = 1) from by omega), if_neg (show ¬ ((1 : Int) = 0 ∧ c = 2) from by omega), if_neg (show ¬ ((1 : Int) = 0) from by omega), if_pos (show (1 : Int) = 1 from by omega), if_pos (show c = 3 from by omega), if_pos (show F.length ≤ 8 from by omega)]; first | done | rfl⟩
theorem S.sqF (h : TOK T n p c q) (e : c = 3) (d : ¬ F.length ≤ 8) : STP T n (1, F, m, k, p) (BADC p) := ⟨c, q, h, by unfold stf; dsimp only; rw [if_neg (show ¬ ((1 : Int) = 0 ∧ c = 1) from by omega), if_neg (show ¬ ((1 : Int) = 0 ∧ c = 2) from by omega), if_neg (show ¬ ((1 : Int) = 0) from by omega), if_pos (show (1 : Int) = 1 from by omega), if_pos (show c = 3 from by omega), if_neg (show ¬ (F.length ≤ 8) from by omega)]; first | done | rfl⟩
theorem S.plain (h : TOK T n p c q) (e1 : c ≠ 1) (e2 : c ≠ 2) : STP T n (0, F, m, k, p) (1, F, m, k, p) := ⟨c, q, h, by unfold stf; dsimp only; rw [if_neg (show ¬ ((0 : Int) = 0 ∧ c = 1) from by omega), if_neg (show ¬ ((0 : Int) = 0 ∧ c = 2) from by omega), if_pos (show (0 : Int) = 0 from by omega)]; first | done | rfl⟩
theorem S.leaf {m' : Int} (h : TOK T n p c q) (e : (40 ≤ c ∧ c ≤ 48) ∨ 100 ≤ c) (hm : m < 50) (em : m' = m + 1) : STP T n (1, F, m, k, p) (3, F, m', k, q) := ⟨c, q, h, by subst em; unfold stf; dsimp only; rw [if_neg (show ¬ ((1 : Int) = 0 ∧ c = 1) from by omega), if_neg (show ¬ ((1 : Int) = 0 ∧ c = 2) from by omega), if_neg (show ¬ ((1 : Int) = 0) from by omega), if_pos (show (1 : Int) = 1 from by omega), if_neg (show ¬ (c = 3) from by omega), if_pos (show ((40 ≤ c ∧ c ≤ 48) ∨ 100 ≤ c) ∧ m < 50 from by omega)]; first | done | rfl⟩
theorem S.leafF (h : TOK T n p c q) (e3 : c ≠ 3) (e : ¬ (((40 ≤ c ∧ c ≤ 48) ∨ 100 ≤ c) ∧ m < 50)) : STP T n (1, F, m, k, p) (BADC p) := ⟨c, q, h, by unfold stf; dsimp only; rw [if_neg (show ¬ ((1 : Int) = 0 ∧ c = 1) from by omega), if_neg (show ¬ ((1 : Int) = 0 ∧ c = 2) from by omega), if_neg (show ¬ ((1 : Int) = 0) from by omega), if_pos (show (1 : Int) = 1 from by omega), if_neg (show ¬ (c = 3) from by omega), if_neg (show ¬ (((40 ≤ c ∧ c ≤ 48) ∨ 100 ≤ c) ∧ m < 50) from by omega)]; first | done | rfl⟩
theorem S.join (h : TOK T n p c q) (e : 20 ≤ c ∧ c ≤ 23) : STP T n (3, F, m, k, p) (1, F, m, k, q) := ⟨c, q, h, by unfold stf; dsimp only; rw [if_neg (show ¬ ((3 : Int) = 0 ∧ c = 1) from by omega), if_neg (show ¬ ((3 : Int) = 0 ∧ c = 2) from by omega), if_neg (show ¬ ((3 : Int) = 0) from by omega), if_neg (show ¬ ((3 : Int) = 1) from by omega), if_pos (show (3 : Int) = 3 from by omega), if_pos (show 20 ≤ c ∧ c ≤ 23 from by omega)]; first | done | rfl⟩
theorem S.sqE (h : TOK T n p c q) (e : c = 6) : STP T n (3, 0 :: R, m, k, p) (3, R, m, k, q) := ⟨c, q, h, by unfold stf; dsimp only; rw [if_neg (show ¬ ((3 : Int) = 0 ∧ c = 1) from by omega), if_neg (show ¬ ((3 : Int) = 0 ∧ c = 2) from by omega), if_neg (show ¬ ((3 : Int) = 0) from by omega), if_neg (show ¬ ((3 : Int) = 1) from by omega), if_pos (show (3 : Int) = 3 from by omega), if_neg (show ¬ (20 ≤ c ∧ c ≤ 23) from by omega), if_pos (show hdF (0 :: R) = 0 from by rw [hdF_c]), if_pos (show c = 6 from by omega)]; first | done | rfl⟩
theorem S.sqEF (h : TOK T n p c q) (e : ¬ (20 ≤ c ∧ c ≤ 23)) (e6 : c ≠ 6) : STP T n (3, 0 :: R, m, k, p) (BADC p) := ⟨c, q, h, by unfold stf; dsimp only; rw [if_neg (show ¬ ((3 : Int) = 0 ∧ c = 1) from by omega), if_neg (show ¬ ((3 : Int) = 0 ∧ c = 2) from by omega), if_neg (show ¬ ((3 : Int) = 0) from by omega), if_neg (show ¬ ((3 : Int) = 1) from by omega), if_pos (show (3 : Int) = 3 from by omega), if_neg (show ¬ (20 ≤ c ∧ c ≤ 23) from by omega), if_pos (show hdF (0 :: R) = 0 from by rw [hdF_c]), if_neg (show ¬ (c = 6) from by omega)]; first | done | rfl⟩
theorem S.sum (h : TOK T n p c q) (e : ¬ (20 ≤ c ∧ c ≤ 23)) : STP T n (3, 3 :: R, m, k, p) (7, [], m, k, p) := ⟨c, q, h, by unfold stf; dsimp only; rw [if_neg (show ¬ ((3 : Int) = 0 ∧ c = 1) from by omega), if_neg (show ¬ ((3 : Int) = 0 ∧ c = 2) from by omega), if_neg (show ¬ ((3 : Int) = 0) from by omega), if_neg (show ¬ ((3 : Int) = 1) from by omega), if_pos (show (3 : Int) = 3 from by omega), if_neg (show ¬ (20 ≤ c ∧ c ≤ 23) from by omega), if_neg (show ¬ (hdF (3 :: R) = 0) from by rw [hdF_c]; omega), if_pos (show hdF (3 :: R) = 3 from by rw [hdF_c])]; first | done | rfl⟩
theorem S.told (h : TOK T n p c q) (e : ¬ (20 ≤ c ∧ c ≤ 23)) (hf : f = 1 ∨ f = 4) : STP T n (3, (f + 1) :: R, m, k, p) (2, f :: R, m, k, p) := ⟨c, q, h, by unfold stf; dsimp only; rw [if_neg (show ¬ ((3 : Int) = 0 ∧ c = 1) from by omega), if_neg (show ¬ ((3 : Int) = 0 ∧ c = 2) from by omega), if_neg (show ¬ ((3 : Int) = 0) from by omega), if_neg (show ¬ ((3 : Int) = 1) from by omega), if_pos (show (3 : Int) = 3 from by omega), if_neg (show ¬ (20 ≤ c ∧ c ≤ 23) from by omega), if_neg (show ¬ (hdF ((f + 1) :: R) = 0) from by rw [hdF_c]; omega), if_neg (show ¬ (hdF ((f + 1) :: R) = 3) from by rw [hdF_c]; omega), if_pos (show hdF ((f + 1) :: R) = 2 ∨ hdF ((f + 1) :: R) = 5 from by rw [hdF_c]; omega)]; show (2, f :: R, m, k, p) = (2, (f + 1 - 1) :: R, m, k, p); rw [show f + 1 - 1 = f from by omega]⟩
theorem S.cmp (h : TOK T n p c q) (e : 24 ≤ c ∧ c ≤ 26) (hf : f = 1 ∨ f = 4) : STP T n (3, f :: R, m, k, p) (1, (f + 1) :: R, m, k, q) := ⟨c, q, h, by unfold stf; dsimp only; rw [if_neg (show ¬ ((3 : Int) = 0 ∧ c = 1) from by omega), if_neg (show ¬ ((3 : Int) = 0 ∧ c = 2) from by omega), if_neg (show ¬ ((3 : Int) = 0) from by omega), if_neg (show ¬ ((3 : Int) = 1) from by omega), if_pos (show (3 : Int) = 3 from by omega), if_neg (show ¬ (20 ≤ c ∧ c ≤ 23) from by omega), if_neg (show ¬ (hdF (f :: R) = 0) from by rw [hdF_c]; omega), if_neg (show ¬ (hdF (f :: R) = 3) from by rw [hdF_c]; omega), if_neg (show ¬ (hdF (f :: R) = 2 ∨ hdF (f :: R) = 5) from by rw [hdF_c]; omega), if_pos (show 24 ≤ c ∧ c ≤ 26 from by omega)]; first | done | rfl⟩
theorem S.cmpF (h : TOK T n p c q) (e1 : ¬ (20 ≤ c ∧ c ≤ 23)) (e : ¬ (24 ≤ c ∧ c ≤ 26)) (hf : f = 1 ∨ f = 4) : STP T n (3, f :: R, m, k, p) (BADC p) := ⟨c, q, h, by unfold stf; dsimp only; rw [if_neg (show ¬ ((3 : Int) = 0 ∧ c = 1) from by omega), if_neg (show ¬ ((3 : Int) = 0 ∧ c = 2) from by omega), if_neg (show ¬ ((3 : Int) = 0) from by omega), if_neg (show ¬ ((3 : Int) = 1) from by omega), if_pos (show (3 : Int) = 3 from by omega), if_neg (show ¬ (20 ≤ c ∧ c ≤ 23) from by omega), if_neg (show ¬ (hdF (f :: R) = 0) from by rw [hdF_c]; omega), if_neg (show ¬ (hdF (f :: R) = 3) from by rw [hdF_c]; omega), if_neg (show ¬ (hdF (f :: R) = 2 ∨ hdF (f :: R) = 5) from by rw [hdF_c]; omega), if_neg (show ¬ (24 ≤ c ∧ c ≤ 26) from by omega)]; first | done | rfl⟩
theorem S.andor (h : TOK T n p c q) (e : 28 ≤ c ∧ c ≤ 29) : STP T n (2, F, m, k, p) (0, F, m, k, q) := ⟨c, q, h, by unfold stf; dsimp only; rw [if_neg (show ¬ ((2 : Int) = 0 ∧ c = 1) from by omega), if_neg (show ¬ ((2 : Int) = 0 ∧ c = 2) from by omega), if_neg (show ¬ ((2 : Int) = 0) from by omega), if_neg (show ¬ ((2 : Int) = 1) from by omega), if_neg (show ¬ ((2 : Int) = 3) from by omega), if_pos (show (2 : Int) = 2 from by omega), if_pos (show 28 ≤ c ∧ c ≤ 29 from by omega)]; first | done | rfl⟩
theorem S.test (h : TOK T n p c q) (e : ¬ (28 ≤ c ∧ c ≤ 29)) : STP T n (2, 4 :: R, m, k, p) (8, [], m, k, p) := ⟨c, q, h, by unfold stf; dsimp only; rw [if_neg (show ¬ ((2 : Int) = 0 ∧ c = 1) from by omega), if_neg (show ¬ ((2 : Int) = 0 ∧ c = 2) from by omega), if_neg (show ¬ ((2 : Int) = 0) from by omega), if_neg (show ¬ ((2 : Int) = 1) from by omega), if_neg (show ¬ ((2 : Int) = 3) from by omega), if_pos (show (2 : Int) = 2 from by omega), if_neg (show ¬ (28 ≤ c ∧ c ≤ 29) from by omega), if_pos (show hdF (4 :: R) = 4 from by rw [hdF_c])]; first | done | rfl⟩
theorem S.rndE (h : TOK T n p c q) (e : c = 9) : STP T n (2, 1 :: F, m, k, p) (2, ucF F, m, k, q) := ⟨c, q, h, by unfold stf; dsimp only; rw [if_neg (show ¬ ((2 : Int) = 0 ∧ c = 1) from by omega), if_neg (show ¬ ((2 : Int) = 0 ∧ c = 2) from by omega), if_neg (show ¬ ((2 : Int) = 0) from by omega), if_neg (show ¬ ((2 : Int) = 1) from by omega), if_neg (show ¬ ((2 : Int) = 3) from by omega), if_pos (show (2 : Int) = 2 from by omega), if_neg (show ¬ (28 ≤ c ∧ c ≤ 29) from by omega), if_neg (show ¬ (hdF (1 :: F) = 4) from by rw [hdF_c]; omega), if_pos (show c = 9 from by omega)]; first | done | rfl⟩
theorem S.rndEF (h : TOK T n p c q) (e1 : ¬ (28 ≤ c ∧ c ≤ 29)) (e : c ≠ 9) : STP T n (2, 1 :: R, m, k, p) (BADC p) := ⟨c, q, h, by unfold stf; dsimp only; rw [if_neg (show ¬ ((2 : Int) = 0 ∧ c = 1) from by omega), if_neg (show ¬ ((2 : Int) = 0 ∧ c = 2) from by omega), if_neg (show ¬ ((2 : Int) = 0) from by omega), if_neg (show ¬ ((2 : Int) = 1) from by omega), if_neg (show ¬ ((2 : Int) = 3) from by omega), if_pos (show (2 : Int) = 2 from by omega), if_neg (show ¬ (28 ≤ c ∧ c ≤ 29) from by omega), if_neg (show ¬ (hdF (1 :: R) = 4) from by rw [hdF_c]; omega), if_neg (show ¬ (c = 9) from by omega)]; first | done | rfl⟩
theorem S.cls {k' : Int} (h : TOK T n p c q) (e : 11 ≤ c ∧ c ≤ 12) (hk : k < 12) (ek : k' = k + 1) : STP T n (6, [], m, k, p) (1, [3], m, k', q) := ⟨c, q, h, by subst ek; unfold stf; dsimp only; rw [if_neg (show ¬ ((6 : Int) = 0 ∧ c = 1) from by omega), if_neg (show ¬ ((6 : Int) = 0 ∧ c = 2) from by omega), if_neg (show ¬ ((6 : Int) = 0) from by omega), if_neg (show ¬ ((6 : Int) = 1) from by omega), if_neg (show ¬ ((6 : Int) = 3) from by omega), if_neg (show ¬ ((6 : Int) = 2) from by omega), if_pos (show (6 : Int) = 6 from by omega), if_pos (show (11 ≤ c ∧ c ≤ 13) ∧ k < 12 from by omega), if_neg (show ¬ (c = 13) from by omega)]; first | done | rfl⟩
theorem S.clsB {k' : Int} (h : TOK T n p c q) (e : c = 13) (hk : k < 12) (ek : k' = k + 1) : STP T n (6, [], m, k, p) (7, [], m, k', q) := ⟨c, q, h, by subst ek; unfold stf; dsimp only; rw [if_neg (show ¬ ((6 : Int) = 0 ∧ c = 1) from by omega), if_neg (show ¬ ((6 : Int) = 0 ∧ c = 2) from by omega), if_neg (show ¬ ((6 : Int) = 0) from by omega), if_neg (show ¬ ((6 : Int) = 1) from by omega), if_neg (show ¬ ((6 : Int) = 3) from by omega), if_neg (show ¬ ((6 : Int) = 2) from by omega), if_pos (show (6 : Int) = 6 from by omega), if_pos (show (11 ≤ c ∧ c ≤ 13) ∧ k < 12 from by omega), if_pos (show c = 13 from by omega)]; first | done | rfl⟩
theorem S.clsF (h : TOK T n p c q) (e : ¬ ((11 ≤ c ∧ c ≤ 13) ∧ k < 12)) : STP T n (6, [], m, k, p) (BADC p) := ⟨c, q, h, by unfold stf; dsimp only; rw [if_neg (show ¬ ((6 : Int) = 0 ∧ c = 1) from by omega), if_neg (show ¬ ((6 : Int) = 0 ∧ c = 2) from by omega), if_neg (show ¬ ((6 : Int) = 0) from by omega), if_neg (show ¬ ((6 : Int) = 1) from by omega), if_neg (show ¬ ((6 : Int) = 3) from by omega), if_neg (show ¬ ((6 : Int) = 2) from by omega), if_pos (show (6 : Int) = 6 from by omega), if_neg (show ¬ ((11 ≤ c ∧ c ≤ 13) ∧ k < 12) from by omega)]; first | done | rfl⟩
theorem S.if_ (h : TOK T n p c q) (e : c = 10) : STP T n (7, [], m, k, p) (0, [4], m, k, q) := ⟨c, q, h, by unfold stf; dsimp only; rw [if_neg (show ¬ ((7 : Int) = 0 ∧ c = 1) from by omega), if_neg (show ¬ ((7 : Int) = 0 ∧ c = 2) from by omega), if_neg (show ¬ ((7 : Int) = 0) from by omega), if_neg (show ¬ ((7 : Int) = 1) from by omega), if_neg (show ¬ ((7 : Int) = 3) from by omega), if_neg (show ¬ ((7 : Int) = 2) from by omega), if_neg (show ¬ ((7 : Int) = 6) from by omega), if_pos (show (7 : Int) = 7 from by omega), if_pos (show c = 10 from by omega)]; first | done | rfl⟩
theorem S.noif (h : TOK T n p c q) (e : c ≠ 10) : STP T n (7, [], m, k, p) (8, [], m, k, p) := ⟨c, q, h, by unfold stf; dsimp only; rw [if_neg (show ¬ ((7 : Int) = 0 ∧ c = 1) from by omega), if_neg (show ¬ ((7 : Int) = 0 ∧ c = 2) from by omega), if_neg (show ¬ ((7 : Int) = 0) from by omega), if_neg (show ¬ ((7 : Int) = 1) from by omega), if_neg (show ¬ ((7 : Int) = 3) from by omega), if_neg (show ¬ ((7 : Int) = 2) from by omega), if_neg (show ¬ ((7 : Int) = 6) from by omega), if_pos (show (7 : Int) = 7 from by omega), if_neg (show ¬ (c = 10) from by omega)]; first | done | rfl⟩
theorem S.semi (h : TOK T n p c q) (e : c = 14) : STP T n (8, [], m, k, p) (6, [], m, k, q) := ⟨c, q, h, by unfold stf; dsimp only; rw [if_neg (show ¬ ((8 : Int) = 0 ∧ c = 1) from by omega), if_neg (show ¬ ((8 : Int) = 0 ∧ c = 2) from by omega), if_neg (show ¬ ((8 : Int) = 0) from by omega), if_neg (show ¬ ((8 : Int) = 1) from by omega), if_neg (show ¬ ((8 : Int) = 3) from by omega), if_neg (show ¬ ((8 : Int) = 2) from by omega), if_neg (show ¬ ((8 : Int) = 6) from by omega), if_neg (show ¬ ((8 : Int) = 7) from by omega), if_pos (show (8 : Int) = 8 from by omega), if_pos (show c = 14 from by omega)]; first | done | rfl⟩
theorem S.fin (h : TOK T n p c q) (e : c = 0) : STP T n (8, [], m, k, p) (9, [], m, k, p) := ⟨c, q, h, by unfold stf; dsimp only; rw [if_neg (show ¬ ((8 : Int) = 0 ∧ c = 1) from by omega), if_neg (show ¬ ((8 : Int) = 0 ∧ c = 2) from by omega), if_neg (show ¬ ((8 : Int) = 0) from by omega), if_neg (show ¬ ((8 : Int) = 1) from by omega), if_neg (show ¬ ((8 : Int) = 3) from by omega), if_neg (show ¬ ((8 : Int) = 2) from by omega), if_neg (show ¬ ((8 : Int) = 6) from by omega), if_neg (show ¬ ((8 : Int) = 7) from by omega), if_pos (show (8 : Int) = 8 from by omega), if_neg (show ¬ (c = 14) from by omega), if_pos (show c = 0 from by omega)]; first | done | rfl⟩
theorem S.finF (h : TOK T n p c q) (e1 : c ≠ 14) (e : c ≠ 0) : STP T n (8, [], m, k, p) (BADC p) := ⟨c, q, h, by unfold stf; dsimp only; rw [if_neg (show ¬ ((8 : Int) = 0 ∧ c = 1) from by omega), if_neg (show ¬ ((8 : Int) = 0 ∧ c = 2) from by omega), if_neg (show ¬ ((8 : Int) = 0) from by omega), if_neg (show ¬ ((8 : Int) = 1) from by omega), if_neg (show ¬ ((8 : Int) = 3) from by omega), if_neg (show ¬ ((8 : Int) = 2) from by omega), if_neg (show ¬ ((8 : Int) = 6) from by omega), if_neg (show ¬ ((8 : Int) = 7) from by omega), if_pos (show (8 : Int) = 8 from by omega), if_neg (show ¬ (c = 14) from by omega), if_neg (show ¬ (c = 0) from by omega)]; first | done | rfl⟩
end STEPS
/-! ===== the class's reader ===== -/
def TX (g : List en_E) (i : Int) : Int := (eA g 175 i).toInt
def nX (g : List en_E) : Int := (gI g 174 1).toInt
def rX (g : List en_E) (b : Nat) : Int := (gI g 176 b).toInt
def ksX (k : Int) : Int := if k = 0 then 1 else if k = 1 then 2 else if k = 2 then 3 else 0
def BYX (g : List en_E) : Prop := ∀ i, 0 ≤ i → i < nX g → 0 ≤ TX g i
/-- the token at hand -/
def TKX (g : List en_E) : Prop := BYX g ∧ TKR (TX g) (nX g) (rX g 4) (ksX (rX g 3)) (rX g 5) ∧ (0 ≤ rX g 3 ∧ rX g 3 ≤ 3) ∧ 0 ≤ rX g 4 ∧ nX g ≤ 400
def CDX (g : List en_E) : Int := CDE (TX g) (rX g 4) (ksX (rX g 3)) (rX g 5)
def ATX (g : List en_E) (a r : Int) : Prop := (0 ≤ a → a < nX g → r = TX g a) ∧ (a < 0 ∨ nX g ≤ a → r = -1)
theorem ATX.mk {g : List en_E} {a r : Int} (h1 : 0 ≤ a → a < (gI g 174 1).toInt → r = (eA g 175 a).toInt) (h2 : a < 0 ∨ (gI g 174 1).toInt ≤ a → r = -1) : ATX g a r := ⟨h1, h2⟩
def KND (a r : Int) : Prop := (a = -1 → r = 3) ∧ (a ≠ -1 → smP a → r = 0) ∧ (a ≠ -1 → ¬ smP a → dgP a → r = 1) ∧ (a ≠ -1 → ¬ smP a → ¬ dgP a → r = 2)
theorem KND.mk {a r : Int} (h : (a = -1 ∧ r = 3) ∨ (a ≠ -1 ∧ (97 ≤ a ∧ a ≤ 122) ∧ r = 0) ∨ (a ≠ -1 ∧ ¬ (97 ≤ a ∧ a ≤ 122) ∧ (48 ≤ a ∧ a ≤ 57) ∧ r = 1) ∨ (a ≠ -1 ∧ ¬ (97 ≤ a ∧ a ≤ 122) ∧ ¬ (48 ≤ a ∧ a ≤ 57) ∧ r = 2)) : KND a r := by
  unfold KND smP dgP
  omega
theorem TX.c {g g' : List en_E} (h : gA g' 175 = gA g 175) : TX g' = TX g := funext (fun _ => eA_ti h)
theorem nX.c {g g' : List en_E} (h : gI g' 174 1 = gI g 174 1) : nX g' = nX g := congrArg Int32.toInt h
theorem rX.c {g g' : List en_E} {b : Nat} (h : gI g' 176 b = gI g 176 b) : rX g' b = rX g b := congrArg Int32.toInt h
theorem BYX.c {g g' : List en_E} (h : BYX g) (h1 : gA g' 175 = gA g 175) (h2 : gI g' 174 1 = gI g 174 1) : BYX g' := by unfold BYX at *; rw [TX.c h1, nX.c h2]; exact h
theorem TKX.c {g g' : List en_E} (h : TKX g) (h1 : gA g' 175 = gA g 175) (h2 : gI g' 174 1 = gI g 174 1) (h3 : gI g' 176 3 = gI g 176 3) (h4 : gI g' 176 4 = gI g 176 4) (h5 : gI g' 176 5 = gI g 176 5) : TKX g' := by
  unfold TKX at *
  rw [TX.c h1, nX.c h2, rX.c h3, rX.c h4, rX.c h5]
  exact ⟨h.1.c h1 h2, h.2⟩
theorem CDX.c {g g' : List en_E} (h1 : gA g' 175 = gA g 175) (h3 : gI g' 176 3 = gI g 176 3) (h4 : gI g' 176 4 = gI g 176 4) (h5 : gI g' 176 5 = gI g 176 5) : CDX g' = CDX g := by
  unfold CDX
  rw [TX.c h1, rX.c h3, rX.c h4, rX.c h5]
theorem ksX_rg (k : Int) : 0 ≤ ksX k ∧ ksX k ≤ 3 := by
  unfold ksX
  (repeat' split) <;> omega
theorem ksX_i {k : Int} (h : 0 ≤ k ∧ k ≤ 3) : (ksX k = 1 ↔ k = 0) ∧ (ksX k = 2 ↔ k = 1) ∧ (ksX k = 3 ↔ k = 2) ∧ (ksX k = 0 ↔ k = 3) := by
  rcases (show k = 0 ∨ k = 1 ∨ k = 2 ∨ k = 3 by omega) with e | e | e | e <;> subst e <;> decide
theorem TKR.num {T : Int → Int} {n p s e : Int} (h : TKR T n p s e) : s = 2 → 0 ≤ NUM T p e := fun hs => by
  rcases h with ⟨a1, a2, a3⟩ | ⟨a1, a2, a3, a4⟩ | ⟨a1, a2, a3, a4⟩ | ⟨a1, a2, a3, a4, a5⟩
  · omega
  · omega
  · exact (NUM.ge (i := e) a4.2.2.1 (by have := a4.1; omega) (Int.le_refl e)).1
  · omega
theorem TKX.num {g : List en_E} (h : TKX g) : ksX (rX g 3) = 2 → 0 ≤ NUM (TX g) (rX g 4) (rX g 5) := h.2.1.num
/-- what a step tells -/
theorem TKX.tok {g g' : List en_E} (h : TKX g) (hs : SKP (TX g) (nX g) (rX g 5) (rX g' 4)) : TOK (TX g) (nX g) (rX g 4) (CDX g) (rX g' 4) := ⟨_, _, h.2.1, rfl, hs⟩
theorem ISX.code {g : List en_E} {a c r : Int} (h : BL (rX g 3 = 2 ∧ rX g 4 < nX g ∧ TX g (rX g 4) = a) r) (k : TKX g) (hc : isSC c) (hs : sch c = a) : BL (CDX g = c) r := by
  have e := CDE.g (T := TX g) (p := rX g 4) (s := ksX (rX g 3)) (e := rX g 5) (ksX_rg _) k.num hc
  have i := ksX_i k.2.2.1
  have l := k.2.1.le
  have f : (rX g 3 = 2 ∧ rX g 4 < nX g ∧ TX g (rX g 4) = a) ↔ CDX g = c := by
    rw [← hs]
    exact ⟨fun z => e.mp ⟨i.2.2.1.mpr z.1, z.2.2⟩, fun z => by
      have y := e.mpr z
      exact ⟨i.2.2.1.mp y.1, by omega, y.2⟩⟩
  exact h.elim (fun z => Or.inl ⟨z.1, f.mp z.2⟩) (fun z => Or.inr ⟨z.1, fun y => z.2 (f.mpr y)⟩)
/-- the number of a text -/
def tvl (f : UInt32) : Int := vlv (fun i => ((en_txt.getD (f.toNat - 1) []).getD i.toNat 0).toInt) 0 (en_tl.getD (f.toNat - 1) 0)
theorem st_sm : ∀ k, k < 17 → ∀ j, j < en_tl.getD k 0 → 97 ≤ ((en_txt.getD k []).getD j 0).toInt ∧ ((en_txt.getD k []).getD j 0).toInt ≤ 122 := by decide +kernel
theorem ISW.code {g : List en_E} {f : UInt32} {c r : Int} (h : BL (rX g 3 = 0 ∧ VAL (TX g) (rX g 4) (rX g 5) = tvl f) r) (k : TKX g) (hc : isWC c) (hs : tvl f = wvl c) : BL (CDX g = c) r := by
  have e := CDE.w (T := TX g) (p := rX g 4) (s := ksX (rX g 3)) (e := rX g 5) k.num hc
  have i := ksX_i k.2.2.1
  have f : (rX g 3 = 0 ∧ VAL (TX g) (rX g 4) (rX g 5) = tvl f) ↔ CDX g = c := by
    rw [hs]
    exact ⟨fun z => e.mp ⟨i.1.mpr z.1, z.2⟩, fun z => by
      have y := e.mpr z
      exact ⟨i.1.mp y.1, y.2⟩⟩
  exact h.elim (fun z => Or.inl ⟨z.1, f.mp z.2⟩) (fun z => Or.inr ⟨z.1, fun y => z.2 (f.mpr y)⟩)
theorem isWC_d {c : Int} (h : c = 1 ∨ (10 ≤ c ∧ c ≤ 13) ∨ c = 28 ∨ c = 29 ∨ (40 ≤ c ∧ c ≤ 48)) : isWC c := h
theorem isSC_d {c : Int} (h : c = 2 ∨ c = 3 ∨ c = 6 ∨ c = 9 ∨ c = 14 ∨ (20 ≤ c ∧ c ≤ 26)) : isSC c := h
theorem rX.e {g : List en_E} (_h : HI g) {b : Nat} {v : Int32} (e : gI g 176 b = v) : rX g b = v.toInt := congrArg Int32.toInt e
theorem nX.ci {g g' : List en_E} (_h : HI g') (h : gI g' 174 1 = gI g 174 1) : nX g' = nX g := congrArg Int32.toInt h
theorem TX.ci {g g' : List en_E} (_h : HI g') (h : gA g' 175 = gA g 175) : TX g' = TX g := funext (fun _ => eA_ti h)
theorem nX.e {g : List en_E} (_h : HI g) {v : Int32} (e : gI g 174 1 = v) : nX g = v.toInt := congrArg Int32.toInt e
theorem ATX.in_ {g : List en_E} {p a : Int} (h : ATX g p a) (h1 : a ≠ -1) : 0 ≤ p ∧ p < nX g ∧ a = TX g p := by
  have h2 := h.2
  have h3 := h.1
  by_cases c : p < 0 ∨ nX g ≤ p
  · exact absurd (h2 c) h1
  · exact ⟨by omega, by omega, h3 (by omega) (by omega)⟩
theorem ISX.mk {g : List en_E} {a k p r : Int} (e3 : rX g 3 = k) (e4 : rX g 4 = p) (hp : 0 ≤ p) (ha : 0 ≤ a) (h : (k ≠ 2 ∧ r = 0) ∨ (k = 2 ∧ ∃ v, ATX g p v ∧ ((v = a ∧ r = 1) ∨ (v ≠ a ∧ r = 0)))) : BL (rX g 3 = 2 ∧ rX g 4 < nX g ∧ TX g (rX g 4) = a) r := by
  subst e3 e4
  rcases h with ⟨h1, h2⟩ | ⟨h1, v, h2, ⟨h3, h4⟩ | ⟨h3, h4⟩⟩
  · exact Or.inr ⟨h2, fun z => h1 z.1⟩
  · have y := h2.in_ (by omega)
    exact Or.inl ⟨h4, h1, y.2.1, by omega⟩
  · refine Or.inr ⟨h4, fun z => h3 ?_⟩
    rw [h2.1 hp z.2.1]
    exact z.2.2
def CHF (f : UInt32) (j : Int) : Int := ((en_txt.getD (f.toNat - 1) []).getD j.toNat 0).toInt
theorem CHF.mk {f : UInt32} {v : Int32} {j : Int} (h : v = (en_txt.getD (f.toNat - 1) []).getD j.toNat 0) : v.toInt = CHF f j := congrArg Int32.toInt h
theorem CHF.sm {f : UInt32} (hf : 1 ≤ f.toNat ∧ f.toNat ≤ 17) : ∀ i : Nat, i < en_tl.getD (f.toNat - 1) 0 → smP (CHF f (0 + (i : Int))) := fun i hi => by
  have z := st_sm (f.toNat - 1) (by omega) i hi
  unfold CHF smP
  rw [show (0 + (i : Int)).toNat = i by omega]
  exact z
/-- the letters of a word at hand -/
theorem TKX.let {g : List en_E} (k : TKX g) (h : rX g 3 = 0) : rX g 4 < rX g 5 ∧ rX g 5 ≤ nX g ∧ ∀ i : Nat, i < (rX g 5 - rX g 4).toNat → smP (TX g (rX g 4 + (i : Int))) := by
  have i := (ksX_i k.2.2.1).1.mpr h
  rcases k.2.1 with ⟨a1, a2, a3⟩ | ⟨a1, a2, a3, a4⟩ | ⟨a1, a2, a3, a4⟩ | ⟨a1, a2, a3, a4, a5⟩
  · omega
  · exact ⟨a4.1, a4.2.1, fun j hj => a4.2.2.1 _ (by omega) (by omega)⟩
  · omega
  · omega
theorem ISW.no1 {g : List en_E} {f : UInt32} {r : Int} (h : rX g 3 ≠ 0) (hr : r = 0) : BL (rX g 3 = 0 ∧ VAL (TX g) (rX g 4) (rX g 5) = tvl f) r := Or.inr ⟨hr, fun z => h z.1⟩
theorem ISW.inj {g : List en_E} {f : UInt32} (k : TKX g) (hf : 1 ≤ f.toNat ∧ f.toNat ≤ 17) (h : rX g 3 = 0) (e : VAL (TX g) (rX g 4) (rX g 5) = tvl f) : (rX g 5 - rX g 4).toNat = en_tl.getD (f.toNat - 1) 0 ∧ ∀ i : Nat, i < (rX g 5 - rX g 4).toNat → TX g (rX g 4 + (i : Int)) = CHF f (0 + (i : Int)) :=
  vlv.inj (T := TX g) (C := CHF f) (p := rX g 4) (q := 0) _ _ (k.let h).2.2 (CHF.sm hf) e
theorem ISW.no2 {g : List en_E} {f : UInt32} {r m : Int} (k : TKX g) (hf : 1 ≤ f.toNat ∧ f.toNat ≤ 17) (hm : ((en_tl.getD (f.toNat - 1) 0 : Nat) : Int) = m) (h : rX g 5 - rX g 4 ≠ m) (hr : r = 0) : BL (rX g 3 = 0 ∧ VAL (TX g) (rX g 4) (rX g 5) = tvl f) r := Or.inr ⟨hr, fun z => by
  have a := ISW.inj k hf z.1 z.2
  have b := (k.let z.1).1
  omega⟩
theorem ISW.no3 {g : List en_E} {f : UInt32} {r m i q a c : Int} (k : TKX g) (hf : 1 ≤ f.toNat ∧ f.toNat ≤ 17) (hm : ((en_tl.getD (f.toNat - 1) 0 : Nat) : Int) = m) (hi : 0 ≤ i ∧ i < m) (hq : q = rX g 4 + i) (hl : rX g 5 - rX g 4 = m) (ha : ATX g q a) (hc : c = CHF f i) (hne : a ≠ c) (hr : r = 0) : BL (rX g 3 = 0 ∧ VAL (TX g) (rX g 4) (rX g 5) = tvl f) r := Or.inr ⟨hr, fun z => by
  have x := ISW.inj k hf z.1 z.2
  have b := k.let z.1
  have y := x.2 i.toNat (by omega)
  rw [show ((i.toNat : Nat) : Int) = i by omega, ← hq, show (0 : Int) + i = i by omega, ← hc] at y
  have w := k.2.2.2.1
  exact hne ((ha.1 (by omega) (by omega)).trans y)⟩
theorem ISW.st {g : List en_E} {f : UInt32} {i i' q a c : Int} (h : ∀ j : Int, 0 ≤ j → j < i → TX g (rX g 4 + j) = CHF f j) (hi : i' = i + 1) (hq : q = rX g 4 + i) (ha : ATX g q a) (hc : c = CHF f i) (hn : 0 ≤ c) (e : a = c) : ∀ j : Int, 0 ≤ j → j < i' → TX g (rX g 4 + j) = CHF f j := fun j h0 h1 => by
  by_cases x : j = i
  · subst x
    rw [← hq, ← (ha.in_ (by omega)).2.2, e, hc]
  · exact h j h0 (by omega)
theorem ISW.yes {g : List en_E} {f : UInt32} {r m i : Int} (hm : ((en_tl.getD (f.toNat - 1) 0 : Nat) : Int) = m) (h0 : rX g 3 = 0) (hl : rX g 5 - rX g 4 = m) (h : ∀ j : Int, 0 ≤ j → j < i → TX g (rX g 4 + j) = CHF f j) (hi : m ≤ i) (hr : r = 1) : BL (rX g 3 = 0 ∧ VAL (TX g) (rX g 4) (rX g 5) = tvl f) r := Or.inl ⟨hr, h0, by
  unfold VAL
  rw [show (rX g 5 - rX g 4).toNat = en_tl.getD (f.toNat - 1) 0 by omega]
  refine vlv.same (T := TX g) (C := CHF f) (p := rX g 4) (q := 0) _ (fun j hj => ?_)
  rw [show (0 : Int) + (j : Int) = (j : Int) by omega]
  exact h _ (by omega) (by omega)⟩
theorem KND.u {a r r' : Int} (h : KND a r) (h' : KND a r') : r = r' := by
  obtain ⟨a1, a2, a3, a4⟩ := h
  obtain ⟨b1, b2, b3, b4⟩ := h'
  by_cases c : a = -1
  · rw [a1 c, b1 c]
  · by_cases c1 : smP a
    · rw [a2 c c1, b2 c c1]
    · by_cases c2 : dgP a
      · rw [a3 c c1 c2, b3 c c1 c2]
      · rw [a4 c c1 c2, b4 c c1 c2]
theorem KND.i {a r : Int} (h : KND a r) : (r = 3 → a = -1) ∧ (r = 0 → smP a) ∧ (r = 1 → dgP a) ∧ (r = 2 → ¬ smP a ∧ ¬ dgP a) ∧ 0 ≤ r ∧ r ≤ 3 := by
  have x := h.1
  have y := h.2.1
  have z := h.2.2.1
  have w := h.2.2.2
  by_cases c : a = -1
  · have e := x c
    exact ⟨fun _ => c, by omega, by omega, by omega, by omega, by omega⟩
  · by_cases c1 : smP a
    · have e := y c c1
      exact ⟨by omega, fun _ => c1, by omega, by omega, by omega, by omega⟩
    · by_cases c2 : dgP a
      · have e := z c c1 c2
        exact ⟨by omega, by omega, fun _ => c2, by omega, by omega, by omega⟩
      · have e := w c c1 c2
        exact ⟨by omega, by omega, by omega, fun _ => ⟨c1, c2⟩, by omega, by omega⟩
/-- blanks, one more -/
theorem BLK.st {g : List en_E} {b i i' a : Int} (h : ∀ j : Int, b ≤ j → j < i → TX g j = 32) (hi : i' = i + 1) (ha : ATX g i a) (e : a = 32) : ∀ j : Int, b ≤ j → j < i' → TX g j = 32 := fun j h0 h1 => by
  by_cases x : j = i
  · subst x
    rw [← (ha.in_ (by omega)).2.2, e]
  · exact h j h0 (by omega)
/-- a row of one kind, one more -/
theorem ROWK.z {g : List en_E} {p i kd a : Int} (ha : ATX g p a) (hk : KND a kd) (h : (kd = 3 ∧ i = p) ∨ (kd ≠ 3 ∧ i = p + 1)) : ∀ j : Int, p ≤ j → j < i → KND (TX g j) kd := fun j h0 h1 => by
  rcases h with ⟨h2, h3⟩ | ⟨h2, h3⟩
  · omega
  · rw [show j = p by omega, ← (ha.in_ (fun e => h2 (hk.1 e))).2.2]
    exact hk
theorem ROWK.st {g : List en_E} {p i i' kd kd' a : Int} (h : ∀ j : Int, p ≤ j → j < i → KND (TX g j) kd) (hi : i' = i + 1) (ha : ATX g i a) (hk : KND a kd') (e : kd' = kd) (h3 : kd ≠ 3) : ∀ j : Int, p ≤ j → j < i' → KND (TX g j) kd := fun j h0 h1 => by
  by_cases x : j = i
  · subst x
    subst e
    rw [← (ha.in_ (fun e => h3 (hk.1 e))).2.2]
    exact hk
  · exact h j h0 (by omega)
theorem STEP.mk {g g' : List en_E} {p kd e a : Int} (hA : gA g' 175 = gA g 175) (hN : gI g' 174 1 = gI g 174 1) (e4 : rX g' 4 = p) (e3 : rX g' 3 = kd) (e5 : rX g' 5 = e) (hb : BYX g) (hn4 : nX g ≤ 400) (h0 : 0 ≤ rX g 5) (s1 : rX g 5 ≤ p) (s2 : p ≤ nX g) (s3 : ∀ j, rX g 5 ≤ j → j < p → TX g j = 32) (s4 : p < nX g → TX g p ≠ 32) (ha : ATX g p a) (hk : KND a kd) (h1 : kd = 3 → e = p) (h2 : kd ≠ 3 → p + 1 ≤ e) (hn : e ≤ nX g) (hr : ∀ j, p ≤ j → j < e → KND (TX g j) kd) (h3 : kd = 2 → e = p + 1) (h4 : kd ≠ 2 → e < nX g → ¬ KND (TX g e) kd) : TKX g' ∧ SKP (TX g) (nX g) (rX g 5) (rX g' 4) := by
  unfold TKX
  rw [TX.c hA, nX.c hN, e4, e3, e5]
  have z := hk.i
  refine ⟨⟨hb.c hA hN, ?_, ⟨z.2.2.2.2.1, z.2.2.2.2.2⟩, by omega, hn4⟩, s1, s2, s3, s4⟩
  have i := ksX_i (k := kd) ⟨z.2.2.2.2.1, z.2.2.2.2.2⟩
  by_cases c3 : kd = 3
  · left
    refine ⟨?_, i.2.2.2.mpr c3, h1 c3⟩
    by_cases c : p < nX g
    · have y := ha.1 (by omega) c
      have w := hb p (by omega) c
      have v := z.1 c3
      omega
    · omega
  · have w := ha.in_ (fun e => c3 (hk.1 e))
    have h2' := h2 c3
    have P : ∀ (Q : Int → Prop), (∀ x, KND x kd ↔ (x ≠ -1 ∧ Q x)) → RUNOF Q (TX g) (nX g) p e ∨ kd = 2 := fun Q hQ => by
      by_cases c2 : kd = 2
      · exact Or.inr c2
      · refine Or.inl ⟨by omega, hn, fun k k0 k1 => ((hQ _).mp (hr k k0 k1)).2, fun hlt q => h4 c2 hlt ((hQ _).mpr ⟨?_, q⟩)⟩
        have y := hb e (by omega) hlt
        omega
    rcases (show kd = 0 ∨ kd = 1 ∨ kd = 2 by omega) with c | c | c
    · right; left
      refine ⟨w.2.1, by rw [← w.2.2]; exact z.2.1 c, i.1.mpr c, ?_⟩
      refine (P smP (fun x => ?_)).resolve_right (by omega)
      rw [c]
      constructor
      · intro k
        exact ⟨fun e => by have := k.1 e; omega, k.i.2.1 rfl⟩
      · intro k
        refine ⟨fun e => absurd e k.1, fun _ _ => rfl, fun _ q => absurd k.2 q, fun _ q => absurd k.2 q⟩
    · right; right; left
      refine ⟨w.2.1, by rw [← w.2.2]; exact z.2.2.1 c, i.2.1.mpr c, ?_⟩
      refine (P dgP (fun x => ?_)).resolve_right (by omega)
      rw [c]
      constructor
      · intro k
        exact ⟨fun e => by have := k.1 e; omega, k.i.2.2.1 rfl⟩
      · intro k
        have x : ¬ smP x := by have := k.2; unfold smP dgP at *; omega
        refine ⟨fun e => absurd e k.1, fun _ q => absurd q x, fun _ _ _ => rfl, fun _ _ q => absurd k.2 q⟩
    · right; right; right
      have y := z.2.2.2.1 c
      refine ⟨w.2.1, by rw [← w.2.2]; exact y.1, by rw [← w.2.2]; exact y.2, i.2.2.1.mpr c, h3 c⟩
/-- a number read so far -/
def NHI (g : List en_E) (v i : Int) : Prop := rX g 3 = 1 → v = NUM (TX g) (rX g 4) i
theorem iadd_e {x y v : Int32} (h : v = x + y) (h1 : -2147483648 ≤ x.toInt + y.toInt) (h2 : x.toInt + y.toInt ≤ 2147483647) : v.toInt = x.toInt + y.toInt := by
  rw [h, Int32.toInt_add]
  exact Int.bmod_eq_of_le (by omega) (by omega)
theorem isub_e {x y v : Int32} (h : v = x - y) (h1 : -2147483648 ≤ x.toInt - y.toInt) (h2 : x.toInt - y.toInt ≤ 2147483647) : v.toInt = x.toInt - y.toInt := by
  rw [h, Int32.toInt_sub]
  exact Int.bmod_eq_of_le (by omega) (by omega)
theorem imul_e {x y v : Int32} (h : v = x * y) (hy : y.toInt = 10) (h1 : 0 ≤ x.toInt) (h2 : x.toInt ≤ 1000) : v.toInt = 10 * x.toInt := by
  rw [h, Int32.toInt_mul, hy]
  rw [show x.toInt * 10 = 10 * x.toInt by omega]
  exact Int.bmod_eq_of_le (by omega) (by omega)
theorem TKX.dig {g : List en_E} (k : TKX g) (h : rX g 3 = 1) : rX g 5 ≤ nX g ∧ ∀ j, rX g 4 ≤ j → j < rX g 5 → dgP (TX g j) := by
  have i := (ksX_i k.2.2.1).2.1.mpr h
  rcases k.2.1 with ⟨a1, a2, a3⟩ | ⟨a1, a2, a3, a4⟩ | ⟨a1, a2, a3, a4⟩ | ⟨a1, a2, a3, a4, a5⟩
  · omega
  · omega
  · exact ⟨a4.2.1, a4.2.2.1⟩
  · omega
theorem NHI.z {g : List en_E} {v i : Int} (hv : v = 0) (hi : i = rX g 4) : NHI g v i := fun _ => by rw [hv, hi]; exact (NUM.z _ rfl).symm
theorem NHI.st {g : List en_E} {x v1 v2 v3 a t z : Int32} {i i' : Int} (k : TKX g) (h : NHI g x.toInt i) (hx : x.toInt ≤ 1000) (hi : rX g 4 ≤ i ∧ i < rX g 5) (ei : i' = i + 1) (ha : ATX g i a.toInt) (ht : t.toInt = 10) (hz : z.toInt = 48) (o1 : v1 = x * t) (o2 : v2 = v1 + a) (o3 : v3 = v2 - z) : NHI g v3.toInt i' := fun h1 => by
  have d := k.dig h1
  have w := k.2.2.2.1
  have y := d.2 i hi.1 hi.2
  have u := ha.1 (by omega) (by omega)
  unfold dgP at y
  have e := h h1
  have n := NUM.ge (T := TX g) (p := rX g 4) (i := i) (e := rX g 5) d.2 hi.1 (by omega)
  have q1 := imul_e o1 ht (by omega) hx
  have q2 := iadd_e o2 (by omega) (by omega)
  have q3 := isub_e o3 (by omega) (by omega)
  rw [NUM.s (TX g) hi.1 ei, ← e]
  omega
/-- the number at hand -/
def NHX (g : List en_E) (r : Int) : Prop := rX g 3 = 1 → (0 ≤ r ∧ r ≤ 1000 ∧ CDX g = 100 + r) ∨ (1000 < r ∧ CDX g = 15)
theorem NHX.mk {g : List en_E} {r i : Int} (k : TKX g) (h : NHI g r i) (hi : rX g 4 ≤ i) (h2 : (i ≤ rX g 5 ∧ 1000 < r) ∨ i = rX g 5) : NHX g r := fun h1 => by
  have d := k.dig h1
  have e := h h1
  have i2 := (ksX_i k.2.2.1).2.1.mpr h1
  have n := NUM.ge (T := TX g) (p := rX g 4) (i := i) (e := rX g 5) d.2 hi (by omega)
  have c : CDX g = if NUM (TX g) (rX g 4) (rX g 5) ≤ 1000 then 100 + NUM (TX g) (rX g 4) (rX g 5) else 15 := CDE.n i2
  rcases h2 with h2 | h2
  · right
    rw [c, if_neg (by omega : ¬ NUM (TX g) (rX g 4) (rX g 5) ≤ 1000)]
    exact ⟨h2.2, rfl⟩
  · rw [h2] at e
    by_cases q : r ≤ 1000
    · left
      rw [c, if_pos (by omega : NUM (TX g) (rX g 4) (rX g 5) ≤ 1000)]
      omega
    · right
      rw [c, if_neg (by omega : ¬ NUM (TX g) (rX g 4) (rX g 5) ≤ 1000)]
      omega
/-- no word of the first k -/
def WHI (c k : Int) : Prop := c < 40 ∨ 40 + k ≤ c
def WHX (c r : Int) : Prop := (r = -1 ∧ (c < 40 ∨ 48 < c)) ∨ (0 ≤ r ∧ r ≤ 8 ∧ c = 40 + r)
theorem WHI.z {c k : Int} (h : k = 0) : WHI c k := by unfold WHI; omega
theorem WHI.st {c k k' r w : Int} (h : WHI c k) (e : k' = k + 1) (hb : BL (c = w) r) (hw : w = 40 + k) (hr : r = 0) : WHI c k' := by
  have z := hb.no hr
  unfold WHI at *
  omega
theorem WHX.no {c k r : Int} (h : WHI c k) (hk : 9 ≤ k) (hr : r = -1) : WHX c r := by
  unfold WHI at h
  unfold WHX
  omega
theorem WHX.yes {c k r v w : Int} (hb : BL (c = w) v) (hv : v ≠ 0) (hw : w = 40 + k) (hk : 0 ≤ k ∧ k ≤ 8) (hr : r = k) : WHX c r := by
  have z := hb.yes hv
  unfold WHX
  omega
/-! ===== how the reading stands: it goes on, or there is a fault ===== -/
/-- faults stay; how far it has come -/
def PRG0 (s f0 f1 p0 p1 : Int) : Prop := p0 ≤ p1 ∧ (f0 ≠ -1 → f1 = f0) ∧ (f1 = -1 → f0 = -1 ∧ p0 + s ≤ p1)
theorem PRG0.rf {f p : Int} : PRG0 0 f f p p := ⟨Int.le_refl p, fun _ => rfl, fun h => ⟨h, by omega⟩⟩
theorem PRG0.tr {s t f0 f1 f2 p0 p1 p2 : Int} (h : PRG0 s f0 f1 p0 p1) (k : PRG0 t f1 f2 p1 p2) : PRG0 (s + t) f0 f2 p0 p2 := by
  obtain ⟨a1, a2, a3⟩ := h
  obtain ⟨b1, b2, b3⟩ := k
  refine ⟨by omega, fun e => ?_, fun e => ?_⟩
  · have x := a2 e
    rw [b2 (by omega), x]
  · have x := b3 e
    have y := a3 x.1
    exact ⟨y.1, by omega⟩
theorem PRG0.le {s t f0 f1 p0 p1 : Int} (h : PRG0 s f0 f1 p0 p1) (k : t ≤ s) : PRG0 t f0 f1 p0 p1 := ⟨h.1, h.2.1, fun e => ⟨(h.2.2 e).1, by have := (h.2.2 e).2; omega⟩⟩
theorem PRG0.mk {s f0 f1 p0 p1 : Int} (h1 : p0 ≤ p1) (h2 : f0 ≠ -1 → f1 = f0) (h3 : f1 = -1 → f0 = -1 ∧ p0 + s ≤ p1) : PRG0 s f0 f1 p0 p1 := ⟨h1, h2, h3⟩
/-- a step: from one token to the next -/
theorem PRG0.step {g g' : List en_E} (k : TKX g) (hs : SKP (TX g) (nX g) (rX g 5) (rX g' 4)) (ef : rX g' 2 = rX g 2) (hc : CDX g ≠ 0) : PRG0 1 (rX g 2) (rX g' 2) (rX g 4) (rX g' 4) := by
  have l := k.2.1.le
  have e : ksX (rX g 3) ≠ 0 := fun z => hc ((CDE.e k.num).mp z)
  have m := hs.1
  have w := l.2.2.2.2.2 e
  exact ⟨by omega, fun _ => ef, fun h => ⟨by omega, by omega⟩⟩
theorem PRG0.step0 {g g' : List en_E} (k : TKX g) (hs : SKP (TX g) (nX g) (rX g 5) (rX g' 4)) (ef : rX g' 2 = rX g 2) : PRG0 0 (rX g 2) (rX g' 2) (rX g 4) (rX g' 4) := by
  have l := k.2.1.le
  have m := hs.1
  exact ⟨by omega, fun _ => ef, fun h => ⟨by omega, by omega⟩⟩
theorem PRG0.fail {g g' : List en_E} (s : Int) (e4 : rX g' 4 = rX g 4) (en : rX g 2 ≠ -1 → rX g' 2 = rX g 2) (ef : rX g 2 = -1 → rX g' 2 = rX g 4) (h0 : 0 ≤ rX g 4) : PRG0 s (rX g 2) (rX g' 2) (rX g 4) (rX g' 4) := by
  refine ⟨by omega, en, fun h => ?_⟩
  by_cases c : rX g 2 = -1
  · have := ef c; omega
  · have := en c; omega
theorem PRG0.eq {g g' : List en_E} (e4 : rX g' 4 = rX g 4) (e2 : rX g' 2 = rX g 2) : PRG0 0 (rX g 2) (rX g' 2) (rX g 4) (rX g' 4) := by rw [e4, e2]; exact PRG0.rf
def CST (T : Int → Int) (n : Int) (c0 : CF) (g : List en_E) (t : Int) (F : List Int) (k : Int) : Prop := (rX g 2 = -1 ∧ RUN T n c0 (t, F, rX g 6, k, rX g 4)) ∨ (rX g 2 ≠ -1 ∧ RUN T n c0 (BADC (rX g 2)))
section CSTS
variable {T : Int → Int} {n : Int} {c0 : CF} {g g' : List en_E} {t t' k k' : Int} {F F' : List Int}
theorem CST.step (h : CST T n c0 g t F k) (st : rX g 2 = -1 → STP T n (t, F, rX g 6, k, rX g 4) (t', F', rX g' 6, k', rX g' 4)) (ef : rX g' 2 = rX g 2) : CST T n c0 g' t' F' k' := by
  rcases h with ⟨h1, h2⟩ | ⟨h1, h2⟩
  · exact Or.inl ⟨by rw [ef]; exact h1, h2.tr (RUN.st (st h1))⟩
  · exact Or.inr ⟨by rw [ef]; exact h1, by rw [ef]; exact h2⟩
theorem CST.fail (h : CST T n c0 g t F k) (st : rX g 2 = -1 → STP T n (t, F, rX g 6, k, rX g 4) (BADC (rX g 4))) (ef : rX g 2 = -1 → rX g' 2 = rX g 4) (en : rX g 2 ≠ -1 → rX g' 2 = rX g 2) (h0 : 0 ≤ rX g 4) : CST T n c0 g' t' F' k' := by
  rcases h with ⟨h1, h2⟩ | ⟨h1, h2⟩
  · have e := ef h1
    exact Or.inr ⟨by omega, by rw [e]; exact h2.tr (RUN.st (st h1))⟩
  · have e := en h1
    exact Or.inr ⟨by rw [e]; exact h1, by rw [e]; exact h2⟩
theorem CST.eq (h : CST T n c0 g t F k) (e2 : rX g' 2 = rX g 2) (e4 : rX g' 4 = rX g 4) (e6 : rX g' 6 = rX g 6) : CST T n c0 g' t F k := by
  unfold CST at *
  rw [e2, e4, e6]
  exact h
/-- a step that reads nothing -/
theorem CST.eps (h : CST T n c0 g t F k) (st : rX g 2 = -1 → STP T n (t, F, rX g 6, k, rX g 4) (t', F', rX g 6, k', rX g 4)) : CST T n c0 g t' F' k' := by
  rcases h with ⟨h1, h2⟩ | ⟨h1, h2⟩
  · exact Or.inl ⟨h1, h2.tr (RUN.st (st h1))⟩
  · exact Or.inr ⟨h1, h2⟩
theorem CST.bad (h : CST T n c0 g t F k) (h1 : rX g 2 ≠ -1) (e2 : rX g' 2 = rX g 2) : CST T n c0 g' t' F' k' := by
  rcases h with ⟨h2, h3⟩ | ⟨h2, h3⟩
  · exact absurd h2 h1
  · exact Or.inr ⟨by rw [e2]; exact h2, by rw [e2]; exact h3⟩
end CSTS
def t0f (r : Int) : Int := if r ≤ 1 then 0 else 1
def t1f (r : Int) : Int := if r ≤ 1 then 2 else 3
/-- what joins parts at a rule -/
def JN (r c : Int) : Prop := (r = 0 ∧ c = 29) ∨ (r = 1 ∧ c = 28) ∨ (r = 2 ∧ 20 ≤ c ∧ c ≤ 21) ∨ (r = 3 ∧ 22 ≤ c ∧ c ≤ 23)
def BLN (P : Prop) (r : Int) : Prop := (r = -1 ∧ ¬ P) ∨ (r ≠ -1 ∧ P)
theorem BLN.yes {P : Prop} {r : Int} (h : BLN P r) (hr : r ≠ -1) : P := h.elim (fun a => absurd a.1 hr) (fun a => a.2)
theorem BLN.no {P : Prop} {r : Int} (h : BLN P r) (hr : r = -1) : ¬ P := h.elim (fun a => a.2) (fun a => absurd hr a.1)
theorem JNX.r0 {r c v : Int} (hr : r = 0) (h : (v = -1 ∧ c ≠ 29) ∨ (v ≠ -1 ∧ c = 29)) : BLN (JN r c) v := by
  rcases h with ⟨h1, h2⟩ | ⟨h1, h2⟩
  · exact Or.inl ⟨h1, fun k => by unfold JN at k; omega⟩
  · exact Or.inr ⟨h1, Or.inl ⟨hr, h2⟩⟩
theorem JNX.r1 {r c v : Int} (hr : r = 1) (h : (v = -1 ∧ c ≠ 28) ∨ (v ≠ -1 ∧ c = 28)) : BLN (JN r c) v := by
  rcases h with ⟨h1, h2⟩ | ⟨h1, h2⟩
  · exact Or.inl ⟨h1, fun k => by unfold JN at k; omega⟩
  · exact Or.inr ⟨h1, Or.inr (Or.inl ⟨hr, h2⟩)⟩
theorem JNX.r2 {r c v : Int} (hr : r = 2) (h : (v = -1 ∧ c ≠ 20 ∧ c ≠ 21) ∨ (v ≠ -1 ∧ 20 ≤ c ∧ c ≤ 21)) : BLN (JN r c) v := by
  rcases h with ⟨h1, h2, h3⟩ | ⟨h1, h2⟩
  · exact Or.inl ⟨h1, fun k => by unfold JN at k; omega⟩
  · exact Or.inr ⟨h1, Or.inr (Or.inr (Or.inl ⟨hr, h2⟩))⟩
theorem JNX.r3 {r c v : Int} (hr : r = 3) (h : (v = -1 ∧ c ≠ 22 ∧ c ≠ 23) ∨ (v ≠ -1 ∧ 22 ≤ c ∧ c ≤ 23)) : BLN (JN r c) v := by
  rcases h with ⟨h1, h2, h3⟩ | ⟨h1, h2⟩
  · exact Or.inl ⟨h1, fun k => by unfold JN at k; omega⟩
  · exact Or.inr ⟨h1, Or.inr (Or.inr (Or.inr ⟨hr, h2⟩))⟩
/-- behind a rule no more of what joins its parts -/
def NJ (r c : Int) : Prop := (r = 0 → ¬ (28 ≤ c ∧ c ≤ 29)) ∧ (r = 1 → c ≠ 28) ∧ (r = 2 → ¬ (20 ≤ c ∧ c ≤ 23)) ∧ (r = 3 → ¬ (22 ≤ c ∧ c ≤ 23))
theorem NJ.mk {r r' c : Int} (h : NJ r' c) (hr : (r = 0 ∧ r' = 1) ∨ (r = 2 ∧ r' = 3)) (hj : ¬ JN r c) : NJ r c := by
  unfold NJ JN at *
  omega
theorem NJ.mk1 {r c : Int} (hr : r = 1 ∨ r = 3) (hj : ¬ JN r c) : NJ r c := by
  unfold NJ JN at *
  omega
def OPD (T : Int → Int) (n : Int) (g g1 : List en_E) (r d : Int) : Prop := ∀ (c0 : CF) (F : List Int) (k : Int), (F.length : Int) = d + 1 → (r ≤ 1 → hdF F = 1 ∨ hdF F = 4) → CST T n c0 g (t0f r) F k → CST T n c0 g1 (t1f r) F k
def LPI (T : Int → Int) (n : Int) (g g1 : List en_E) (r d : Int) : Prop := ∀ (c0 : CF) (F : List Int) (k : Int), (F.length : Int) = d + 1 → (r ≤ 1 → hdF F = 1 ∨ hdF F = 4) → CST T n c0 g (t0f r) F k → CST T n c0 g1 (t0f r) F k
/-- a plain one; a part -/
def PLO (T : Int → Int) (n : Int) (g g1 : List en_E) (d : Int) : Prop := ∀ (c0 : CF) (F : List Int) (k : Int), (F.length : Int) = d + 1 → (hdF F = 1 ∨ hdF F = 4) → CST T n c0 g 0 F k → CST T n c0 g1 2 F k
def PAO (T : Int → Int) (n : Int) (g g1 : List en_E) (d : Int) : Prop := ∀ (c0 : CF) (F : List Int) (k : Int), (F.length : Int) = d + 1 → CST T n c0 g 1 F k → CST T n c0 g1 3 F k
def NLI (T : Int → Int) (n : Int) (g g1 : List en_E) : Prop := ∀ (c0 : CF) (F : List Int) (k : Int), CST T n c0 g 0 F k → CST T n c0 g1 0 F k
section OPDS
variable {T : Int → Int} {n d r r' c : Int} {g g1 g2 g3 : List en_E}
theorem OPD.plain (h : PLO T n g g1 d) (hr : r = 1) : OPD T n g g1 r d := by
  subst hr
  exact fun c0 F k hl hh hc => h c0 F k hl (hh (by decide)) hc
theorem OPD.part (h : PAO T n g g1 d) (hr : r = 3) : OPD T n g g1 r d := by
  subst hr
  exact fun c0 F k hl _ hc => h c0 F k hl hc
theorem OPD.join (h : OPD T n g g1 r' d) (hr : (r = 0 ∧ r' = 1) ∨ (r = 2 ∧ r' = 3)) : OPD T n g g1 r d := by
  rcases hr with ⟨h1, h2⟩ | ⟨h1, h2⟩
  · subst h1 h2
    exact fun c0 F k hl hh hc => h c0 F k hl (fun _ => hh (by decide)) hc
  · subst h1 h2
    exact fun c0 F k hl hh hc => h c0 F k hl (fun e => absurd e (by decide)) hc
theorem LPI.rf : LPI T n g g r d := fun _ _ _ _ _ h => h
theorem JN.stp {p q m k : Int} {F : List Int} (h : TOK T n p c q) (j : JN r c) (hr : 0 ≤ r ∧ r ≤ 3) : STP T n (t1f r, F, m, k, p) (t0f r, F, m, k, q) := by
  unfold JN at j
  rcases (show r = 0 ∨ r = 1 ∨ r = 2 ∨ r = 3 by omega) with e | e | e | e <;> subst e
  · exact S.andor h (by omega)
  · exact S.andor h (by omega)
  · exact S.join h (by omega)
  · exact S.join h (by omega)
theorem LPI.next (h : LPI T n g g1 r d) (o : OPD T n g1 g2 r d) (k : TOK T n (rX g2 4) c (rX g3 4)) (j : JN r c) (hr : 0 ≤ r ∧ r ≤ 3) (ef : rX g3 2 = rX g2 2) (e6 : rX g3 6 = rX g2 6) : LPI T n g g3 r d := fun c0 F k' hl hh hc =>
  (o c0 F k' hl hh (h c0 F k' hl hh hc)).step (fun _ => by rw [e6]; exact JN.stp k j hr) ef
theorem LPI.end_ (h : LPI T n g g1 r d) (o : OPD T n g1 g2 r d) (e2 : rX g3 2 = rX g2 2) (e4 : rX g3 4 = rX g2 4) (e6 : rX g3 6 = rX g2 6) : OPD T n g g3 r d := fun c0 F k hl hh hc => (o c0 F k hl hh (h c0 F k hl hh hc)).eq e2 e4 e6
theorem NLI.rf : NLI T n g g := fun _ _ _ h => h
theorem NLI.next (h : NLI T n g g1) (k : TOK T n (rX g1 4) c (rX g2 4)) (hc : c = 1) (ef : rX g2 2 = rX g1 2) (e6 : rX g2 6 = rX g1 6) : NLI T n g g2 := fun c0 F k' hc0 => (h c0 F k' hc0).step (fun _ => by rw [e6]; exact S.not k hc) ef
end OPDS
/-- what the three that read on tell -/
def JPX (g g' : List en_E) (r d : Int) : Prop := TKX g' ∧ PRG0 1 (rX g 2) (rX g' 2) (rX g 4) (rX g' 4) ∧ OPD (TX g) (nX g) g g' r d ∧ (rX g' 2 = -1 → NJ r (CDX g'))
def PPX (g g' : List en_E) (d : Int) : Prop := TKX g' ∧ PRG0 1 (rX g 2) (rX g' 2) (rX g 4) (rX g' 4) ∧ PLO (TX g) (nX g) g g' d
def TPX (g g' : List en_E) (d : Int) : Prop := TKX g' ∧ PRG0 1 (rX g 2) (rX g' 2) (rX g 4) (rX g' 4) ∧ PAO (TX g) (nX g) g g' d
theorem hd_cons {F : List Int} (h : hdF F = 1 ∨ hdF F = 4) : ∃ R, F = hdF F :: R := by
  cases F with
  | nil => exact absurd h (by decide)
  | cons f R => exact ⟨R, rfl⟩
section PARTS
variable {T : Int → Int} {n d c c2 : Int} {g g1 g2 g3 g4 : List en_E}
/-- a part in brackets -/
theorem PAO.sq (k1 : TOK T n (rX g 4) c (rX g1 4)) (hc : c = 3) (hd : d < 8) (e1 : rX g1 2 = rX g 2) (e6 : rX g1 6 = rX g 6) (o : OPD T n g1 g2 2 (d + 1)) (k2 : TOK T n (rX g2 4) c2 (rX g3 4)) (hc2 : c2 = 6) (e3 : rX g3 2 = rX g2 2) (e7 : rX g3 6 = rX g2 6) : PAO T n g g3 d := fun c0 F k hl h => by
  have h1 : CST T n c0 g1 1 (0 :: F) k := h.step (fun _ => by rw [e6]; exact S.sq k1 hc (by omega)) e1
  have h2 : CST T n c0 g2 3 (0 :: F) k := o c0 (0 :: F) k (by rw [List.length_cons]; omega) (fun e => absurd e (by decide)) h1
  exact h2.step (fun _ => by rw [e7]; exact S.sqE k2 hc2) e3
theorem PAO.sqF (k1 : TOK T n (rX g 4) c (rX g1 4)) (hc : c = 3) (hd : d < 8) (e1 : rX g1 2 = rX g 2) (e6 : rX g1 6 = rX g 6) (o : OPD T n g1 g2 2 (d + 1)) {q : Int} (k2 : TOK T n (rX g2 4) c2 q) (hj : rX g2 2 = -1 → NJ 2 c2) (hc2 : c2 ≠ 6) (ef : rX g2 2 = -1 → rX g3 2 = rX g2 4) (en : rX g2 2 ≠ -1 → rX g3 2 = rX g2 2) (h0 : 0 ≤ rX g2 4) : PAO T n g g3 d := fun c0 F k hl h => by
  have h1 : CST T n c0 g1 1 (0 :: F) k := h.step (fun _ => by rw [e6]; exact S.sq k1 hc (by omega)) e1
  have h2 : CST T n c0 g2 3 (0 :: F) k := o c0 (0 :: F) k (by rw [List.length_cons]; omega) (fun e => absurd e (by decide)) h1
  exact h2.fail (fun z => S.sqEF k2 ((hj z).2.2.1 rfl) hc2) ef en h0
theorem PAO.bad (k1 : TOK T n (rX g 4) c (rX g1 4)) (e1 : rX g1 2 = rX g 2) (hb : rX g1 2 ≠ -1) (e2 : rX g2 2 = rX g1 2) : PAO T n g g2 d := fun c0 F k hl h => h.bad (by omega) (by omega)
theorem PAO.deep {q : Int} (k1 : TOK T n (rX g 4) c q) (hc : c = 3) (hd : 8 ≤ d) (ef : rX g 2 = -1 → rX g1 2 = rX g 4) (en : rX g 2 ≠ -1 → rX g1 2 = rX g 2) (h0 : 0 ≤ rX g 4) : PAO T n g g1 d := fun c0 F k hl h => h.fail (fun _ => S.sqF k1 hc (by omega)) ef en h0
theorem PAO.leaf (k1 : TOK T n (rX g 4) c (rX g1 4)) (hc : (40 ≤ c ∧ c ≤ 48) ∨ 100 ≤ c) (hm : rX g 6 < 50) (e1 : rX g1 2 = rX g 2) (e6 : rX g1 6 = rX g 6 + 1) : PAO T n g g1 d := fun c0 F k hl h => h.step (fun _ => S.leaf k1 hc hm e6) e1
theorem PAO.leafF {q : Int} (k1 : TOK T n (rX g 4) c q) (hc3 : c ≠ 3) (hc : ¬ (((40 ≤ c ∧ c ≤ 48) ∨ 100 ≤ c) ∧ rX g 6 < 50)) (ef : rX g 2 = -1 → rX g1 2 = rX g 4) (en : rX g 2 ≠ -1 → rX g1 2 = rX g 2) (h0 : 0 ≤ rX g 4) : PAO T n g g1 d := fun c0 F k hl h => h.fail (fun _ => S.leafF k1 hc3 hc) ef en h0
/-- a test in brackets -/
theorem PLO.rnd (l : NLI T n g g1) (k1 : TOK T n (rX g1 4) c (rX g2 4)) (hc : c = 2) (hd : d < 8) (e1 : rX g2 2 = rX g1 2) (e6 : rX g2 6 = rX g1 6) (o : OPD T n g2 g3 0 (d + 1)) (k2 : TOK T n (rX g3 4) c2 (rX g4 4)) (hc2 : c2 = 9) (e3 : rX g4 2 = rX g3 2) (e7 : rX g4 6 = rX g3 6) {g5 : List en_E} (f2 : rX g5 2 = rX g4 2) (f4 : rX g5 4 = rX g4 4) (f6 : rX g5 6 = rX g4 6) : PLO T n g g5 d := fun c0 F k hl hh h => by
  have h1 : CST T n c0 g2 0 (1 :: F) k := (l c0 F k h).step (fun _ => by rw [e6]; exact S.rnd k1 hc (by omega)) e1
  have h2 : CST T n c0 g3 2 (1 :: F) k := o c0 (1 :: F) k (by rw [List.length_cons]; omega) (fun _ => Or.inl rfl) h1
  have h3 : CST T n c0 g4 2 (ucF F) k := h2.step (fun _ => by rw [e7]; exact S.rndE k2 hc2) e3
  rw [ucF_n (by omega)] at h3
  exact h3.eq f2 f4 f6
theorem PLO.rndF (l : NLI T n g g1) (k1 : TOK T n (rX g1 4) c (rX g2 4)) (hc : c = 2) (hd : d < 8) (e1 : rX g2 2 = rX g1 2) (e6 : rX g2 6 = rX g1 6) (o : OPD T n g2 g3 0 (d + 1)) {q : Int} (k2 : TOK T n (rX g3 4) c2 q) (hj : rX g3 2 = -1 → NJ 0 c2) (hc2 : c2 ≠ 9) (ef : rX g3 2 = -1 → rX g4 2 = rX g3 4) (en : rX g3 2 ≠ -1 → rX g4 2 = rX g3 2) (h0 : 0 ≤ rX g3 4) : PLO T n g g4 d := fun c0 F k hl hh h => by
  have h1 : CST T n c0 g2 0 (1 :: F) k := (l c0 F k h).step (fun _ => by rw [e6]; exact S.rnd k1 hc (by omega)) e1
  have h2 : CST T n c0 g3 2 (1 :: F) k := o c0 (1 :: F) k (by rw [List.length_cons]; omega) (fun _ => Or.inl rfl) h1
  exact h2.fail (fun z => S.rndEF k2 ((hj z).1 rfl) hc2) ef en h0
theorem PLO.bad (l : NLI T n g g1) (hb : rX g1 2 ≠ -1) (e2 : rX g2 2 = rX g1 2) : PLO T n g g2 d := fun c0 F k hl hh h => (l c0 F k h).bad hb e2
theorem PLO.deep (l : NLI T n g g1) {q : Int} (k1 : TOK T n (rX g1 4) c q) (hc : c = 2) (hd : 8 ≤ d) (ef : rX g1 2 = -1 → rX g2 2 = rX g1 4) (en : rX g1 2 ≠ -1 → rX g2 2 = rX g1 2) (h0 : 0 ≤ rX g1 4) : PLO T n g g2 d := fun c0 F k hl hh h => (l c0 F k h).fail (fun _ => S.rndF k1 hc (by omega)) ef en h0
/-- a comparison -/
theorem PLO.cmp (l : NLI T n g g1) {q1 c1 : Int} (k1 : TOK T n (rX g1 4) c1 q1) (hc1 : c1 ≠ 1 ∧ c1 ≠ 2) (o : OPD T n g1 g2 2 d) (k2 : TOK T n (rX g2 4) c (rX g3 4)) (hc : 24 ≤ c ∧ c ≤ 26) (e2 : rX g3 2 = rX g2 2) (e6 : rX g3 6 = rX g2 6) (o2 : OPD T n g3 g4 2 d) {q : Int} (k3 : TOK T n (rX g4 4) c2 q) (hj : rX g4 2 = -1 → NJ 2 c2) {g5 : List en_E} (f2 : rX g5 2 = rX g4 2) (f4 : rX g5 4 = rX g4 4) (f6 : rX g5 6 = rX g4 6) : PLO T n g g5 d := fun c0 F k hl hh h => by
  have h0 : CST T n c0 g1 1 F k := (l c0 F k h).eps (fun _ => S.plain k1 hc1.1 hc1.2)
  have h1 : CST T n c0 g2 3 F k := o c0 F k hl (fun e => absurd e (by decide)) h0
  obtain ⟨R, hR⟩ := hd_cons hh
  have hlR : (F.length : Int) = R.length + 1 := by rw [hR, List.length_cons]; omega
  rw [hR] at h1 ⊢
  have h2 : CST T n c0 g3 1 ((hdF F + 1) :: R) k := h1.step (fun _ => by rw [e6]; exact S.cmp k2 hc hh) e2
  have h3 : CST T n c0 g4 3 ((hdF F + 1) :: R) k := o2 c0 _ k (by rw [List.length_cons]; omega) (fun e => absurd e (by decide)) h2
  have h4 : CST T n c0 g4 2 (hdF F :: R) k := h3.eps (fun z => S.told k3 ((hj z).2.2.1 rfl) hh)
  exact h4.eq f2 f4 f6
theorem PLO.cmpF (l : NLI T n g g1) {q1 c1 : Int} (k1 : TOK T n (rX g1 4) c1 q1) (hc1 : c1 ≠ 1 ∧ c1 ≠ 2) (o : OPD T n g1 g2 2 d) {q : Int} (k2 : TOK T n (rX g2 4) c q) (hj : rX g2 2 = -1 → NJ 2 c) (hc : ¬ (24 ≤ c ∧ c ≤ 26)) (ef : rX g2 2 = -1 → rX g3 2 = rX g2 4) (en : rX g2 2 ≠ -1 → rX g3 2 = rX g2 2) (h0 : 0 ≤ rX g2 4) : PLO T n g g3 d := fun c0 F k hl hh h => by
  have h0' : CST T n c0 g1 1 F k := (l c0 F k h).eps (fun _ => S.plain k1 hc1.1 hc1.2)
  have h1 : CST T n c0 g2 3 F k := o c0 F k hl (fun e => absurd e (by decide)) h0'
  obtain ⟨R, hR⟩ := hd_cons hh
  rw [hR] at h1
  exact h1.fail (fun z => S.cmpF k2 ((hj z).2.2.1 rfl) hc hh) ef en h0
end PARTS
def kX (g : List en_E) : Int := (gI g 177 3).toInt
theorem kX.e {g : List en_E} (_h : HI g) {v : Int32} (e : gI g 177 3 = v) : kX g = v.toInt := congrArg Int32.toInt e
def Pm5 (x : CF) : Prop := 0 ≤ x.2.2.1 ∧ x.2.2.1 ≤ 50
theorem pm_if {c : Prop} [Decidable c] {a b : CF} (ha : c → Pm5 a) (hb : ¬ c → Pm5 b) : Pm5 (if c then a else b) := by
  by_cases k : c
  · rw [if_pos k]; exact ha k
  · rw [if_neg k]; exact hb k
theorem stf_m {c q : Int} {z : CF} (h : 0 ≤ z.2.2.1 ∧ z.2.2.1 ≤ 50) : Pm5 (stf c q z) := by
  unfold stf
  repeat' (refine pm_if (fun _ => ?_) (fun _ => ?_))
  all_goals first | exact h | exact ⟨Int.le_refl 0, (show (0 : Int) ≤ 50 from by decide)⟩ | exact ⟨show 0 ≤ z.2.2.1 + 1 from by omega, show z.2.2.1 + 1 ≤ 50 from by omega⟩
theorem rnN_m {T : Int → Int} {n : Int} {b : CF} : ∀ (k : Nat) {a : CF}, rnN T n k a b → (0 ≤ a.2.2.1 ∧ a.2.2.1 ≤ 50) → 0 ≤ b.2.2.1 ∧ b.2.2.1 ≤ 50
  | 0, a, h, m => by have e : a = b := h; rw [← e]; exact m
  | k + 1, a, h, m => by
    obtain ⟨d, ⟨c, q, _, e⟩, h2⟩ := h
    exact rnN_m k h2 (by rw [e]; exact stf_m m)
theorem CST.m50 {T : Int → Int} {n p t k : Int} {g : List en_E} {F : List Int} (h : CST T n (6, [], 0, 0, p) g t F k) (hz : rX g 2 = -1) : 0 ≤ rX g 6 ∧ rX g 6 ≤ 50 := by
  rcases h with ⟨_, j, h⟩ | h
  · exact rnN_m j h ⟨Int.le_refl 0, (show (0 : Int) ≤ 50 from by decide)⟩
  · exact absurd hz h.1
/-- a clause -/
def CPX (g g' : List en_E) : Prop := TKX g' ∧ PRG0 1 (rX g 2) (rX g' 2) (rX g 4) (rX g' 4) ∧ ∀ c0 : CF, CST (TX g) (nX g) c0 g 6 [] (kX g) → CST (TX g) (nX g) c0 g' 8 [] (kX g')
/-- the whole text: read, or the place of the fault -/
def RPX (g g' : List en_E) (r : Int) : Prop := ∃ q, SKP (TX g) (nX g) 0 q ∧ ((r = 1 ∧ rX g' 2 = -1 ∧ ∃ m k p, RUN (TX g) (nX g) (6, [], 0, 0, q) (9, [], m, k, p)) ∨ (r = 0 ∧ rX g' 2 ≠ -1 ∧ RUN (TX g) (nX g) (6, [], 0, 0, q) (BADC (rX g' 2))))
theorem SKP.ex {T : Int → Int} {n : Int} : ∀ (m : Nat) {i : Int}, (n - i).toNat = m → i ≤ n → ∃ j, SKP T n i j
  | 0, i, hm, h => ⟨i, Int.le_refl i, h, fun k a b => absurd b (by omega), fun e => absurd e (by omega)⟩
  | m + 1, i, hm, h => by
    by_cases c : T i = 32
    · obtain ⟨j, h1, h2, h3, h4⟩ := SKP.ex (T := T) (n := n) m (i := i + 1) (by omega) (by omega)
      refine ⟨j, by omega, h2, fun k a b => ?_, h4⟩
      by_cases e : k = i
      · rw [e]; exact c
      · exact h3 k (by omega) b
    · exact ⟨i, Int.le_refl i, h, fun k a b => absurd b (by omega), fun _ => c⟩
theorem TKX.some {g : List en_E} (h : TKX g) : ∃ q, TOK (TX g) (nX g) (rX g 4) (CDX g) q := by
  have l := h.2.1.le
  obtain ⟨j, hj⟩ := SKP.ex (T := TX g) (n := nX g) _ (i := rX g 5) rfl l.2.1
  exact ⟨j, _, _, h.2.1, rfl, hj⟩
theorem TKX.someC {g g' : List en_E} (h : TKX g') (h1 : gA g' 175 = gA g 175) (h2 : gI g' 174 1 = gI g 174 1) : ∃ q, TOK (TX g) (nX g) (rX g' 4) (CDX g') q := by
  have z := h.some
  rw [TX.c h1, nX.c h2] at z
  exact z
theorem CDX.lt {g : List en_E} (h : TKX g) (h3 : rX g 3 ≠ 1) : CDX g < 100 := by
  have i := ksX_i h.2.2.1
  unfold CDX CDE
  have a := wcd_rg (VAL (TX g) (rX g 4) (rX g 5))
  have b := sgc_rg (TX g (rX g 4))
  unfold isWC at a
  unfold isSC at b
  (repeat' split) <;> omega
theorem CDX.end_ {g : List en_E} (h : TKX g) (h4 : 400 ≤ rX g 4) : CDX g = 0 := by
  have l := h.2.1.le
  have n := h.2.2.2.2
  exact (CDE.e h.num).mp (l.2.2.2.2.1.mpr (by omega))
theorem LPI.eq {T : Int → Int} {n r d : Int} {g g1 g2 : List en_E} (h : LPI T n g g1 r d) (e2 : rX g2 2 = rX g1 2) (e4 : rX g2 4 = rX g1 4) (e6 : rX g2 6 = rX g1 6) : LPI T n g g2 r d := fun c0 F k hl hh hc => (h c0 F k hl hh hc).eq e2 e4 e6
theorem CMX.mk {c v : Int} (h : (v = -1 ∧ c ≠ 24 ∧ c ≠ 25 ∧ c ≠ 26) ∨ (v ≠ -1 ∧ 24 ≤ c ∧ c ≤ 26)) : BLN (24 ≤ c ∧ c ≤ 26) v := by
  rcases h with ⟨h1, h2⟩ | h
  · exact Or.inl ⟨h1, fun k => by omega⟩
  · exact Or.inr h
section CLAUSES
variable {T : Int → Int} {n c m k k' : Int} {c0 : CF} {g g1 g2 : List en_E}
theorem CLX.head {t t' : Int} {F F' : List Int} (h : CST T n c0 g t F k) (st : rX g 2 = -1 → STP T n (t, F, rX g 6, k, rX g 4) (t', F', rX g 6, k', rX g1 4)) (e2 : rX g1 2 = rX g 2) (e6 : rX g1 6 = rX g 6) : CST T n c0 g1 t' F' k' := h.step (fun z => by rw [e6]; exact st z) e2
theorem CLX.sum (o : OPD T n g g1 2 0) (h : CST T n c0 g 1 [3] k) {q : Int} (k1 : TOK T n (rX g1 4) c q) (hj : rX g1 2 = -1 → NJ 2 c) : CST T n c0 g1 7 [] k := (o c0 [3] k rfl (fun e => absurd e (by decide)) h).eps (fun z => S.sum k1 ((hj z).2.2.1 rfl))
theorem CLX.test (o : OPD T n g g1 0 0) (h : CST T n c0 g 0 [4] k) {q : Int} (k1 : TOK T n (rX g1 4) c q) (hj : rX g1 2 = -1 → NJ 0 c) : CST T n c0 g1 8 [] k := (o c0 [4] k rfl (fun _ => Or.inr rfl) h).eps (fun z => S.test k1 ((hj z).1 rfl))
end CLAUSES
theorem ATX.c {g g' : List en_E} {a r : Int} (h : ATX g' a r) (h1 : gA g' 175 = gA g 175) (h2 : gI g' 174 1 = gI g 174 1) : ATX g a r := by
  unfold ATX at *
  rw [TX.c h1, nX.c h2] at h
  exact h
def RWI (kd p i : Int) : Prop := (kd = 3 → i = p) ∧ (kd ≠ 3 → p + 1 ≤ i) ∧ (kd = 2 → i = p + 1)
theorem RWI.z {kd p i : Int} (h : (kd = 3 ∧ i = p) ∨ (kd ≠ 3 ∧ i = p + 1)) : RWI kd p i := by unfold RWI; omega
theorem ROWK.ne3 {g : List en_E} {i a kd : Int} (hb : BYX g) (h0 : 0 ≤ i) (h1 : i < nX g) (ha : ATX g i a) (hk : KND a kd) : kd ≠ 3 := fun e => by
  have x := hk.i.1 e
  have y := ha.1 h0 h1
  have z := hb i h0 h1
  omega
theorem RWI.st {kd p i i' : Int} (h : RWI kd p i) (h2 : kd ≠ 2) (h3 : kd ≠ 3) (e : i' = i + 1) : RWI kd p i' := by unfold RWI at *; omega
theorem KND.ne {g : List en_E} {p a kd kd' : Int} (ha : ATX g p a) (h0 : 0 ≤ p) (h1 : p < nX g) (hk : KND a kd') (hne : kd' ≠ kd) : ¬ KND (TX g p) kd := fun z => by
  rw [← ha.1 h0 h1] at z
  exact hne (hk.u z)
theorem JN.ne {r c : Int} (h : JN r c) : c ≠ 0 := by unfold JN at h; omega
theorem NHX.c {g g' : List en_E} {r : Int} (h : NHX g' r) (e3 : rX g' 3 = rX g 3) (ec : CDX g' = CDX g) : NHX g r := by
  unfold NHX at *
  rw [e3, ec] at h
  exact h
theorem OPD.fr {T : Int → Int} {n r d : Int} {g g1 g' : List en_E} (o : OPD T n g1 g' r d) (e2 : rX g1 2 = rX g 2) (e4 : rX g1 4 = rX g 4) (e6 : rX g1 6 = rX g 6) : OPD T n g g' r d := fun c0 F k hl hh hc => o c0 F k hl hh (hc.eq e2 e4 e6)
theorem CDX.k3 {g : List en_E} (h : TKX g) : CDX g = 0 ↔ rX g 3 = 3 := by
  have i := ksX_i h.2.2.1
  exact (CDE.e h.num).symm.trans i.2.2.2
section READS
variable {T : Int → Int} {n c k p : Int} {c0 : CF} {g g' : List en_E}
theorem RPX.bad (h : CST T n c0 g 8 [] k) (h1 : rX g 2 ≠ -1) (e : rX g' 2 = rX g 2) : RUN T n c0 (BADC (rX g' 2)) := by
  rcases h with ⟨h2, h3⟩ | ⟨h2, h3⟩
  · exact absurd h2 h1
  · rw [e]; exact h3
theorem RPX.fin (h : CST T n c0 g 8 [] k) (h1 : rX g 2 = -1) {q : Int} (k1 : TOK T n (rX g 4) c q) (hc : c = 0) : ∃ m k p, RUN T n c0 (9, [], m, k, p) := by
  rcases h with ⟨h2, h3⟩ | ⟨h2, h3⟩
  · exact ⟨_, _, _, h3.tr (RUN.st (S.fin k1 hc))⟩
  · exact absurd h1 h2
theorem RPX.fail (h : CST T n c0 g 8 [] k) (h1 : rX g 2 = -1) {q : Int} (k1 : TOK T n (rX g 4) c q) (e1 : c ≠ 14) (e0 : c ≠ 0) (e : rX g' 2 = rX g 4) : RUN T n c0 (BADC (rX g' 2)) := by
  rcases h with ⟨h2, h3⟩ | ⟨h2, h3⟩
  · rw [e]; exact h3.tr (RUN.st (S.finF k1 e1 e0))
  · exact absurd h1 h2
theorem CST.start (h2 : rX g 2 = -1) (h6 : rX g 6 = 0) (hk : k = 0) : CST T n (6, [], 0, 0, rX g 4) g 6 [] k := Or.inl ⟨h2, RUN.rf (by rw [h6, hk])⟩
end READS
theorem OPD.cast {T : Int → Int} {n r r' d d' : Int} {g g1 : List en_E} (o : OPD T n g g1 r d) (hr : r = r') (hd : d = d') : OPD T n g g1 r' d' := by
  subst hr hd
  exact o
theorem OPD.tc {gx g0 g g1 : List en_E} {r d : Int} (o : OPD (TX gx) (nX gx) g g1 r d) (h1 : gA gx 175 = gA g0 175) (h2 : gI gx 174 1 = gI g0 174 1) : OPD (TX g0) (nX g0) g g1 r d := by
  rw [TX.c h1, nX.c h2] at o
  exact o
theorem PRG0.fr {k a b c d a' c' : Int} (h : PRG0 k a b c d) (e : a = a') (e' : c = c') : PRG0 k a' b c' d := by
  subst e e'
  exact h
