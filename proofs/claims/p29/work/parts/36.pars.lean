/-! ===== the reference's parser: its code and its pile ===== -/
abbrev pI (g : List en_E) (b : Nat) : Int := (gI g 231 b).toInt
abbrev pE (g : List en_E) (p : Nat) : Int → Int := fun i => (eA g p i).toInt
def PStep (op arg pl pa H : Int → Int) (n p i : Int) : Prop := (0 ≤ op i ∧ op i ≤ 9 ∧ H (i + 1) = H i + 1) ∨ (20 ≤ op i ∧ op i ≤ 26 ∧ 2 ≤ H i ∧ H (i + 1) = H i - 1) ∨ (op i = 27 ∧ 1 ≤ H i ∧ H (i + 1) = H i) ∨ (28 ≤ op i ∧ op i ≤ 29 ∧ 1 ≤ H i ∧ H (i + 1) = H i - 1 ∧ ((i < arg i ∧ arg i ≤ n ∧ H (arg i) = H i) ∨ ∃ j, 0 ≤ j ∧ j < p ∧ 28 ≤ pl j ∧ pl j ≤ 29 ∧ pa j = i))
def PPile (pl pa H C : Int → Int) (b n j : Int) : Prop := 20 ≤ pl j ∧ pl j ≤ 31 ∧ (pl j ≤ 26 → C (j + 1) = C j + 1) ∧ (26 < pl j → C (j + 1) = C j) ∧ (28 ≤ pl j → pl j ≤ 29 → b ≤ pa j ∧ pa j ≤ n ∧ H (pa j) = C j + 1)
/-- what is written from b to n, what is piled; e: how many operands stand besides those that wait for their operators -/
def PS (op arg pl pa : Int → Int) (b n p e : Int) (o0 a0 : Int → Int) : Prop := 0 ≤ b ∧ b ≤ n ∧ 0 ≤ p ∧ (∀ i, 0 ≤ i → i < b → op i = o0 i ∧ arg i = a0 i) ∧ (∀ j k, 0 ≤ j → j < k → k < p → pl j = 31 → pl k ≤ 23 ∨ pl k = 31) ∧ ∃ H C : Int → Int, H b = 0 ∧ C 0 = 0 ∧ (∀ i, b ≤ i → i ≤ n → 0 ≤ H i ∧ H i ≤ i - b) ∧ (∀ j, 0 ≤ j → j ≤ p → 0 ≤ C j) ∧ H n = C p + e ∧ (∀ j, 0 ≤ j → j < p → PPile pl pa H C b n j) ∧ ∀ i, b ≤ i → i < n → PStep op arg pl pa H n p i
section PARS
variable {op arg pl pa op' arg' pl' pa' o0 a0 : Int → Int} {b n p e e' : Int}
theorem PS.emit (h : PS op arg pl pa b n p e o0 a0) (hop : ∀ i, 0 ≤ i → i ≠ n → op' i = op i) (har : ∀ i, 0 ≤ i → i ≠ n → arg' i = arg i) (hs : (0 ≤ op' n ∧ op' n ≤ 9 ∧ e' = e + 1 ∧ 0 ≤ e) ∨ (20 ≤ op' n ∧ op' n ≤ 26 ∧ e' = e - 1 ∧ 2 ≤ e) ∨ (op' n = 27 ∧ e' = e ∧ 1 ≤ e) ∨ (28 ≤ op' n ∧ op' n ≤ 29 ∧ e' = e - 1 ∧ 1 ≤ e ∧ ∃ j, 0 ≤ j ∧ j < p ∧ 28 ≤ pl j ∧ pl j ≤ 29 ∧ pa j = n)) : PS op' arg' pl pa b (n + 1) p e' o0 a0 := by
  obtain ⟨hb, hbn, hp, hf, hq, H, C, H0, C0, hH, hC, hn, hpl, hst⟩ := h
  have cp := hC p hp (Int.le_refl p)
  have hn1 := hH n hbn (Int.le_refl n)
  have hv : ∀ i, i ≤ n → (if i = n + 1 then C p + e' else H i) = H i := fun i hi => if_neg (by omega)
  have hw : (if n + 1 = n + 1 then C p + e' else H (n + 1)) = C p + e' := if_pos rfl
  refine ⟨hb, by omega, hp, fun i i0 i1 => by rw [hop i i0 (by omega), har i i0 (by omega)]; exact hf i i0 i1, hq, fun i => if i = n + 1 then C p + e' else H i, C, ?_, C0, ?_, hC, hw, ?_, ?_⟩
  · show (if b = n + 1 then C p + e' else H b) = 0
    rw [hv b hbn]
    exact H0
  · intro i i0 i1
    show 0 ≤ (if i = n + 1 then C p + e' else H i) ∧ (if i = n + 1 then C p + e' else H i) ≤ i - b
    by_cases e1 : i = n + 1
    · rw [e1, hw]
      rcases hs with h | h | h | h <;> omega
    · rw [hv i (by omega)]
      exact hH i i0 (by omega)
  · intro j j0 j1
    have h1 := hpl j j0 j1
    refine ⟨h1.1, h1.2.1, h1.2.2.1, h1.2.2.2.1, fun x y => ?_⟩
    have h2 := h1.2.2.2.2 x y
    refine ⟨h2.1, by omega, ?_⟩
    show (if pa j = n + 1 then C p + e' else H (pa j)) = C j + 1
    rw [hv _ h2.2.1]
    exact h2.2.2
  · intro i i0 i1
    unfold PStep
    by_cases e1 : i = n
    · subst e1
      dsimp only
      rw [hw, hv i (Int.le_refl i)]
      rcases hs with h | h | h | h
      · exact Or.inl ⟨h.1, h.2.1, by omega⟩
      · exact Or.inr (Or.inl ⟨h.1, h.2.1, by omega, by omega⟩)
      · exact Or.inr (Or.inr (Or.inl ⟨h.1, by omega, by omega⟩))
      · exact Or.inr (Or.inr (Or.inr ⟨h.1, h.2.1, by omega, by omega, Or.inr h.2.2.2.2⟩))
    · have h1 := hst i i0 (by omega)
      unfold PStep at h1
      dsimp only
      rw [hop i (by omega) e1, har i (by omega) e1, hv i (by omega), hv (i + 1) (by omega)]
      rcases h1 with h | h | h | ⟨h1, h2, h3, h4, h5⟩
      · exact Or.inl h
      · exact Or.inr (Or.inl h)
      · exact Or.inr (Or.inr (Or.inl h))
      · refine Or.inr (Or.inr (Or.inr ⟨h1, h2, h3, h4, ?_⟩))
        rcases h5 with ⟨h5, h6, h7⟩ | h5
        · exact Or.inl ⟨h5, by omega, by rw [hv _ h6]; exact h7⟩
        · exact Or.inr h5
theorem PS.push (h : PS op arg pl pa b n p e o0 a0) (hpl : ∀ j, 0 ≤ j → j ≠ p → pl' j = pl j) (hpa : ∀ j, 0 ≤ j → j ≠ p → pa' j = pa j) (ho : 20 ≤ pl' p ∧ pl' p ≤ 31) (hs : (pl' p ≤ 23 ∨ pl' p = 31) ∨ ∀ j, 0 ≤ j → j < p → pl j ≠ 31) (he : (pl' p ≤ 26 ∧ e' = e - 1) ∨ (26 < pl' p ∧ e' = e)) (hj : 28 ≤ pl' p → pl' p ≤ 29 → pa' p = n ∧ e = 1) : PS op arg pl' pa' b n (p + 1) e' o0 a0 := by
  obtain ⟨hb, hbn, hp, hf, hq, H, C, H0, C0, hH, hC, hn, hpl0, hst⟩ := h
  have cp := hC p hp (Int.le_refl p)
  have hn1 := hH n hbn (Int.le_refl n)
  have hv : ∀ j, j ≤ p → (if j = p + 1 then C p + e - e' else C j) = C j := fun i hi => if_neg (by omega)
  have hw : (if p + 1 = p + 1 then C p + e - e' else C (p + 1)) = C p + e - e' := if_pos rfl
  refine ⟨hb, hbn, by omega, hf, fun j k j0 jk kp hj1 => ?_, H, fun j => if j = p + 1 then C p + e - e' else C j, H0, ?_, hH, ?_, ?_, ?_, ?_⟩
  · rw [hpl j j0 (by omega)] at hj1
    by_cases e1 : k = p
    · rw [e1]
      rcases hs with h | h
      · exact h
      · exact absurd hj1 (h j j0 (by omega))
    · rw [hpl k (by omega) e1]
      exact hq j k j0 jk (by omega) hj1
  · show (if 0 = p + 1 then C p + e - e' else C 0) = 0
    rw [hv 0 hp]
    exact C0
  · intro j j0 j1
    show 0 ≤ (if j = p + 1 then C p + e - e' else C j)
    by_cases e1 : j = p + 1
    · rw [e1, hw]
      rcases he with h | h <;> omega
    · rw [hv j (by omega)]
      exact hC j j0 (by omega)
  · show H n = (if p + 1 = p + 1 then C p + e - e' else C (p + 1)) + e'
    rw [hw]
    omega
  · intro j j0 j1
    unfold PPile
    dsimp only
    by_cases e1 : j = p
    · subst e1
      rw [hw, hv j (Int.le_refl j)]
      refine ⟨ho.1, ho.2, fun x => by omega, fun x => by omega, fun x y => ?_⟩
      obtain ⟨z1, z2⟩ := hj x y
      rw [z1]
      exact ⟨hbn, Int.le_refl n, by omega⟩
    · have h1 := hpl0 j j0 (by omega)
      unfold PPile at h1
      rw [hpl j j0 e1, hpa j j0 e1, hv j (by omega), hv (j + 1) (by omega)]
      exact h1
  · intro i i0 i1
    have h1 := hst i i0 i1
    unfold PStep at h1 ⊢
    rcases h1 with h | h | h | ⟨h1, h2, h3, h4, h5⟩
    · exact Or.inl h
    · exact Or.inr (Or.inl h)
    · exact Or.inr (Or.inr (Or.inl h))
    · refine Or.inr (Or.inr (Or.inr ⟨h1, h2, h3, h4, ?_⟩))
      rcases h5 with h5 | ⟨j, j0, j1, j2, j3, j4⟩
      · exact Or.inl h5
      · exact Or.inr ⟨j, j0, by omega, by rw [hpl j j0 (by omega)]; exact j2, by rw [hpl j j0 (by omega)]; exact j3, by rw [hpa j j0 (by omega)]; exact j4⟩
/-- what lies on top goes: an operator (e is one more), a NOT or a bracket -/
theorem PS.pop (h : PS op arg pl pa b n (p + 1) e o0 a0) (h0 : 0 ≤ p) (hk : (pl p ≤ 26 ∧ e' = e + 1) ∨ (26 < pl p ∧ e' = e ∧ (pl p < 28 ∨ 29 < pl p))) : PS op arg pl pa b n p e' o0 a0 := by
  obtain ⟨hb, hbn, hp, hf, hq, H, C, H0, C0, hH, hC, hn, hpl0, hst⟩ := h
  have ht := hpl0 p h0 (by omega)
  unfold PPile at ht
  have hcp : H n = C p + e' := by
    rcases hk with h | h
    · have := ht.2.2.1 h.1; omega
    · have := ht.2.2.2.1 h.1; omega
  refine ⟨hb, hbn, h0, hf, fun j k j0 jk kp hj1 => hq j k j0 jk (by omega) hj1, H, C, H0, C0, hH, fun j j0 j1 => hC j j0 (by omega), hcp, fun j j0 j1 => hpl0 j j0 (by omega), fun i i0 i1 => ?_⟩
  have h1 := hst i i0 i1
  unfold PStep at h1 ⊢
  rcases h1 with h | h | h | ⟨h1, h2, h3, h4, h5⟩
  · exact Or.inl h
  · exact Or.inr (Or.inl h)
  · exact Or.inr (Or.inr (Or.inl h))
  · refine Or.inr (Or.inr (Or.inr ⟨h1, h2, h3, h4, ?_⟩))
    rcases h5 with h5 | ⟨j, j0, j1, j2, j3, j4⟩
    · exact Or.inl h5
    · by_cases e1 : j = p
      · subst e1
        rcases hk with h | h <;> omega
      · exact Or.inr ⟨j, j0, by omega, j2, j3, j4⟩
/-- an AND or OR on top goes: its place in the code is told where it leads -/
theorem PS.popJ (h : PS op arg pl pa b n (p + 1) 1 o0 a0) (h0 : 0 ≤ p) (hk : 28 ≤ pl p ∧ pl p ≤ 29) (hn' : arg' (pa p) = n) (har : ∀ i, 0 ≤ i → i ≠ pa p → arg' i = arg i) : PS op arg' pl pa b n p 1 o0 a0 := by
  obtain ⟨hb, hbn, hp, hf, hq, H, C, H0, C0, hH, hC, hn, hpl0, hst⟩ := h
  have ht := hpl0 p h0 (by omega)
  unfold PPile at ht
  have hcp := ht.2.2.2.1 (by omega)
  obtain ⟨t1, t2, t3⟩ := ht.2.2.2.2 hk.1 hk.2
  refine ⟨hb, hbn, h0, fun i i0 i1 => ⟨(hf i i0 i1).1, by rw [har i i0 (by omega)]; exact (hf i i0 i1).2⟩, fun j k j0 jk kp hj1 => hq j k j0 jk (by omega) hj1, H, C, H0, C0, hH, fun j j0 j1 => hC j j0 (by omega), by omega, fun j j0 j1 => hpl0 j j0 (by omega), fun i i0 i1 => ?_⟩
  have h1 := hst i i0 i1
  unfold PStep at h1 ⊢
  rcases h1 with h | h | h | ⟨h1, h2, h3, h4, h5⟩
  · exact Or.inl h
  · exact Or.inr (Or.inl h)
  · exact Or.inr (Or.inr (Or.inl h))
  · refine Or.inr (Or.inr (Or.inr ⟨h1, h2, h3, h4, ?_⟩))
    by_cases e2 : i = pa p
    · refine Or.inl ?_
      rw [e2, hn']
      exact ⟨by omega, Int.le_refl n, by omega⟩
    · rw [har i (by omega) e2]
      rcases h5 with h5 | ⟨j, j0, j1, j2, j3, j4⟩
      · exact Or.inl h5
      · by_cases e1 : j = p
        · subst e1
          exact absurd j4.symm e2
        · exact Or.inr ⟨j, j0, by omega, j2, j3, j4⟩
theorem PS.fin (h : PS op arg pl pa b n 0 1 o0 a0) (h4 : n ≤ 400) : WfCode op arg b n := by
  obtain ⟨hb, hbn, hp, hf, hq, H, C, H0, C0, hH, hC, hn, hpl0, hst⟩ := h
  refine ⟨hb, hbn, h4, H, H0, hH, fun i i0 i1 => ?_⟩
  have h1 := hst i i0 i1
  unfold PStep at h1
  unfold WfStep
  rcases h1 with h | h | h | ⟨h1, h2, h3, h4, h5⟩
  · exact Or.inl h
  · exact Or.inr (Or.inl h)
  · exact Or.inr (Or.inr (Or.inl h))
  · refine Or.inr (Or.inr (Or.inr ⟨h1, h2, h3, h4, ?_⟩))
    rcases h5 with h5 | ⟨j, j0, j1, -⟩
    · exact h5
    · omega
theorem PS.start (hb : 0 ≤ n) (h : ∀ i, 0 ≤ i → i < n → op i = o0 i ∧ arg i = a0 i) : PS op arg pl pa n n 0 0 o0 a0 :=
  ⟨hb, Int.le_refl n, Int.le_refl 0, h, fun j k j0 jk kp _ => by omega, fun _ => 0, fun _ => 0, rfl, rfl, fun i i0 i1 => ⟨Int.le_refl 0, by show (0 : Int) ≤ i - n; omega⟩, fun j _ _ => Int.le_refl 0, rfl, fun j j0 j1 => by omega, fun i i0 i1 => by omega⟩
theorem WfCode.congr {a c : Int} (h : WfCode op arg a c) (he : ∀ i, a ≤ i → i < c → op' i = op i ∧ arg' i = arg i) : WfCode op' arg' a c := by
  obtain ⟨h1, h2, h3, H, H0, hH, hs⟩ := h
  refine ⟨h1, h2, h3, H, H0, hH, fun i i0 i1 => ?_⟩
  have := hs i i0 i1
  rw [(he i i0 i1).1, (he i i0 i1).2]
  exact this
theorem WfCode.nil {a : Int} (h0 : 0 ≤ a) (h1 : a ≤ 400) : WfCode op arg a a := ⟨h0, Int.le_refl a, h1, fun _ => 0, rfl, fun i i0 i1 => ⟨Int.le_refl 0, by show (0 : Int) ≤ i - a; omega⟩, fun i i0 i1 => by omega⟩
end PARS
def PG (g : List en_E) (b e : Int) (o0 a0 : Int → Int) : Prop := PS (pE g 238) (pE g 239) (pE g 240) (pE g 241) b (pI g 17) (pI g 23) e o0 a0
theorem pE_c {g g' : List en_E} {p : Nat} (h : gA g' p = gA g p) : pE g' p = pE g p := by
  funext i
  show (eA g' p i).toInt = (eA g p i).toInt
  rw [eA_c h]
section PARG
variable {g g' : List en_E} {b e e' : Int} {o0 a0 : Int → Int}
theorem PG.cong (h : PG g b e o0 a0) (_hI : HI g') (h1 : gA g' 238 = gA g 238) (h2 : gA g' 239 = gA g 239) (h3 : gA g' 240 = gA g 240) (h4 : gA g' 241 = gA g 241) (h5 : gI g' 231 17 = gI g 231 17) (h6 : gI g' 231 23 = gI g 231 23) : PG g' b e o0 a0 := by
  unfold PG pI at *
  rw [pE_c h1, pE_c h2, pE_c h3, pE_c h4, h5, h6]
  exact h
/-- one more instruction -/
def EMIT (g g' : List en_E) (o : Int) : Prop := pI g' 17 = pI g 17 + 1 ∧ (∀ i, 0 ≤ i → i ≠ pI g 17 → eA g' 238 i = eA g 238 i) ∧ (∀ i, 0 ≤ i → i ≠ pI g 17 → eA g' 239 i = eA g 239 i) ∧ pE g' 238 (pI g 17) = o
def PUSH (g g' : List en_E) (o a : Int) : Prop := pI g' 23 = pI g 23 + 1 ∧ (∀ i, 0 ≤ i → i ≠ pI g 23 → eA g' 240 i = eA g 240 i) ∧ (∀ i, 0 ≤ i → i ≠ pI g 23 → eA g' 241 i = eA g 241 i) ∧ pE g' 240 (pI g 23) = o ∧ pE g' 241 (pI g 23) = a
theorem PG.emit {o : Int} (h : PG g b e o0 a0) (hE : EMIT g g' o) (h3 : gA g' 240 = gA g 240) (h4 : gA g' 241 = gA g 241) (h6 : gI g' 231 23 = gI g 231 23) (hs : (0 ≤ o ∧ o ≤ 9 ∧ e' = e + 1 ∧ 0 ≤ e) ∨ (20 ≤ o ∧ o ≤ 26 ∧ e' = e - 1 ∧ 2 ≤ e) ∨ (o = 27 ∧ e' = e ∧ 1 ≤ e) ∨ (28 ≤ o ∧ o ≤ 29 ∧ e' = e - 1 ∧ 1 ≤ e ∧ ∃ j, 0 ≤ j ∧ j < pI g 23 ∧ 28 ≤ pE g 240 j ∧ pE g 240 j ≤ 29 ∧ pE g 241 j = pI g 17)) : PG g' b e' o0 a0 := by
  obtain ⟨e1, e2, e3, e4⟩ := hE
  unfold PG at *
  rw [pE_c h3, pE_c h4, e1, show pI g' 23 = pI g 23 from congrArg Int32.toInt h6]
  refine h.emit (fun i i0 i1 => congrArg Int32.toInt (e2 i i0 i1)) (fun i i0 i1 => congrArg Int32.toInt (e3 i i0 i1)) ?_
  rw [e4]
  exact hs
theorem PG.push {o a : Int} (h : PG g b e o0 a0) (hE : PUSH g g' o a) (h1 : gA g' 238 = gA g 238) (h2 : gA g' 239 = gA g 239) (h5 : gI g' 231 17 = gI g 231 17) (ho : 20 ≤ o ∧ o ≤ 31) (hs : (o ≤ 23 ∨ o = 31) ∨ ∀ j, 0 ≤ j → j < pI g 23 → pE g 240 j ≠ 31) (he : (o ≤ 26 ∧ e' = e - 1) ∨ (26 < o ∧ e' = e)) (hj : 28 ≤ o → o ≤ 29 → a = pI g 17 ∧ e = 1) : PG g' b e' o0 a0 := by
  obtain ⟨e1, e2, e3, e4, e5⟩ := hE
  unfold PG at *
  rw [pE_c h1, pE_c h2, e1, show pI g' 17 = pI g 17 from congrArg Int32.toInt h5]
  refine h.push (fun i i0 i1 => congrArg Int32.toInt (e2 i i0 i1)) (fun i i0 i1 => congrArg Int32.toInt (e3 i i0 i1)) ?_ ?_ ?_ ?_
  · rw [e4]; exact ho
  · rw [e4]; exact hs
  · rw [e4]; exact he
  · rw [e4, e5]; exact hj
/-- a bracket on top goes -/
theorem PG.popB (h : PG g b e o0 a0) (_hI : HI g') (h1 : gA g' 238 = gA g 238) (h2 : gA g' 239 = gA g 239) (h3 : gA g' 240 = gA g 240) (h4 : gA g' 241 = gA g 241) (h5 : gI g' 231 17 = gI g 231 17) (h6 : pI g' 23 = pI g 23 - 1) (h0 : 1 ≤ pI g 23) (ht : 30 ≤ pE g 240 (pI g 23 - 1)) : PG g' b e o0 a0 := by
  unfold PG at *
  rw [pE_c h1, pE_c h2, pE_c h3, pE_c h4, show pI g' 17 = pI g 17 from congrArg Int32.toInt h5, h6]
  rw [show pI g 23 = pI g 23 - 1 + 1 by omega] at h
  exact h.pop (by omega) (Or.inr ⟨by omega, rfl, by omega⟩)
/-- settle: an operator or NOT goes from the pile into the code -/
theorem PG.settleE {g1 : List en_E} {o : Int} (h : PG g b 1 o0 a0) (h1 : gA g1 238 = gA g 238) (h2 : gA g1 239 = gA g 239) (h3 : gA g1 240 = gA g 240) (h4 : gA g1 241 = gA g 241) (h5 : gI g1 231 17 = gI g 231 17) (h6 : pI g1 23 = pI g 23 - 1) (h0 : 1 ≤ pI g 23) (hE : EMIT g1 g' o) (k3 : gA g' 240 = gA g1 240) (k4 : gA g' 241 = gA g1 241) (k6 : gI g' 231 23 = gI g1 231 23) (ho : pE g 240 (pI g 23 - 1) = o) (hr : 20 ≤ o ∧ o ≤ 27) : PG g' b 1 o0 a0 := by
  have hp : ∀ e', ((o ≤ 26 ∧ e' = 1 + 1) ∨ (26 < o ∧ e' = 1)) → PG g1 b e' o0 a0 := by
    intro e' he
    unfold PG at *
    rw [pE_c h1, pE_c h2, pE_c h3, pE_c h4, show pI g1 17 = pI g 17 from congrArg Int32.toInt h5, h6]
    rw [show pI g 23 = pI g 23 - 1 + 1 by omega] at h
    refine h.pop (by omega) ?_
    rw [ho]
    rcases he with he | he
    · exact Or.inl he
    · exact Or.inr ⟨he.1, he.2, by omega⟩
  by_cases c : o ≤ 26
  · exact (hp 2 (Or.inl ⟨c, rfl⟩)).emit hE k3 k4 k6 (Or.inr (Or.inl ⟨hr.1, c, rfl, by decide⟩))
  · exact (hp 1 (Or.inr ⟨by omega, rfl⟩)).emit hE k3 k4 k6 (Or.inr (Or.inr (Or.inl ⟨by omega, rfl, by decide⟩)))
theorem PG.settleJ (h : PG g b 1 o0 a0) (h1 : gA g' 238 = gA g 238) (h3 : gA g' 240 = gA g 240) (h4 : gA g' 241 = gA g 241) (h5 : gI g' 231 17 = gI g 231 17) (h6 : pI g' 23 = pI g 23 - 1) (h0 : 1 ≤ pI g 23) (hk : 28 ≤ pE g 240 (pI g 23 - 1) ∧ pE g 240 (pI g 23 - 1) ≤ 29) (hn : pE g' 239 (pE g 241 (pI g 23 - 1)) = pI g 17) (har : ∀ i, 0 ≤ i → i ≠ pE g 241 (pI g 23 - 1) → eA g' 239 i = eA g 239 i) : PG g' b 1 o0 a0 := by
  unfold PG at *
  rw [pE_c h1, pE_c h3, pE_c h4, show pI g' 17 = pI g 17 from congrArg Int32.toInt h5, h6]
  rw [show pI g 23 = pI g 23 - 1 + 1 by omega] at h
  exact h.popJ (by omega) hk hn (fun i i0 i1 => congrArg Int32.toInt (har i i0 i1))
end PARG
/-- no bracket of the square kind, none at all -/
def NSQ (g : List en_E) : Prop := ∀ j, 0 ≤ j → j < pI g 23 → pE g 240 j ≠ 31
def NBR (g : List en_E) : Prop := ∀ j, 0 ≤ j → j < pI g 23 → pE g 240 j < 30
/-- the innermost bracket among the first k -/
def INN (g : List en_E) (k r : Int) : Prop := (r = -1 ∧ ∀ j, 0 ≤ j → j < k → pE g 240 j < 30) ∨ (30 ≤ r ∧ ∃ j, 0 ≤ j ∧ j < k ∧ pE g 240 j = r ∧ ∀ i, j < i → i < k → pE g 240 i < 30)
theorem INN.zero {g : List en_E} : INN g 0 (-1) := Or.inl ⟨rfl, fun j j0 j1 => by omega⟩
theorem INN.step {g : List en_E} {k k' r r' : Int} (h : INN g k r) (hk : 0 ≤ k) (hk' : k' = k + 1) (hr : (30 ≤ pE g 240 k ∧ r' = pE g 240 k) ∨ (pE g 240 k < 30 ∧ r' = r)) : INN g k' r' := by
  subst hk'
  rcases hr with ⟨h1, h2⟩ | ⟨h1, h2⟩
  · exact Or.inr ⟨by omega, k, hk, by omega, h2.symm, fun i i0 i1 => by omega⟩
  · rw [h2]
    rcases h with ⟨h3, h4⟩ | ⟨h3, j, j0, j1, j2, j3⟩
    · exact Or.inl ⟨h3, fun j j0 j1 => (Decidable.em (j = k)).elim (fun e => by rw [e]; exact h1) (fun e => h4 j j0 (by omega))⟩
    · exact Or.inr ⟨h3, j, j0, by omega, j2, fun i i0 i1 => (Decidable.em (i = k)).elim (fun e => by rw [e]; exact h1) (fun e => j3 i i0 (by omega))⟩
theorem INN.nsq {g : List en_E} {b e r : Int} {o0 a0 : Int → Int} (h : INN g (pI g 23) r) (hP : PG g b e o0 a0) (hr : r ≠ 31) : NSQ g := by
  intro j j0 j1 hj
  rcases h with ⟨h1, h2⟩ | ⟨h1, k, k0, k1, k2, k3⟩
  · have := h2 j j0 j1
    omega
  · have hjk : j ≤ k := by
      by_cases c : k < j
      · have := k3 j c j1
        omega
      · omega
    by_cases e1 : j = k
    · rw [e1] at hj
      omega
    · have := hP.2.2.2.2.1 j k j0 (by omega) k1 hj
      omega
theorem INN.nbr {g : List en_E} (h : INN g (pI g 23) (-1)) : NBR g := by
  rcases h with ⟨h1, h2⟩ | ⟨h1, -⟩
  · exact h2
  · omega
/-- behind settle: the innermost bracket is on top -/
theorem INN.top {g g' : List en_E} {r : Int} (h : INN g (pI g 23) r) (hr : r ≠ -1) (h3 : gA g' 240 = gA g 240) (hp : pI g' 23 ≤ pI g 23) (hb : ∀ j, pI g' 23 ≤ j → j < pI g 23 → pE g 240 j < 30) : 1 ≤ pI g' 23 := by
  rcases h with ⟨h1, h2⟩ | ⟨h1, k, k0, k1, k2, k3⟩
  · exact absurd h1 hr
  · by_cases c : k < pI g' 23
    · omega
    · have := hb k (by omega) k1
      omega
theorem INN.topS {g : List en_E} {b e p' : Int} {o0 a0 : Int → Int} (h : INN g (pI g 23) 31) (hP : PG g b e o0 a0) (hp : p' ≤ pI g 23) (hb : ∀ j, p' ≤ j → j < pI g 23 → pE g 240 j < 30) (ht : 24 ≤ pE g 240 (p' - 1)) : 30 ≤ pE g 240 (p' - 1) := by
  rcases h with ⟨h1, -⟩ | ⟨h1, k, k0, k1, k2, k3⟩
  · omega
  · have hk : k < p' := by
      by_cases c : k < p'
      · exact c
      · have := hb k (by omega) k1
        omega
    by_cases e1 : k = p' - 1
    · rw [← e1]
      omega
    · have := hP.2.2.2.2.1 k (p' - 1) k0 (by omega) (by omega) k2
      omega
theorem INN.cong {g g' : List en_E} {r : Int} (h : INN g (pI g 23) r) (_hI : HI g') (h3 : gA g' 240 = gA g 240) (h6 : gI g' 231 23 = gI g 231 23) : INN g' (pI g' 23) r := by
  unfold INN pI at *
  rw [pE_c h3, h6]
  exact h
theorem NSQ.cong {g g' : List en_E} (h : NSQ g) (_hI : HI g') (h3 : gA g' 240 = gA g 240) (h6 : gI g' 231 23 = gI g 231 23) : NSQ g' := by
  unfold NSQ pI at *
  rw [pE_c h3, h6]
  exact h
theorem NSQ.le {g g' : List en_E} (h : NSQ g) (_hI : HI g') (h3 : gA g' 240 = gA g 240) (h6 : pI g' 23 ≤ pI g 23) : NSQ g' := by
  unfold NSQ at *
  rw [pE_c h3]
  exact fun j j0 j1 => h j j0 (by omega)
theorem NBR.cong {g g' : List en_E} (h : NBR g) (_hI : HI g') (h3 : gA g' 240 = gA g 240) (h6 : gI g' 231 23 = gI g 231 23) : NBR g' := by
  unfold NBR pI at *
  rw [pE_c h3, h6]
  exact h
theorem NBR.nsq {g : List en_E} (h : NBR g) : NSQ g := fun j j0 j1 e => by
  have := h j j0 j1
  omega
theorem NSQ.push {g g' : List en_E} {o a : Int} (h : NSQ g) (hE : PUSH g g' o a) (ho : o ≠ 31) : NSQ g' := by
  obtain ⟨e1, e2, e3, e4, e5⟩ := hE
  intro j j0 j1
  by_cases e : j = pI g 23
  · rw [e, e4]; exact ho
  · have := h j j0 (by omega)
    show (eA g' 240 j).toInt ≠ 31
    rw [e2 j j0 e]
    exact this
theorem PG.andor {g g1 g' : List en_E} {b o a : Int} {o0 a0 : Int → Int} (h : PG g b 1 o0 a0) (hP : PUSH g g1 o a) (h1 : gA g1 238 = gA g 238) (h2 : gA g1 239 = gA g 239) (h5 : gI g1 231 17 = gI g 231 17) (hE : EMIT g1 g' o) (k3 : gA g' 240 = gA g1 240) (k4 : gA g' 241 = gA g1 241) (k6 : gI g' 231 23 = gI g1 231 23) (ho : 28 ≤ o ∧ o ≤ 29) (ha : a = pI g 17) (hq : NSQ g) (hp0 : 0 ≤ pI g 23) : PG g' b 0 o0 a0 := by
  have hP' := hP
  obtain ⟨e1, e2, e3, e4, e5⟩ := hP'
  have h7 : PG g1 b 1 o0 a0 := h.push hP h1 h2 h5 (by omega) (Or.inr hq) (Or.inr ⟨by omega, rfl⟩) (fun _ _ => ⟨ha, rfl⟩)
  exact h7.emit hE k3 k4 k6 (Or.inr (Or.inr (Or.inr ⟨ho.1, ho.2, rfl, by decide, pI g 23, hp0, by omega, by rw [e4]; exact ho.1, by rw [e4]; exact ho.2, by rw [e5, ha]; exact (congrArg Int32.toInt h5).symm⟩)))
def PT (g : List en_E) (b t : Int) (o0 a0 : Int → Int) : Prop := (t ≤ 1 → PG g b 0 o0 a0) ∧ (2 ≤ t → PG g b 1 o0 a0) ∧ (t ≠ 1 → t ≠ 3 → NSQ g) ∧ (t = 4 → NBR g)
theorem PT.cong {g g' : List en_E} {b t : Int} {o0 a0 : Int → Int} (h : PT g b t o0 a0) (hI : HI g') (h1 : gA g' 238 = gA g 238) (h2 : gA g' 239 = gA g 239) (h3 : gA g' 240 = gA g 240) (h4 : gA g' 241 = gA g 241) (h5 : gI g' 231 17 = gI g 231 17) (h6 : gI g' 231 23 = gI g 231 23) : PT g' b t o0 a0 :=
  ⟨fun a => (h.1 a).cong hI h1 h2 h3 h4 h5 h6, fun a => (h.2.1 a).cong hI h1 h2 h3 h4 h5 h6, fun a c => (h.2.2.1 a c).cong hI h3 h6, fun a => (h.2.2.2 a).cong hI h3 h6⟩
theorem HI.i0 {g : List en_E} (h : HI g) (b : Nat) (hr : rgF 231 b = some (0, 400)) : 0 ≤ pI g b := (h.2.1.at hr).1
/-- the clauses that were read, their code below n -/
def CLS (g : List en_E) (K n : Int) : Prop := ∀ k, 0 ≤ k → k < K → (WfCode (pE g 238) (pE g 239) (pE g 237 (8 * k + 3)) (pE g 237 (8 * k + 4)) ∧ pE g 237 (8 * k + 4) ≤ n) ∧ WfCode (pE g 238) (pE g 239) (pE g 237 (8 * k + 5)) (pE g 237 (8 * k + 6)) ∧ pE g 237 (8 * k + 6) ≤ n
