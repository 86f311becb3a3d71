/-- the numbers of a kept image -/
def IM0 (g : List en_E) : Prop := (eA g 173 0).toInt ≠ 0 → (gI g 59 0).toInt = (eA g 234 0).toInt ∧ (gI g 59 12).toInt = (eA g 234 4).toInt ∧ (gI g 59 10).toInt = (eA g 234 5).toInt ∧ (gI g 59 11).toInt = (eA g 234 6).toInt ∧ (gI g 59 6).toInt = (eA g 234 2).toInt ∧ (gI g 59 9).toInt = (eA g 234 3).toInt
theorem IM0.cong {g g' : List en_E} (h : IM0 g) (h0 : (eA g' 173 0).toInt = (eA g 173 0).toInt) (e0 : (gI g' 59 0).toInt = (gI g 59 0).toInt) (e1 : (eA g' 234 0).toInt = (eA g 234 0).toInt) (e2 : (gI g' 59 12).toInt = (gI g 59 12).toInt) (e3 : (eA g' 234 4).toInt = (eA g 234 4).toInt) (e4 : (gI g' 59 10).toInt = (gI g 59 10).toInt) (e5 : (eA g' 234 5).toInt = (eA g 234 5).toInt) (e6 : (gI g' 59 11).toInt = (gI g 59 11).toInt) (e7 : (eA g' 234 6).toInt = (eA g 234 6).toInt) (e8 : (gI g' 59 6).toInt = (gI g 59 6).toInt) (e9 : (eA g' 234 2).toInt = (eA g 234 2).toInt) (e10 : (gI g' 59 9).toInt = (gI g 59 9).toInt) (e11 : (eA g' 234 3).toInt = (eA g 234 3).toInt) : IM0 g' := fun k => by
  have z := h (by rw [← h0]; exact k)
  rw [e0, e1, e2, e3, e4, e5, e6, e7, e8, e9, e10, e11]
  exact z
/-- the numbers of a kept image -/
def IM1 (g : List en_E) : Prop := (eA g 173 1).toInt ≠ 0 → (gI g 116 0).toInt = (eA g 234 5510).toInt ∧ (gI g 116 12).toInt = (eA g 234 5514).toInt ∧ (gI g 116 10).toInt = (eA g 234 5515).toInt ∧ (gI g 116 11).toInt = (eA g 234 5516).toInt ∧ (gI g 116 6).toInt = (eA g 234 5512).toInt ∧ (gI g 116 9).toInt = (eA g 234 5513).toInt
theorem IM1.cong {g g' : List en_E} (h : IM1 g) (h0 : (eA g' 173 1).toInt = (eA g 173 1).toInt) (e0 : (gI g' 116 0).toInt = (gI g 116 0).toInt) (e1 : (eA g' 234 5510).toInt = (eA g 234 5510).toInt) (e2 : (gI g' 116 12).toInt = (gI g 116 12).toInt) (e3 : (eA g' 234 5514).toInt = (eA g 234 5514).toInt) (e4 : (gI g' 116 10).toInt = (gI g 116 10).toInt) (e5 : (eA g' 234 5515).toInt = (eA g 234 5515).toInt) (e6 : (gI g' 116 11).toInt = (gI g 116 11).toInt) (e7 : (eA g' 234 5516).toInt = (eA g 234 5516).toInt) (e8 : (gI g' 116 6).toInt = (gI g 116 6).toInt) (e9 : (eA g' 234 5512).toInt = (eA g 234 5512).toInt) (e10 : (gI g' 116 9).toInt = (gI g 116 9).toInt) (e11 : (eA g' 234 5513).toInt = (eA g 234 5513).toInt) : IM1 g' := fun k => by
  have z := h (by rw [← h0]; exact k)
  rw [e0, e1, e2, e3, e4, e5, e6, e7, e8, e9, e10, e11]
  exact z
def RT (g : List en_E) : Prop := ∀ i : Int, 0 ≤ i → i < (gI g 174 1).toInt → (eA g 175 i).toInt = (eA g 236 i).toInt
theorem RT.start : RT w_0 := fun i i0 i1 => (z_rep hx_175 i).trans (z_rep hx_236 i).symm
theorem BYX.start : BYX w_0 := fun i i0 i1 => by show 0 ≤ (eA w_0 175 i).toInt; rw [z_rep hx_175 i]; decide
def PH (p : Prop) : Prop := p
theorem cs4 (A B C : Prop) : PH (¬ A) ∨ PH (A ∧ ¬ B) ∨ PH (A ∧ B ∧ C) ∨ PH (A ∧ B ∧ ¬ C) := (Classical.em A).elim (fun a => (Classical.em B).elim (fun b => (Classical.em C).elim (fun c => Or.inr (Or.inr (Or.inl ⟨a, b, c⟩))) (fun c => Or.inr (Or.inr (Or.inr ⟨a, b, c⟩)))) (fun b => Or.inr (Or.inl ⟨a, b⟩))) Or.inl
theorem BYX.feed {g0 g' : List en_E} {a1 a2 a3 a4 a5 : Int32} (h : BYX g0) (q : (∀ i : Int, 0 ≤ i → i < 400 → (eA g' 175 (i)).toInt = if (gI g0 174 1).toInt ≤ 380 ∧ (gI g0 174 1).toInt + 0 ≤ i ∧ i < (gI g0 174 1).toInt + 4 then BYT a1 (i - (gI g0 174 1).toInt - 0) else if (gI g0 174 1).toInt ≤ 380 ∧ (gI g0 174 1).toInt + 4 ≤ i ∧ i < (gI g0 174 1).toInt + 8 then BYT a2 (i - (gI g0 174 1).toInt - 4) else if (gI g0 174 1).toInt ≤ 380 ∧ (gI g0 174 1).toInt + 8 ≤ i ∧ i < (gI g0 174 1).toInt + 12 then BYT a3 (i - (gI g0 174 1).toInt - 8) else if (gI g0 174 1).toInt ≤ 380 ∧ (gI g0 174 1).toInt + 12 ≤ i ∧ i < (gI g0 174 1).toInt + 16 then BYT a4 (i - (gI g0 174 1).toInt - 12) else if (gI g0 174 1).toInt ≤ 380 ∧ (gI g0 174 1).toInt + 16 ≤ i ∧ i < (gI g0 174 1).toInt + 20 then BYT a5 (i - (gI g0 174 1).toInt - 16) else (eA g0 175 (i)).toInt)) (hn : (380 < (gI g0 174 1).toInt ∧ (gI g' 174 1).toInt = (gI g0 174 1).toInt) ∨ ((gI g0 174 1).toInt ≤ 380 ∧ (gI g' 174 1).toInt = (gI g0 174 1).toInt + 20)) (h4 : (gI g' 174 1).toInt ≤ 400) : BYX g' := fun i i0 i1 => by
  have i2 : i < (gI g' 174 1).toInt := i1
  have x := q i i0 (by omega)
  show 0 ≤ (eA g' 175 i).toInt
  rw [x]
  by_cases c : i < (gI g0 174 1).toInt
  · rw [if_neg (by omega), if_neg (by omega), if_neg (by omega), if_neg (by omega), if_neg (by omega)]
    exact h i i0 c
  · rcases (show ((gI g0 174 1).toInt + 0 ≤ i ∧ i < (gI g0 174 1).toInt + 4) ∨ ((gI g0 174 1).toInt + 4 ≤ i ∧ i < (gI g0 174 1).toInt + 8) ∨ ((gI g0 174 1).toInt + 8 ≤ i ∧ i < (gI g0 174 1).toInt + 12) ∨ ((gI g0 174 1).toInt + 12 ≤ i ∧ i < (gI g0 174 1).toInt + 16) ∨ ((gI g0 174 1).toInt + 16 ≤ i ∧ i < (gI g0 174 1).toInt + 20) by omega) with k | k | k | k | k
    · rw [if_pos (by omega)]
      exact BYT.ge _ _
    · rw [if_neg (by omega), if_pos (by omega)]
      exact BYT.ge _ _
    · rw [if_neg (by omega), if_neg (by omega), if_pos (by omega)]
      exact BYT.ge _ _
    · rw [if_neg (by omega), if_neg (by omega), if_neg (by omega), if_pos (by omega)]
      exact BYT.ge _ _
    · rw [if_neg (by omega), if_neg (by omega), if_neg (by omega), if_neg (by omega), if_pos (by omega)]
      exact BYT.ge _ _
