/-- the numbers of a kept image -/
def IM0 (g : List en_E) : Prop := (eA g 173 0).toInt ≠ 0 → (gI g 59 0).toInt = (eA g 234 0).toInt ∧ (gI g 59 12).toInt = (eA g 234 4).toInt ∧ (gI g 59 10).toInt = (eA g 234 5).toInt ∧ (gI g 59 11).toInt = (eA g 234 6).toInt
theorem IM0.cong {g g' : List en_E} (h : IM0 g) (h0 : (eA g' 173 0).toInt = (eA g 173 0).toInt) (e0 : (gI g' 59 0).toInt = (gI g 59 0).toInt) (e1 : (eA g' 234 0).toInt = (eA g 234 0).toInt) (e2 : (gI g' 59 12).toInt = (gI g 59 12).toInt) (e3 : (eA g' 234 4).toInt = (eA g 234 4).toInt) (e4 : (gI g' 59 10).toInt = (gI g 59 10).toInt) (e5 : (eA g' 234 5).toInt = (eA g 234 5).toInt) (e6 : (gI g' 59 11).toInt = (gI g 59 11).toInt) (e7 : (eA g' 234 6).toInt = (eA g 234 6).toInt) : IM0 g' := fun k => by
  have z := h (by rw [← h0]; exact k)
  rw [e0, e1, e2, e3, e4, e5, e6, e7]
  exact z
/-- the numbers of a kept image -/
def IM1 (g : List en_E) : Prop := (eA g 173 1).toInt ≠ 0 → (gI g 116 0).toInt = (eA g 234 5510).toInt ∧ (gI g 116 12).toInt = (eA g 234 5514).toInt ∧ (gI g 116 10).toInt = (eA g 234 5515).toInt ∧ (gI g 116 11).toInt = (eA g 234 5516).toInt
theorem IM1.cong {g g' : List en_E} (h : IM1 g) (h0 : (eA g' 173 1).toInt = (eA g 173 1).toInt) (e0 : (gI g' 116 0).toInt = (gI g 116 0).toInt) (e1 : (eA g' 234 5510).toInt = (eA g 234 5510).toInt) (e2 : (gI g' 116 12).toInt = (gI g 116 12).toInt) (e3 : (eA g' 234 5514).toInt = (eA g 234 5514).toInt) (e4 : (gI g' 116 10).toInt = (gI g 116 10).toInt) (e5 : (eA g' 234 5515).toInt = (eA g 234 5515).toInt) (e6 : (gI g' 116 11).toInt = (gI g 116 11).toInt) (e7 : (eA g' 234 5516).toInt = (eA g 234 5516).toInt) : IM1 g' := fun k => by
  have z := h (by rw [← h0]; exact k)
  rw [e0, e1, e2, e3, e4, e5, e6, e7]
  exact z
