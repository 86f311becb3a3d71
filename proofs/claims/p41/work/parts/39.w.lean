/-- what status shows of an answer that is below 0 only where the call was refused -/
def SU (r s : Int) : Prop := (r < 0 ∧ s = r) ∨ (0 ≤ r ∧ s = 0)
theorem SU.mk {r s : Int} (h : (r < 0 ∧ s = r) ∨ (0 ≤ r ∧ s = 0)) : SU r s := h
theorem SU.eq {r s r' s' : Int} (a : SU r s) (b : SU r' s') (e : r = r') : s = s' := by
  rcases a with a | a <;> rcases b with b | b <;> omega
/-- and of put and force, whose answers can be -1 -/
def SU3 (P Q : Prop) (s : Int) : Prop := (¬ P ∧ s = -1) ∨ (P ∧ ¬ Q ∧ s = -2) ∨ (P ∧ Q ∧ s = 0)
theorem SU3.mk {P Q : Prop} {s : Int} (h : (¬ P ∧ s = -1) ∨ (P ∧ ¬ Q ∧ s = -2) ∨ (P ∧ Q ∧ s = 0)) : SU3 P Q s := h
theorem SU3.eq {P Q P' Q' : Prop} {s s' : Int} (a : SU3 P Q s) (b : SU3 P' Q' s') (hP : P ↔ P') (hQ : Q ↔ Q') : s = s' := by
  rcases a with ⟨a1, a2⟩ | ⟨a1, a2, a3⟩ | ⟨a1, a2, a3⟩ <;> rcases b with ⟨b1, b2⟩ | ⟨b1, b2, b3⟩ | ⟨b1, b2, b3⟩
  · exact a2.trans b2.symm
  · exact absurd (hP.mpr b1) a1
  · exact absurd (hP.mpr b1) a1
  · exact absurd (hP.mp a1) b1
  · exact a3.trans b3.symm
  · exact absurd (hQ.mpr b2) a2
  · exact absurd (hP.mp a1) b1
  · exact absurd (hQ.mp a2) b2
  · exact a3.trans b3.symm
