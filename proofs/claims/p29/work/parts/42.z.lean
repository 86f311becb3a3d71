/-- the numbers of a kept image -/
def IM0 (g : List en_E) : Prop := (eA g 173 0).toInt ≠ 0 → (gI g 59 0).toInt = (eA g 234 0).toInt ∧ (gI g 59 12).toInt = (eA g 234 4).toInt ∧ (gI g 59 10).toInt = (eA g 234 5).toInt ∧ (gI g 59 11).toInt = (eA g 234 6).toInt ∧ (gI g 59 4).toInt = (eA g 234 1).toInt ∧ (gI g 59 6).toInt = (eA g 234 2).toInt ∧ (gI g 59 9).toInt = (eA g 234 3).toInt
theorem IM0.cong {g g' : List en_E} (h : IM0 g) (h0 : (eA g' 173 0).toInt = (eA g 173 0).toInt) (e0 : (gI g' 59 0).toInt = (gI g 59 0).toInt) (e1 : (eA g' 234 0).toInt = (eA g 234 0).toInt) (e2 : (gI g' 59 12).toInt = (gI g 59 12).toInt) (e3 : (eA g' 234 4).toInt = (eA g 234 4).toInt) (e4 : (gI g' 59 10).toInt = (gI g 59 10).toInt) (e5 : (eA g' 234 5).toInt = (eA g 234 5).toInt) (e6 : (gI g' 59 11).toInt = (gI g 59 11).toInt) (e7 : (eA g' 234 6).toInt = (eA g 234 6).toInt) (e8 : (gI g' 59 4).toInt = (gI g 59 4).toInt) (e9 : (eA g' 234 1).toInt = (eA g 234 1).toInt) (e10 : (gI g' 59 6).toInt = (gI g 59 6).toInt) (e11 : (eA g' 234 2).toInt = (eA g 234 2).toInt) (e12 : (gI g' 59 9).toInt = (gI g 59 9).toInt) (e13 : (eA g' 234 3).toInt = (eA g 234 3).toInt) : IM0 g' := fun k => by
  have z := h (by rw [← h0]; exact k)
  rw [e0, e1, e2, e3, e4, e5, e6, e7, e8, e9, e10, e11, e12, e13]
  exact z
/-- the numbers of a kept image -/
def IM1 (g : List en_E) : Prop := (eA g 173 1).toInt ≠ 0 → (gI g 116 0).toInt = (eA g 234 5510).toInt ∧ (gI g 116 12).toInt = (eA g 234 5514).toInt ∧ (gI g 116 10).toInt = (eA g 234 5515).toInt ∧ (gI g 116 11).toInt = (eA g 234 5516).toInt ∧ (gI g 116 4).toInt = (eA g 234 5511).toInt ∧ (gI g 116 6).toInt = (eA g 234 5512).toInt ∧ (gI g 116 9).toInt = (eA g 234 5513).toInt
theorem IM1.cong {g g' : List en_E} (h : IM1 g) (h0 : (eA g' 173 1).toInt = (eA g 173 1).toInt) (e0 : (gI g' 116 0).toInt = (gI g 116 0).toInt) (e1 : (eA g' 234 5510).toInt = (eA g 234 5510).toInt) (e2 : (gI g' 116 12).toInt = (gI g 116 12).toInt) (e3 : (eA g' 234 5514).toInt = (eA g 234 5514).toInt) (e4 : (gI g' 116 10).toInt = (gI g 116 10).toInt) (e5 : (eA g' 234 5515).toInt = (eA g 234 5515).toInt) (e6 : (gI g' 116 11).toInt = (gI g 116 11).toInt) (e7 : (eA g' 234 5516).toInt = (eA g 234 5516).toInt) (e8 : (gI g' 116 4).toInt = (gI g 116 4).toInt) (e9 : (eA g' 234 5511).toInt = (eA g 234 5511).toInt) (e10 : (gI g' 116 6).toInt = (gI g 116 6).toInt) (e11 : (eA g' 234 5512).toInt = (eA g 234 5512).toInt) (e12 : (gI g' 116 9).toInt = (gI g 116 9).toInt) (e13 : (eA g' 234 5513).toInt = (eA g 234 5513).toInt) : IM1 g' := fun k => by
  have z := h (by rw [← h0]; exact k)
  rw [e0, e1, e2, e3, e4, e5, e6, e7, e8, e9, e10, e11, e12, e13]
  exact z
def PH (p : Prop) : Prop := p
theorem if4n {c1 c2 c3 c4 : Prop} [Decidable c1] [Decidable c2] [Decidable c3] [Decidable c4] {p q r s d : Int} (h1 : ¬ c1) (h2 : ¬ c2) (h3 : ¬ c3) (h4 : ¬ c4) : (if c1 then p else if c2 then q else if c3 then r else if c4 then s else d) = d := by rw [if_neg h1, if_neg h2, if_neg h3, if_neg h4]
theorem swp1 {a b i : Int} {S M : Int → Int} (h : ∀ j : Int, 0 ≤ j → j < 12 → S j = M (10 + 3 * j + 1)) (ha : 0 ≤ a ∧ a < 12) (hb : 0 ≤ b ∧ b < 12) (hi : 0 ≤ i ∧ i < 12) : (if i = a then S b else if i = b then S a else S i) = (if 10 + 3 * i + 1 = 10 + 3 * a + 1 then M (10 + 3 * b + 1) else if 10 + 3 * i + 1 = 10 + 3 * a + 2 then M (10 + 3 * b + 2) else if 10 + 3 * i + 1 = 10 + 3 * b + 1 then M (10 + 3 * a + 1) else if 10 + 3 * i + 1 = 10 + 3 * b + 2 then M (10 + 3 * a + 2) else M (10 + 3 * i + 1)) := by
  by_cases c : i = a
  · rw [if_pos c, if_pos (show 10 + 3 * i + 1 = 10 + 3 * a + 1 from by omega)]; exact h b hb.1 hb.2
  · rw [if_neg c, if_neg (show ¬ (10 + 3 * i + 1 = 10 + 3 * a + 1) from by omega), if_neg (show ¬ (10 + 3 * i + 1 = 10 + 3 * a + 2) from by omega)]
    by_cases d : i = b
    · rw [if_pos d, if_pos (show 10 + 3 * i + 1 = 10 + 3 * b + 1 from by omega)]; exact h a ha.1 ha.2
    · rw [if_neg d, if_neg (show ¬ (10 + 3 * i + 1 = 10 + 3 * b + 1) from by omega), if_neg (show ¬ (10 + 3 * i + 1 = 10 + 3 * b + 2) from by omega)]; exact h i hi.1 hi.2
theorem swp2 {a b i : Int} {S M : Int → Int} (h : ∀ j : Int, 0 ≤ j → j < 12 → S j = M (10 + 3 * j + 2)) (ha : 0 ≤ a ∧ a < 12) (hb : 0 ≤ b ∧ b < 12) (hi : 0 ≤ i ∧ i < 12) : (if i = a then S b else if i = b then S a else S i) = (if 10 + 3 * i + 2 = 10 + 3 * a + 1 then M (10 + 3 * b + 1) else if 10 + 3 * i + 2 = 10 + 3 * a + 2 then M (10 + 3 * b + 2) else if 10 + 3 * i + 2 = 10 + 3 * b + 1 then M (10 + 3 * a + 1) else if 10 + 3 * i + 2 = 10 + 3 * b + 2 then M (10 + 3 * a + 2) else M (10 + 3 * i + 2)) := by
  by_cases c : i = a
  · rw [if_pos c, if_neg (show ¬ (10 + 3 * i + 2 = 10 + 3 * a + 1) from by omega), if_pos (show 10 + 3 * i + 2 = 10 + 3 * a + 2 from by omega)]; exact h b hb.1 hb.2
  · rw [if_neg c, if_neg (show ¬ (10 + 3 * i + 2 = 10 + 3 * a + 1) from by omega), if_neg (show ¬ (10 + 3 * i + 2 = 10 + 3 * a + 2) from by omega)]
    by_cases d : i = b
    · rw [if_pos d, if_neg (show ¬ (10 + 3 * i + 2 = 10 + 3 * b + 1) from by omega), if_pos (show 10 + 3 * i + 2 = 10 + 3 * b + 2 from by omega)]; exact h a ha.1 ha.2
    · rw [if_neg d, if_neg (show ¬ (10 + 3 * i + 2 = 10 + 3 * b + 1) from by omega), if_neg (show ¬ (10 + 3 * i + 2 = 10 + 3 * b + 2) from by omega)]; exact h i hi.1 hi.2
theorem ld6 {L i a b c e f q d d' : Int} (h : i < 6 * L → d = d') (hi : i < 6 * L + 6) : (if i = 6 * L + 0 then a else if i = 6 * L + 1 then b else if i = 6 * L + 2 then c else if i = 6 * L + 3 then e else if i = 6 * L + 4 then f else if i = 6 * L + 5 then q else d) = (if 46 + i = 46 + 6 * L + 0 then a else if 46 + i = 46 + 6 * L + 1 then b else if 46 + i = 46 + 6 * L + 2 then c else if 46 + i = 46 + 6 * L + 3 then e else if 46 + i = 46 + 6 * L + 4 then f else if 46 + i = 46 + 6 * L + 5 then q else d') := by
  by_cases c0 : i = 6 * L + 0
  · rw [if_pos c0, if_pos (show 46 + i = 46 + 6 * L + 0 from by omega)]
  · rw [if_neg c0, if_neg (show ¬ (46 + i = 46 + 6 * L + 0) from by omega)]
    by_cases c1 : i = 6 * L + 1
    · rw [if_pos c1, if_pos (show 46 + i = 46 + 6 * L + 1 from by omega)]
    · rw [if_neg c1, if_neg (show ¬ (46 + i = 46 + 6 * L + 1) from by omega)]
      by_cases c2 : i = 6 * L + 2
      · rw [if_pos c2, if_pos (show 46 + i = 46 + 6 * L + 2 from by omega)]
      · rw [if_neg c2, if_neg (show ¬ (46 + i = 46 + 6 * L + 2) from by omega)]
        by_cases c3 : i = 6 * L + 3
        · rw [if_pos c3, if_pos (show 46 + i = 46 + 6 * L + 3 from by omega)]
        · rw [if_neg c3, if_neg (show ¬ (46 + i = 46 + 6 * L + 3) from by omega)]
          by_cases c4 : i = 6 * L + 4
          · rw [if_pos c4, if_pos (show 46 + i = 46 + 6 * L + 4 from by omega)]
          · rw [if_neg c4, if_neg (show ¬ (46 + i = 46 + 6 * L + 4) from by omega)]
            by_cases c5 : i = 6 * L + 5
            · rw [if_pos c5, if_pos (show 46 + i = 46 + 6 * L + 5 from by omega)]
            · rw [if_neg c5, if_neg (show ¬ (46 + i = 46 + 6 * L + 5) from by omega)]
              exact h (by omega)
theorem cs2 (A : Prop) : PH (¬ A) ∨ PH A := (Classical.em A).elim Or.inr Or.inl
theorem csT (A B : Prop) : PH A ∨ PH B ∨ PH (¬ A ∧ ¬ B) := (Classical.em A).elim (fun a => Or.inl a) (fun a => (Classical.em B).elim (fun b => Or.inr (Or.inl b)) (fun b => Or.inr (Or.inr ⟨a, b⟩)))
theorem cs3 (A B : Prop) : PH (¬ A) ∨ PH (A ∧ B) ∨ PH (A ∧ ¬ B) := (Classical.em A).elim (fun a => (Classical.em B).elim (fun b => Or.inr (Or.inl ⟨a, b⟩)) (fun b => Or.inr (Or.inr ⟨a, b⟩))) Or.inl
theorem cs4 (A B C : Prop) : PH (¬ A) ∨ PH (A ∧ ¬ B) ∨ PH (A ∧ B ∧ C) ∨ PH (A ∧ B ∧ ¬ C) := (Classical.em A).elim (fun a => (Classical.em B).elim (fun b => (Classical.em C).elim (fun c => Or.inr (Or.inr (Or.inl ⟨a, b, c⟩))) (fun c => Or.inr (Or.inr (Or.inr ⟨a, b, c⟩)))) (fun b => Or.inr (Or.inl ⟨a, b⟩))) Or.inl
def CT (g : List en_E) : Prop := (∀ i : Int, 0 ≤ i → i < 12 → (eA g 2 i).toInt = (eA g 233 (10 + 3 * i)).toInt ∧ (eA g 3 i).toInt = (eA g 233 (10 + 3 * i + 1)).toInt ∧ (eA g 4 i).toInt = (eA g 233 (10 + 3 * i + 2)).toInt) ∧ (∀ i : Int, 0 ≤ i → i < 8 → (eA g 14 i).toInt = (eA g 233 (94 + 2 * i)).toInt ∧ (eA g 15 i).toInt = (eA g 233 (94 + 2 * i + 1)).toInt) ∧ (∀ i : Int, 0 ≤ i → i < 6 * (gI g 1 4).toInt → (eA g 5 i).toInt = (eA g 233 (46 + i)).toInt)
theorem CT.cong {g g' : List en_E} (h : CT g) (e2 : gA g' 2 = gA g 2) (e3 : gA g' 3 = gA g 3) (e4 : gA g' 4 = gA g 4) (e14 : gA g' 14 = gA g 14) (e15 : gA g' 15 = gA g 15) (e5 : gA g' 5 = gA g 5) (e233 : gA g' 233 = gA g 233) (eL : (gI g' 1 4).toInt = (gI g 1 4).toInt) : CT g' := ⟨fun i i0 i1 => ⟨(eA_ti e2).trans (((h.1 i i0 i1).1).trans (eA_ti e233).symm), (eA_ti e3).trans (((h.1 i i0 i1).2.1).trans (eA_ti e233).symm), (eA_ti e4).trans (((h.1 i i0 i1).2.2).trans (eA_ti e233).symm)⟩, fun i i0 i1 => ⟨(eA_ti e14).trans (((h.2.1 i i0 i1).1).trans (eA_ti e233).symm), (eA_ti e15).trans (((h.2.1 i i0 i1).2).trans (eA_ti e233).symm)⟩, fun i i0 i1 => (eA_ti e5).trans (((h.2.2 i i0 (by rw [← eL]; exact i1))).trans (eA_ti e233).symm)⟩
theorem CT.start : CT w_0 := ⟨fun i i0 i1 => ⟨(z_rep hx_2 i).trans (z_row hx_233 _ (by show 7 ≤ _; omega)).symm, (z_rep hx_3 i).trans (z_row hx_233 _ (by show 7 ≤ _; omega)).symm, (z_rep hx_4 i).trans (z_row hx_233 _ (by show 7 ≤ _; omega)).symm⟩, fun i i0 i1 => ⟨(z_rep hx_14 i).trans (z_row hx_233 _ (by show 7 ≤ _; omega)).symm, (z_rep hx_15 i).trans (z_row hx_233 _ (by show 7 ≤ _; omega)).symm⟩, fun i i0 i1 => (z_rep hx_5 i).trans (z_row hx_233 _ (by show 7 ≤ _; omega)).symm⟩
def CI0 (g : List en_E) : Prop := (∀ i : Int, 0 ≤ i → i < 12 → (eA g 60 i).toInt = (eA g 234 (10 + 3 * i)).toInt ∧ (eA g 61 i).toInt = (eA g 234 (10 + 3 * i + 1)).toInt ∧ (eA g 62 i).toInt = (eA g 234 (10 + 3 * i + 2)).toInt) ∧ (∀ i : Int, 0 ≤ i → i < 8 → (eA g 72 i).toInt = (eA g 234 (94 + 2 * i)).toInt ∧ (eA g 73 i).toInt = (eA g 234 (94 + 2 * i + 1)).toInt) ∧ (∀ i : Int, 0 ≤ i → i < 6 * (gI g 59 4).toInt → (eA g 63 i).toInt = (eA g 234 (46 + i)).toInt)
theorem CI0.cong {g g' : List en_E} (h : CI0 g) (e60 : gA g' 60 = gA g 60) (e61 : gA g' 61 = gA g 61) (e62 : gA g' 62 = gA g 62) (e72 : gA g' 72 = gA g 72) (e73 : gA g' 73 = gA g 73) (e63 : gA g' 63 = gA g 63) (e234 : gA g' 234 = gA g 234) (eL : (gI g' 59 4).toInt = (gI g 59 4).toInt) : CI0 g' := ⟨fun i i0 i1 => ⟨(eA_ti e60).trans (((h.1 i i0 i1).1).trans (eA_ti e234).symm), (eA_ti e61).trans (((h.1 i i0 i1).2.1).trans (eA_ti e234).symm), (eA_ti e62).trans (((h.1 i i0 i1).2.2).trans (eA_ti e234).symm)⟩, fun i i0 i1 => ⟨(eA_ti e72).trans (((h.2.1 i i0 i1).1).trans (eA_ti e234).symm), (eA_ti e73).trans (((h.2.1 i i0 i1).2).trans (eA_ti e234).symm)⟩, fun i i0 i1 => (eA_ti e63).trans (((h.2.2 i i0 (by rw [← eL]; exact i1))).trans (eA_ti e234).symm)⟩
theorem CI0.start : CI0 w_0 := ⟨fun i i0 i1 => ⟨(z_rep hx_60 i).trans (z_rep hx_234 _).symm, (z_rep hx_61 i).trans (z_rep hx_234 _).symm, (z_rep hx_62 i).trans (z_rep hx_234 _).symm⟩, fun i i0 i1 => ⟨(z_rep hx_72 i).trans (z_rep hx_234 _).symm, (z_rep hx_73 i).trans (z_rep hx_234 _).symm⟩, fun i i0 i1 => (z_rep hx_63 i).trans (z_rep hx_234 _).symm⟩
def CI1 (g : List en_E) : Prop := (∀ i : Int, 0 ≤ i → i < 12 → (eA g 117 i).toInt = (eA g 234 (5510 + (10 + 3 * i))).toInt ∧ (eA g 118 i).toInt = (eA g 234 (5510 + (10 + 3 * i + 1))).toInt ∧ (eA g 119 i).toInt = (eA g 234 (5510 + (10 + 3 * i + 2))).toInt) ∧ (∀ i : Int, 0 ≤ i → i < 8 → (eA g 129 i).toInt = (eA g 234 (5510 + (94 + 2 * i))).toInt ∧ (eA g 130 i).toInt = (eA g 234 (5510 + (94 + 2 * i + 1))).toInt) ∧ (∀ i : Int, 0 ≤ i → i < 6 * (gI g 116 4).toInt → (eA g 120 i).toInt = (eA g 234 (5510 + (46 + i))).toInt)
theorem CI1.cong {g g' : List en_E} (h : CI1 g) (e117 : gA g' 117 = gA g 117) (e118 : gA g' 118 = gA g 118) (e119 : gA g' 119 = gA g 119) (e129 : gA g' 129 = gA g 129) (e130 : gA g' 130 = gA g 130) (e120 : gA g' 120 = gA g 120) (e234 : gA g' 234 = gA g 234) (eL : (gI g' 116 4).toInt = (gI g 116 4).toInt) : CI1 g' := ⟨fun i i0 i1 => ⟨(eA_ti e117).trans (((h.1 i i0 i1).1).trans (eA_ti e234).symm), (eA_ti e118).trans (((h.1 i i0 i1).2.1).trans (eA_ti e234).symm), (eA_ti e119).trans (((h.1 i i0 i1).2.2).trans (eA_ti e234).symm)⟩, fun i i0 i1 => ⟨(eA_ti e129).trans (((h.2.1 i i0 i1).1).trans (eA_ti e234).symm), (eA_ti e130).trans (((h.2.1 i i0 i1).2).trans (eA_ti e234).symm)⟩, fun i i0 i1 => (eA_ti e120).trans (((h.2.2 i i0 (by rw [← eL]; exact i1))).trans (eA_ti e234).symm)⟩
theorem CI1.start : CI1 w_0 := ⟨fun i i0 i1 => ⟨(z_rep hx_117 i).trans (z_rep hx_234 _).symm, (z_rep hx_118 i).trans (z_rep hx_234 _).symm, (z_rep hx_119 i).trans (z_rep hx_234 _).symm⟩, fun i i0 i1 => ⟨(z_rep hx_129 i).trans (z_rep hx_234 _).symm, (z_rep hx_130 i).trans (z_rep hx_234 _).symm⟩, fun i i0 i1 => (z_rep hx_120 i).trans (z_rep hx_234 _).symm⟩
theorem NX.eq {g : List en_E} (h : CT g) (e : (gI g 1 0).toInt = (eA g 233 0).toInt) (hI : HI g) (s : Int) : NX g s = NM g s := by
  unfold NX NM nxv
  have t := hI.t0
  by_cases k : 0 ≤ s ∧ s < (gI g 1 0).toInt
  · have o := (h.1 s (by omega) (by omega)).1
    simp only [o, e]
  · rw [if_neg (fun c => k c.1), if_neg (fun c => k (by rw [e]; exact c.1))]
theorem MEET.law {g g1 : List en_E} (h : CT g) (e : (gI g 1 0).toInt = (eA g 233 0).toInt) (hI : HI g) (f : gA g1 233 = gA g 233) {o p w r r' : Int} (ho : 0 ≤ o ∧ o < (gI g 1 0).toInt) (hp : 0 ≤ p ∧ p < (gI g 1 0).toInt) (a : MEET (NX g) 144 o p w r) (b : MEET (NMq g1) 99 o p w r') : r = r' := by
  have t := hI.t0
  have f0 := eA_ti (j := 0) f
  have b1 := MEET.q (g := g1) (Or.inr (by omega)) (Or.inr (by omega)) b
  have a1 := MEET.c (fun s => (NX.eq h e hI s).trans (NM.c (s := s) f).symm) a
  exact MEET.same (NM.e g1) (fun s => (NM.rg g1 s).imp_right (fun z => by omega)) (by decide) (by decide) (Or.inr (by omega)) (Or.inr (by omega)) a1 b1
theorem THIEF.law {g g1 : List en_E} (h : CT g) (e : (gI g 1 0).toInt = (eA g 233 0).toInt) (e4 : (gI g 1 12).toInt = (eA g 233 4).toInt) (hI : HI g) (f : gA g1 233 = gA g 233) : (ACI (FITX g) (gI g 1 0).toInt).toInt = (ACI (FITM g1 (eA g1 233 4).toInt) (eA g1 233 0).toInt).toInt := by
  have t := hI.t0
  have t4 := hI.t4
  have f0 := eA_ti (j := 0) f
  have f4 := eA_ti (j := 4) f
  rw [f0, f4, ← e, ← e4]
  congr 1
  refine ACI.c (fun s s0 s1 => forall_congr' (fun k => forall_congr' (fun k0 => forall_congr' (fun k1 => ?_))))
  have o := (h.2.1) k k0 (by omega)
  rw [eA_ti f, eA_ti f, NMq.eqI (g := g1) (Or.inr ⟨s0, by omega⟩), ← o.1, ← o.2, itI_c (fun s => (NX.eq h e hI s).trans (NM.c (s := s) f).symm)]
def RT (g : List en_E) : Prop := ∀ i : Int, 0 ≤ i → i < (gI g 174 1).toInt → (eA g 175 i).toInt = (eA g 236 i).toInt
theorem RT.start : RT w_0 := fun i i0 i1 => (z_rep hx_175 i).trans (z_rep hx_236 i).symm
theorem ROW.law {g g1 : List en_E} (hT : RT g) (e0 : (gI g 1 0).toInt = (eA g 233 0).toInt) (e1 : (gI g 1 4).toInt = (eA g 233 1).toInt) (et : (gI g 174 1).toInt = (gI g 231 8).toInt) (f : gA g1 233 = gA g 233) (f6 : gA g1 236 = gA g 236) (ft : gI g1 231 8 = gI g 231 8) : RLI (fun i : Int => (eA g 175 i).toInt) (gI g 174 1).toInt (gI g 1 0).toInt (gI g 1 4).toInt (6 * (((gI g 174 1).toInt + 5) / 6)) = RLI (fun i : Int => (eA g1 236 i).toInt) (gI g1 231 8).toInt (eA g1 233 0).toInt (eA g1 233 1).toInt (6 * (((gI g1 231 8).toInt + 5) / 6)) := by
  rw [ft, eA_ti f, eA_ti f, ← et, ← e0, ← e1]
  exact rl_N.c (fun i i0 i1 => (hT i i0 i1).trans (eA_ti f6).symm) _
theorem WAY.law {g g1 : List en_E} (h : CT g) (e0 : (gI g 1 0).toInt = (eA g 233 0).toInt) (e1 : (gI g 1 4).toInt = (eA g 233 1).toInt) (hI : HI g) (f : gA g1 233 = gA g 233) {l i r r' : Int} (hl : 0 ≤ l ∧ l < (gI g 1 4).toInt) (a : (0 ≤ l ∧ l < (gI g 1 4).toInt) → (eA g 5 (6 * l + 2)).toInt ≠ -1 → WAYA (NX g) 11 (eA g 5 (6 * l + 1)).toInt (eA g 5 (6 * l + 2)).toInt i r) (b : (0 ≤ l ∧ l < (eA g1 233 1).toInt) → (eA g1 233 (46 + (6 * l + 2))).toInt ≠ -1 → WAYA (NMq g1) 12 (eA g1 233 (46 + (6 * l + 1))).toInt (eA g1 233 (46 + (6 * l + 2))).toInt i r') : r = r' := by
  have t0 := hI.t0
  have t1 := hI.t1
  have o1 := h.2.2 (6 * l + 1) (by omega) (by omega)
  have o2 := h.2.2 (6 * l + 2) (by omega) (by omega)
  have w1 := hI.l1 (j := 46 + (6 * l + 1)) l (by omega) (by omega)
  have w2 := hI.l2 (j := 46 + (6 * l + 2)) l (by omega) (by omega)
  have f0 := eA_ti (j := 0) f
  have a1 := a hl (by rw [o2]; omega)
  have b1 := b (by rw [eA_ti f]; omega) (by rw [eA_ti f]; omega)
  rw [o1, o2] at a1
  rw [eA_ti f, eA_ti f] at b1
  have b2 := WAYA.q (g := g1) (Or.inr (by omega)) b1
  have a2 := WAYA.c (fun s => (NX.eq h e0 hI s).trans (NM.c (s := s) f).symm) a1
  exact WAYA.same (NM.e g1) (fun s => (NM.rg g1 s).imp_right (fun z => by omega)) (by decide) (by decide) (Or.inr (by omega)) (by omega) a2 b2
theorem SM.c {g g1 : List en_E} (f : gA g1 233 = gA g 233) : SM g1 = SM g := funext (fun s => by unfold SM; exact eA_ti f)
theorem PCE.law {g g1 : List en_E} (h : CT g) (e0 : (gI g 1 0).toInt = (eA g 233 0).toInt) (e1 : (gI g 1 4).toInt = (eA g 233 1).toInt) (hI : HI g) (f : gA g1 233 = gA g 233) {l : Int} {r r' : Int32} (hl : 0 ≤ l ∧ l < (gI g 1 4).toInt) (a : (0 ≤ l ∧ l < (gI g 1 4).toInt) → (eA g 5 (6 * l + 2)).toInt ≠ -1 → PCE (NX g) (SX g) 11 (eA g 5 (6 * l + 1)).toInt (eA g 5 (6 * l + 2)).toInt (eA g 5 (6 * l + 0)).toInt r) (b : (0 ≤ l ∧ l < (eA g1 233 1).toInt) → (eA g1 233 (46 + (6 * l + 2))).toInt ≠ -1 → PCE (NMq g1) (SM g1) 12 (eA g1 233 (46 + (6 * l + 1))).toInt (eA g1 233 (46 + (6 * l + 2))).toInt (eA g1 233 (46 + (6 * l + 0))).toInt r') : r = r' := by
  have t0 := hI.t0
  have t1 := hI.t1
  have o0 := h.2.2 (6 * l + 0) (by omega) (by omega)
  have o1 := h.2.2 (6 * l + 1) (by omega) (by omega)
  have o2 := h.2.2 (6 * l + 2) (by omega) (by omega)
  have w1 := hI.l1 (j := 46 + (6 * l + 1)) l (by omega) (by omega)
  have w2 := hI.l2 (j := 46 + (6 * l + 2)) l (by omega) (by omega)
  have f0 := eA_ti (j := 0) f
  have a1 := a hl (by rw [o2]; omega)
  have b1 := b (by rw [eA_ti f]; omega) (by rw [eA_ti f]; omega)
  rw [o0, o1, o2] at a1
  rw [eA_ti f, eA_ti f, eA_ti f, SM.c f] at b1
  have b2 := PCE.q (g := g1) (Or.inr (by omega)) b1
  have a2 := PCE.c (fun s => (NX.eq h e0 hI s).trans (NM.c (s := s) f).symm) a1
  exact PCE.same (NM.e g1) (fun s => (NM.rg g1 s).imp_right (fun z => by omega)) (fun s s0 s1 => (h.1 s s0 s1).2.1) (by decide) (by decide) (Or.inr (by omega)) (by omega) a2 b2
theorem ENT.law {g g1 : List en_E} (h : CT g) (e : (gI g 1 0).toInt = (eA g 233 0).toInt) (hI : HI g) (f : gA g1 233 = gA g 233) (hb : Int → Prop) (w : Int) : (ACI (RCI (NX g) hb w 12) (gI g 1 0).toInt).toInt = (ACI (RCI (NMq g1) hb w 12) (eA g1 233 0).toInt).toInt := by
  have f0 := eA_ti (j := 0) f
  have e1 : NX g = NM g1 := funext (fun s => (NX.eq h e hI s).trans (NM.c (s := s) f).symm)
  rw [f0, ← e, e1]
  congr 1
  refine ACI.c (fun s s0 s1 => ?_)
  unfold RCI
  exact and_congr_right (fun _ => (RCH.q _ (Or.inr ⟨s0, by rw [f0, ← e]; exact s1⟩)).symm)
theorem ROWF.law {g g1 : List en_E} (hT : RT g) (e0 : (gI g 1 0).toInt = (eA g 233 0).toInt) (e1 : (gI g 1 4).toInt = (eA g 233 1).toInt) (et : (gI g 174 1).toInt = (gI g 231 8).toInt) (f : gA g1 233 = gA g 233) (f6 : gA g1 236 = gA g 236) (ft : gI g1 231 8 = gI g 231 8) (hC : ∀ i : Int, 0 ≤ i → i < 6 * (gI g 1 4).toInt → (eA g 5 i).toInt = (eA g 233 (46 + i)).toInt) {j j' : Int} (h0 : 0 ≤ j) (hj : j < 6 * RLI (fun i : Int => (eA g 175 i).toInt) (gI g 174 1).toInt (gI g 1 0).toInt (gI g 1 4).toInt (6 * (((gI g 174 1).toInt + 5) / 6))) (ej : j' = j) : RFI (fun i : Int => (eA g 175 i).toInt) (gI g 174 1).toInt (gI g 1 0).toInt (gI g 1 4).toInt (fun i : Int => (eA g 5 i).toInt) (6 * (((gI g 174 1).toInt + 5) / 6)) (j) = RFI (fun i : Int => (eA g1 236 i).toInt) (gI g1 231 8).toInt (eA g1 233 0).toInt (eA g1 233 1).toInt (fun i : Int => (eA g1 233 (46 + i)).toInt) (6 * (((gI g1 231 8).toInt + 5) / 6)) (j') := by
  subst ej
  rw [ft, eA_ti (j := 0) f, eA_ti (j := 1) f, ← et, ← e0, ← e1]
  exact rf_N.c (fun i i0 i1 => (hT i i0 i1).trans (eA_ti f6).symm) (fun j j0 j1 => (hC j j0 j1).trans (eA_ti f).symm) _ _ h0 hj
theorem BYX.start : BYX w_0 := fun i i0 i1 => by show 0 ≤ (eA w_0 175 i).toInt; rw [z_rep hx_175 i]; decide
/-! laws kept, fees answered: what the call's law needs (behind the relation's names) -/
section LAWF
variable {g g1 g' G : List en_E}
theorem i32e {a b : Int32} (h : a.toInt = b.toInt) : a = b := Int32.toInt_inj.mp h
/-- nothing of the laws changed, told by numbers and rows -/
theorem LAWR_n (h : LAWR g) (s : LSA g g') (e1 : (gI g' 1 6).toInt = (gI g 1 6).toInt) (e2 : (gI g' 59 6).toInt = (gI g 59 6).toInt) (e3 : (gI g' 116 6).toInt = (gI g 116 6).toInt) (a0 : (eA g' 173 0).toInt = (eA g 173 0).toInt) (a1 : (eA g' 173 1).toInt = (eA g 173 1).toInt) (r3 : ∀ i : Int, 110 ≤ i → i < 5510 → (eA g' 233 i).toInt = (eA g 233 i).toInt) (r4 : ∀ i : Int, 110 ≤ i → i < 5510 → (eA g' 234 i).toInt = (eA g 234 i).toInt ∧ (eA g' 234 (5510 + i)).toInt = (eA g 234 (5510 + i)).toInt) (t : TOLDX g') : LAWR g' := by
  refine ⟨LWB_c h.1 (fun k k6 => s _ (BZ_lw (Or.inl rfl) k6)) e1 (fun j j0 j1 => (r3 _ (by omega) (by omega)).symm), fun hk => ?_, fun hk => ?_, NOL_c h.2.2.2.1 (s 7 rfl), t⟩
  · rw [a0] at hk
    exact LWB_c (h.2.1 hk) (fun k k6 => s _ (BZ_lw (Or.inr (Or.inl rfl)) k6)) e2 (fun j j0 j1 => (r4 _ (by omega) (by omega)).1.symm)
  · rw [a1] at hk
    exact LWB_c (h.2.2.1 hk) (fun k k6 => s _ (BZ_lw (Or.inr (Or.inr rfl)) k6)) e3 (fun j j0 j1 => (r4 _ (by omega) (by omega)).2.symm)
/-- the law in force lies in the bazaar itself -/
theorem QFX_lw (g : List en_E) : Lw (QFX g) ∧ (QFX g = 7 ∨ ∃ k : Nat, k < 6 ∧ QFX g = 16 + 7 * k) := by
  have z : LAWQ (QFX g) := LATX_in _
  rcases z with e | ⟨k, k6, e⟩
  · exact ⟨by rw [e]; rfl, Or.inl e⟩
  · refine ⟨?_, Or.inr ⟨k, k6, e⟩⟩
    rw [e, show 16 + 7 * k = 1 + 15 + 7 * k by omega]
    exact BZ_lw (Or.inl rfl) k6
theorem TOLDX_s (a2 : gA g' 2 = gA g 2) (a3 : gA g' 3 = gA g 3) (a5 : gA g' 5 = gA g 5) (i0 : gI g' 1 0 = gI g 1 0) (i4 : gI g' 1 4 = gI g 1 4) (i9 : gI g' 1 9 = gI g 1 9) (e5 : gI g' 223 5 = gI g 223 5) (e6 : gI g' 223 6 = gI g 223 6) (a : gA g' 226 = gA g 226) (s : LSM g g' (QFX g) (QFX g)) (t : TOLDX g) : TOLDX g' := TOLDX_c ⟨a2, a3, a5, i0, i4, i9, s⟩ e5 e6 a t
theorem LSM_img {me : Nat} {k : Int} (hm : me = 59 ∨ me = 116) (b : BCI g g' me 1 k) : LSM g g' (QFX g) (QFX g) := b.2 _ (QFX_lw g).1 (fun j j6 _ => by rcases (QFX_lw g).2 with e | ⟨i, i6, e⟩ <;> rw [e] <;> rcases hm with z | z <;> subst z <;> omega)
theorem LSM_law {r : Int} (x : LXG g g' r) (hI : HI g) (ef : (gI g 1 9).toInt = (eA g 233 3).toInt) (el : (gI g 1 6).toInt = (eA g 233 2).toInt) : LSM g g' (QFX g) (QFX g) := by
  have q := QFX_lw g
  by_cases h0 : 0 ≤ r
  · obtain ⟨k, k6, ek, _, _, _, sx⟩ := x.1 h0
    refine sx _ q.1 ?_ ?_
    · rcases q.2 with e | ⟨i, i6, e⟩ <;> rw [e] <;> omega
    · have t := hI.t3
      unfold QFX
      by_cases c : (gI g 1 9).toInt < 0
      · rw [LATX_n c]; omega
      · have z := LATX_k (k := (gI g 1 9).toInt.toNat) (by omega)
        rw [show (((gI g 1 9).toInt.toNat : Nat) : Int) = (gI g 1 9).toInt by omega] at z
        rw [z]; omega
  · exact x.2 (by omega) _ q.1 (by rcases q.2 with e | ⟨i, i6, e⟩ <;> rw [e] <;> omega)
theorem CSQ_t {l r : Int} (c : CSQ g g' l r) (t : TOLDX g) (k : LOKX g) : TOLDX g' := by
  by_cases h : 0 ≤ l ∧ l < (gI g 1 4).toInt
  · exact (c.2 h t k).1
  · exact (c.1 h).2 t
theorem SNQ_t {l r : Int} (c : SNQ g g' l r) (t : TOLDX g) (k : LOKX g) : TOLDX g' := by
  by_cases h : 0 ≤ l ∧ l < (gI g 1 4).toInt
  · obtain ⟨_, z, _⟩ := c.2 h
    exact (z t k).1
  · exact (c.1 h).2 t
-- the fees' answers
theorem FEE.words (h : CT g) (e0 : (gI g 1 0).toInt = (eA g 233 0).toInt) (e1 : (gI g 1 4).toInt = (eA g 233 1).toInt) (hI : HI g) (f : gA g1 233 = gA g 233) (fG : gA G 233 = gA g1 233) (a : ASM g1 G) {l s : Int} (hl : 0 ≤ l ∧ l < (gI g 1 4).toInt) (hs : 0 ≤ s ∧ s < (gI g 1 0).toInt) : WGX g l s (eA g 4 s).toInt = WWM G l s 0 0 ∧ (eA G 247 s).toInt = (eA g 4 s).toInt := by
  have t0 := hI.t0
  have t1 := hI.t1
  have o := h.1 s (by omega) (by omega)
  have as := a s (by omega) (by omega)
  rw [eA_ti f, eA_ti f] at as
  have l0 : ABV g l 0 = LDM G l 0 := by
    unfold ABV LDM
    rw [if_pos ⟨hl.1, hl.2, by decide, by decide⟩, eA_ti fG, eA_ti f, show 46 + 6 * l + 0 = 46 + (6 * l + 0) by omega]
    exact h.2.2 _ (by omega) (by omega)
  have l4 : ABV g l 4 = LDM G l 4 := by
    unfold ABV LDM
    rw [if_pos ⟨hl.1, hl.2, by decide, by decide⟩, eA_ti fG, eA_ti f, show 46 + 6 * l + 4 = 46 + (6 * l + 4) by omega]
    exact h.2.2 _ (by omega) (by omega)
  have nx : NX g s = NMo G s := by
    rw [NMo.c fG, NMo.c f, NMo.eq (by omega)]
    exact NX.eq h e0 hI s
  refine ⟨?_, as.2.trans o.2.2.symm⟩
  unfold WGX WWM
  rw [l0, l4, nx, as.1, as.2, ← o.2.1, ← o.2.2]
theorem FEEB.ct (h : CT g) (e0 : (gI g 1 0).toInt = (eA g 233 0).toInt) (hI : HI g) : FEEB g := fun s s0 s1 => by
  have t0 := hI.t0
  have o := (h.1 s s0 (by omega)).2.2
  have z := hI.s2 (j := 10 + 3 * s + 2) s rfl ⟨s0, by omega⟩
  omega
theorem FEE.cst (h : CT g) (L : LAWR g) (ef : (gI g 1 9).toInt = (eA g 233 3).toInt) (el : (gI g 1 6).toInt = (eA g 233 2).toInt) (e0 : (gI g 1 0).toInt = (eA g 233 0).toInt) (e1 : (gI g 1 4).toInt = (eA g 233 1).toInt) (hI : HI g) (f : gA g1 233 = gA g 233) {l r r' : Int} (hl : 0 ≤ l ∧ l < (gI g 1 4).toInt) (a : CSP g g' l r) (b : CMQ g1 l r') : r = r' := by
  have t0 := hI.t0
  have t1 := hI.t1
  have o1 := h.2.2 (6 * l + 1) (by omega) (by omega)
  have o2 := h.2.2 (6 * l + 2) (by omega) (by omega)
  have w1 := hI.l1 (j := 46 + (6 * l + 1)) l (by omega) (by omega)
  have w2 := hI.l2 (j := 46 + (6 * l + 2)) l (by omega) (by omega)
  have f0 := eA_ti (j := 0) f
  have a1 := (a L.2.2.2.2 (LAWR_lok L hI ef el)).2 (FEEB.ct h e0 hI) hl.1 hl.2 (by rw [o2]; omega)
  obtain ⟨G, fG, aG, b1⟩ := b (LOKM_c f (LAWR_lokm L hI ef el)) (by rw [eA_ti f]; omega)
  rw [o1, o2] at a1
  rw [eA_ti f, eA_ti f] at b1
  have b2 := CBS_q (g := g1) (Or.inr (by omega)) b1
  have a2 := CBS_c (fun s => (NX.eq h e0 hI s).trans (NM.c (s := s) f).symm) a1
  refine CBS_same (NM.e g1) (M := (eA g1 233 0).toInt) (by omega) (NM.rg g1) (fun s s0 s1 => ?_) (by decide) (by decide) (Or.inr (by omega)) (by omega) a2 b2
  have w := FEE.words h e0 e1 hI f fG aG hl (s := s) ⟨s0, by omega⟩
  exact LAWR_get L hI ef el (fG.trans f) w.1 w.2
theorem COST.law (h : CT g) (L : LAWR g) (ef : (gI g 1 9).toInt = (eA g 233 3).toInt) (el : (gI g 1 6).toInt = (eA g 233 2).toInt) (e0 : (gI g 1 0).toInt = (eA g 233 0).toInt) (e1 : (gI g 1 4).toInt = (eA g 233 1).toInt) (hI : HI g) (f : gA g1 233 = gA g 233) {l r r' : Int} (a : CSQ g g' l r) (b : CMR g1 l r') : r = r' := by
  have f1 := eA_ti (j := 1) f
  by_cases hl : 0 ≤ l ∧ l < (gI g 1 4).toInt
  · exact FEE.cst h L ef el e0 e1 hI f hl (a.2 hl) (b.2 (by omega))
  · exact (a.1 hl).1.trans (b.1 (by omega)).symm
theorem SENT.law (h : CT g) (L : LAWR g) (ef : (gI g 1 9).toInt = (eA g 233 3).toInt) (el : (gI g 1 6).toInt = (eA g 233 2).toInt) (e0 : (gI g 1 0).toInt = (eA g 233 0).toInt) (e1 : (gI g 1 4).toInt = (eA g 233 1).toInt) (hI : HI g) (f : gA g1 233 = gA g 233) {l r r' : Int} (a : SNQ g g' l r) (b : SMR g1 l r') : r = r' := by
  have f1 := eA_ti (j := 1) f
  have t1 := hI.t1
  by_cases hl : 0 ≤ l ∧ l < (gI g 1 4).toInt
  · obtain ⟨c, c1, c2⟩ := a.2 hl
    obtain ⟨d, d1, d2⟩ := b.2 (by omega)
    rw [c2, d2, FEE.cst h L ef el e0 e1 hI f hl c1 d1, h.2.2 (6 * l + 5) (by omega) (by omega), eA_ti f]
  · exact (a.1 hl).1.trans (b.1 (by omega)).symm
end LAWF
/-! what a stand gets: the same of both (behind the relation's names and lwf) -/
section LWI
variable {g g1 g' G : List en_E}
theorem LAWR_gtw (h : LAWR g) (hI : HI g) (ef : (gI g 1 9).toInt = (eA g 233 3).toInt) (el : (gI g 1 6).toInt = (eA g 233 2).toInt) (f : gA G 233 = gA g 233) {l s F : Int} {W : Int → Int} (hW : WGX g l s F = W) : GTX g l s F = clp (if (eA G 233 3).toInt < 0 then F else TMW (RWM G (eA G 233 3).toInt) W (RWM G (eA G 233 3).toInt 1).toNat F) := by
  unfold GTX
  congr 1
  rw [eA_tq (j := 3) f, ← ef, RWM_c f, hW]
  rcases LAWR_q h hI ef el with ⟨c, q⟩ | ⟨k, k6, c, q, r⟩
  · rw [if_pos (show (gI g 1 9).toInt < 0 by omega), q, h.2.2.2.1.1]
    rfl
  · rw [if_neg (show ¬ (gI g 1 9).toInt < 0 by omega), q, c]
    have z := LRL_tell (W := W) (RLN_l r) F
    obtain ⟨N, L, _, _, _, e1⟩ := LRL_dr (RLN_l r)
    have e2 : (RWM g (k : Int) 1).toNat = (gI g (16 + 7 * k) 3).toInt.toNat := by rw [e1]; omega
    rw [e2]
    exact z
theorem FEE.wordf (h : CT g) (e0 : (gI g 1 0).toInt = (eA g 233 0).toInt) (e1 : (gI g 1 4).toInt = (eA g 233 1).toInt) (hI : HI g) (f : gA g1 233 = gA g 233) (fG : gA G 233 = gA g1 233) (a : ASM g1 G) {l s F : Int} (hl : 0 ≤ l ∧ l < (gI g 1 4).toInt) (hs : 0 ≤ s ∧ s < (gI g 1 0).toInt) : WGX g l s F = WWF l (LDM G l 0) (LDM G l 4) s (NMo G s) 0 0 (eA G 246 s).toInt F := by
  have t0 := hI.t0
  have t1 := hI.t1
  have o := h.1 s (by omega) (by omega)
  have as := a s (by omega) (by omega)
  rw [eA_ti f, eA_ti f] at as
  have l0 : ABV g l 0 = LDM G l 0 := by
    unfold ABV LDM
    rw [if_pos ⟨hl.1, hl.2, by decide, by decide⟩, eA_ti fG, eA_ti f, show 46 + 6 * l + 0 = 46 + (6 * l + 0) by omega]
    exact h.2.2 _ (by omega) (by omega)
  have l4 : ABV g l 4 = LDM G l 4 := by
    unfold ABV LDM
    rw [if_pos ⟨hl.1, hl.2, by decide, by decide⟩, eA_ti fG, eA_ti f, show 46 + 6 * l + 4 = 46 + (6 * l + 4) by omega]
    exact h.2.2 _ (by omega) (by omega)
  have nx : NX g s = NMo G s := by
    rw [NMo.c fG, NMo.c f, NMo.eq (by omega)]
    exact NX.eq h e0 hI s
  unfold WGX
  rw [l0, l4, nx, as.1, ← o.2.1]
theorem VLD.ct (h : CT g) (e0 : (gI g 1 0).toInt = (eA g 233 0).toInt) (e1 : (gI g 1 4).toInt = (eA g 233 1).toInt) (hI : HI g) : VLD g := by
  have t0 := hI.t0
  have t1 := hI.t1
  refine ⟨by omega, fun l l0 l1 => ?_⟩
  have o1 := h.2.2 (6 * l + 1) (by omega) (by omega)
  have o2 := h.2.2 (6 * l + 2) (by omega) (by omega)
  have w1 := hI.l1 (j := 46 + (6 * l + 1)) l (by omega) (by omega)
  have w2 := hI.l2 (j := 46 + (6 * l + 2)) l (by omega) (by omega)
  unfold FLX WLX
  omega
theorem INC.eq (h : CT g) (L : LAWR g) (ef : (gI g 1 9).toInt = (eA g 233 3).toInt) (el : (gI g 1 6).toInt = (eA g 233 2).toInt) (e0 : (gI g 1 0).toInt = (eA g 233 0).toInt) (e1 : (gI g 1 4).toInt = (eA g 233 1).toInt) (hI : HI g) (f : gA g1 233 = gA g 233) (fG : gA G 233 = gA g1 233) (a : ASM g1 G) (A : Int → Int) {x : Int} (hx : 0 ≤ x ∧ x < (gI g 1 0).toInt) : INCX g A x = INCM G A x := by
  funext F
  have t0 := hI.t0
  have t1 := hI.t1
  have f2 := fG.trans f
  have eN : NX g = NM G := funext (fun s => (NX.eq h e0 hI s).trans (NM.c (s := s) f2).symm)
  have gt : ∀ l s F : Int, 0 ≤ l → l < (gI g 1 4).toInt → 0 ≤ s → s < (gI g 1 0).toInt → GTX g l s F = GTW G l s F := fun l s F l0 l1 s0 s1 => LAWR_gtw L hI ef el f2 (FEE.wordf h e0 e1 hI f fG a ⟨l0, l1⟩ ⟨s0, s1⟩)
  unfold INCX INCM
  rw [eA_ti f2, ← e1]
  refine insv_c _ (fun l l0 l1 => ?_)
  have l1' : l < (gI g 1 4).toInt := by omega
  have o1 : FLX g l = FLM G l := (h.2.2 (6 * l + 1) (by omega) (by omega)).trans (eA_ti f2).symm
  have o2 : WLX g l = WLM G l := (h.2.2 (6 * l + 2) (by omega) (by omega)).trans (eA_ti f2).symm
  have o5 : PLX g l = PLM G l := (h.2.2 (6 * l + 5) (by omega) (by omega)).trans (eA_ti f2).symm
  have w1 := hI.l1 (j := 46 + (6 * l + 1)) l (by omega) (by omega)
  have w2 := hI.l2 (j := 46 + (6 * l + 2)) l (by omega) (by omega)
  have g0 := eA_ti (j := 0) f2
  have g1_ := eA_ti (j := 46 + (6 * l + 1)) f2
  have g2_ := eA_ti (j := 46 + (6 * l + 2)) f2
  have c1 : 0 ≤ FLM G l ∧ FLM G l < (eA G 233 0).toInt := by unfold FLM; omega
  have c2 : WLM G l ≠ -1 := by unfold WLM; omega
  unfold INTX INTM
  rw [eN, o1, o2, o5, gt l x F l0 l1' hx.1 hx.2]
  exact inT_c (M := (eA G 233 0).toInt) (NM.e G) (NM.rg G) (Or.inr c1) c2 (fun s s0 s1 _ => gt l s _ l0 l1' s0 (by omega))
theorem ASK.eq (h : CT g) (f : gA g1 233 = gA g 233) (a : ASM g1 G) : NRM (FEEF g) = NRM (ASKM G) := NRM_e (fun s s0 s1 => by
  have o := (h.1 s s0 s1).2.2
  have z := (a s s0 s1).2
  rw [eA_ti f] at z
  exact o.trans z.symm)
theorem INCOME.law (h : CT g) (L : LAWR g) (ef : (gI g 1 9).toInt = (eA g 233 3).toInt) (el : (gI g 1 6).toInt = (eA g 233 2).toInt) (e0 : (gI g 1 0).toInt = (eA g 233 0).toInt) (e1 : (gI g 1 4).toInt = (eA g 233 1).toInt) (hI : HI g) (f : gA g1 233 = gA g 233) {x r r' : Int} (a : IOQ g g' x r) (b : IMR g1 x r') : r = r' := by
  have f0 := eA_ti (j := 0) f
  have t0 := hI.t0
  by_cases hx : 0 ≤ x ∧ x < (gI g 1 0).toInt
  · have V := VLD.ct h e0 e1 hI
    obtain ⟨G, fG, aG, er⟩ := b.2 (by omega) (LOKM_c f (LAWR_lokm L hI ef el))
    have z := (a.2 hx L.2.2.2.2 (LAWR_lok L hI ef el)).2 ⟨FEEB.ct h e0 hI, V, hx.1, hx.2⟩
    have ea := ASK.eq h f aG
    have ex : FEEF g x = ASKM G x := by
      have y := congrFun ea x
      rw [NRM_i (by omega), NRM_i (by omega)] at y
      exact y
    rw [z, er, ← INCX_n V, ea, INC.eq h L ef el e0 e1 hI f fG aG _ hx, ex]
    exact INCM_y (fun s s0 s1 => NRM_i ⟨s0, s1⟩) (fun l l0 l1 => by
      have t1 := hI.t1
      have w1 := hI.l1 (j := 46 + (6 * l + 1)) l (by omega) (by have y := eA_ti (j := 1) (fG.trans f); omega)
      have w2 := hI.l2 (j := 46 + (6 * l + 2)) l (by omega) (by have y := eA_ti (j := 1) (fG.trans f); omega)
      have y0 := eA_ti (j := 0) (fG.trans f)
      have y1 := eA_ti (j := 46 + (6 * l + 1)) (fG.trans f)
      have y2 := eA_ti (j := 46 + (6 * l + 2)) (fG.trans f)
      unfold FLM WLM
      omega)
  · exact (a.1 hx).1.trans (b.1 (by omega)).symm
theorem INC.same (h : CT g) (L : LAWR g) (ef : (gI g 1 9).toInt = (eA g 233 3).toInt) (el : (gI g 1 6).toInt = (eA g 233 2).toInt) (e0 : (gI g 1 0).toInt = (eA g 233 0).toInt) (e1 : (gI g 1 4).toInt = (eA g 233 1).toInt) (hI : HI g) (f : gA g1 233 = gA g 233) (fG : gA G 233 = gA g1 233) (aG : ASM g1 G) {x : Int} (hx : 0 ≤ x ∧ x < (gI g 1 0).toInt) : INCX g (FEEF g) x = INCM G (ASKM G) x := by
  have t0 := hI.t0
  have V := VLD.ct h e0 e1 hI
  rw [← INCX_m V, ASK.eq h f aG, INC.eq h L ef el e0 e1 hI f fG aG _ hx]
  funext F
  exact INCM_y (fun s s0 s1 => NRM_i ⟨s0, s1⟩) (fun l l0 l1 => by
    have t1 := hI.t1
    have w1 := hI.l1 (j := 46 + (6 * l + 1)) l (by omega) (by have y := eA_ti (j := 1) (fG.trans f); omega)
    have w2 := hI.l2 (j := 46 + (6 * l + 2)) l (by omega) (by have y := eA_ti (j := 1) (fG.trans f); omega)
    have y0 := eA_ti (j := 0) (fG.trans f)
    have y1 := eA_ti (j := 46 + (6 * l + 1)) (fG.trans f)
    have y2 := eA_ti (j := 46 + (6 * l + 2)) (fG.trans f)
    unfold FLM WLM
    omega)
theorem ANSWER.law (h : CT g) (L : LAWR g) (ef : (gI g 1 9).toInt = (eA g 233 3).toInt) (el : (gI g 1 6).toInt = (eA g 233 2).toInt) (e0 : (gI g 1 0).toInt = (eA g 233 0).toInt) (e1 : (gI g 1 4).toInt = (eA g 233 1).toInt) (hI : HI g) (f : gA g1 233 = gA g 233) {x w r r' : Int} (a : AOQ g g' x w r) (b : AMR g1 x w r') : r = r' := by
  have f0 := eA_ti (j := 0) f
  by_cases hx : (0 ≤ x ∧ x < (gI g 1 0).toInt) ∧ 0 ≤ w ∧ w ≤ 1
  · have V := VLD.ct h e0 e1 hI
    obtain ⟨G, fG, aG, er⟩ := b.2 ⟨⟨hx.1.1, by omega⟩, hx.2⟩ (LOKM_c f (LAWR_lokm L hI ef el))
    have z := (a.2 hx L.2.2.2.2 (LAWR_lok L hI ef el)).2 ⟨FEEB.ct h e0 hI, V, hx.1.1, hx.1.2⟩
    rw [z, er, INC.same h L ef el e0 e1 hI f fG aG hx.1]
  · exact (a.1 hx).1.trans (b.1 (fun q => hx ⟨⟨q.1.1, by omega⟩, q.2⟩)).symm
theorem RESTLESS.law (h : CT g) (L : LAWR g) (ef : (gI g 1 9).toInt = (eA g 233 3).toInt) (el : (gI g 1 6).toInt = (eA g 233 2).toInt) (e0 : (gI g 1 0).toInt = (eA g 233 0).toInt) (e1 : (gI g 1 4).toInt = (eA g 233 1).toInt) (hI : HI g) (f : gA g1 233 = gA g 233) {r r' : Int} (a : FRP g g' r) (b : FSTM g1 r') : r = r' := by
  have f0 := eA_ti (j := 0) f
  have t0 := hI.t0
  have V := VLD.ct h e0 e1 hI
  obtain ⟨G, fG, aG, eb⟩ := b (LOKM_c f (LAWR_lokm L hI ef el))
  have ea := (a L.2.2.2.2 (LAWR_lok L hI ef el)).2 (FEEB.ct h e0 hI) V
  have z : RST (INCX g) (NRM (FEEF g)) (gI g 1 0).toInt r := RST_a (fun j j0 j1 => ⟨INCX_m V, NRM_i ⟨j0, by omega⟩⟩) ea
  rw [ASK.eq h f aG] at z
  have y := RST_c (fun j j0 j1 => INC.eq h L ef el e0 e1 hI f fG aG _ ⟨j0, j1⟩) z
  rw [show (gI g 1 0).toInt = (eA g1 233 0).toInt by omega] at y
  exact RST_u y eb
theorem RESTS.law (h : CT g) (L : LAWR g) (ef : (gI g 1 9).toInt = (eA g 233 3).toInt) (el : (gI g 1 6).toInt = (eA g 233 2).toInt) (e0 : (gI g 1 0).toInt = (eA g 233 0).toInt) (e1 : (gI g 1 4).toInt = (eA g 233 1).toInt) (hI : HI g) (f : gA g1 233 = gA g 233) (X : SETX g) {w r r' : Int} (a : RSQ g g' w r) (b : RMR g1 w r') : r = r' := by
  have f0 := eA_ti (j := 0) f
  have t0 := hI.t0
  by_cases hw : w = -1 ∨ (0 ≤ w ∧ w < (gI g 1 0).toInt)
  · have V := VLD.ct h e0 e1 hI
    have z := (a.2 hw L.2.2.2.2 (LAWR_lok L hI ef el) X).2.2 (FEEB.ct h e0 hI) V
    obtain ⟨G, fG, aG, er⟩ := b.2 (by omega) (LOKM_c f (LAWR_lokm L hI ef el))
    have e : FIN g = setF (INCM G) (eA g1 233 0).toInt.toNat (NRM (ASKM G)) 50 := by
      unfold FIN
      rw [ASK.eq h f aG, show (eA g1 233 0).toInt = (gI g 1 0).toInt by omega]
      exact setF_c (fun A j j0 j1 => INC.eq h L ef el e0 e1 hI f fG aG A ⟨j0, by omega⟩) _ 50
    rw [← e] at er
    exact z.trans er.symm
  · exact (a.1 hw).1.trans (b.1 (by omega)).symm
end LWI
theorem R3_stand {g0 g' : List en_E} {a1 a2 a3 : Int32} (hI : HI g0) (h : (∀ i : Int, 10 ≤ i → i < 5510 → (eA g' 233 (i)).toInt = if ((-1 ≤ a1.toInt ∧ a1.toInt ≤ 11 ∧ 1 ≤ a2.toInt ∧ a2.toInt ≤ 9 ∧ 0 ≤ a3.toInt ∧ a3.toInt ≤ 99) ∧ (eA g0 233 0).toInt < 12) ∧ i = 10 + 3 * (eA g0 233 0).toInt + 0 then a1.toInt else if ((-1 ≤ a1.toInt ∧ a1.toInt ≤ 11 ∧ 1 ≤ a2.toInt ∧ a2.toInt ≤ 9 ∧ 0 ≤ a3.toInt ∧ a3.toInt ≤ 99) ∧ (eA g0 233 0).toInt < 12) ∧ i = 10 + 3 * (eA g0 233 0).toInt + 1 then a2.toInt else if ((-1 ≤ a1.toInt ∧ a1.toInt ≤ 11 ∧ 1 ≤ a2.toInt ∧ a2.toInt ≤ 9 ∧ 0 ≤ a3.toInt ∧ a3.toInt ≤ 99) ∧ (eA g0 233 0).toInt < 12) ∧ i = 10 + 3 * (eA g0 233 0).toInt + 2 then a3.toInt else (eA g0 233 (i)).toInt)) : ∀ i : Int, 110 ≤ i → i < 5510 → (eA g' 233 i).toInt = (eA g0 233 i).toInt := fun i i0 i1 => by
  have t0 := hI.t0
  have t1 := hI.t1
  have t4 := hI.t4
  have m := h i (by omega) (by omega)
  rw [if_neg (by omega), if_neg (by omega), if_neg (by omega)] at m
  exact m
theorem R3_put {g0 g' : List en_E} {a1 a2 a3 : Int32} (hI : HI g0) (h : (∀ i : Int, 10 ≤ i → i < 5510 → (eA g' 233 (i)).toInt = if (((a2.toInt = 0 ∧ -1 ≤ a3.toInt ∧ a3.toInt ≤ 11) ∨ (a2.toInt = 1 ∧ 1 ≤ a3.toInt ∧ a3.toInt ≤ 9) ∨ (a2.toInt = 2 ∧ 0 ≤ a3.toInt ∧ a3.toInt ≤ 99)) ∧ 0 ≤ a1.toInt ∧ a1.toInt < (eA g0 233 0).toInt) ∧ i = 10 + 3 * a1.toInt + a2.toInt then a3.toInt else (eA g0 233 (i)).toInt)) : ∀ i : Int, 110 ≤ i → i < 5510 → (eA g' 233 i).toInt = (eA g0 233 i).toInt := fun i i0 i1 => by
  have t0 := hI.t0
  have t1 := hI.t1
  have t4 := hI.t4
  have m := h i (by omega) (by omega)
  rw [if_neg (by omega)] at m
  exact m
theorem R3_swap {g0 g' : List en_E} {a1 a2 : Int32} (hI : HI g0) (h : (∀ i : Int, 10 ≤ i → i < 5510 → (eA g' 233 (i)).toInt = if (0 ≤ a1.toInt ∧ a1.toInt < (eA g0 233 0).toInt ∧ 0 ≤ a2.toInt ∧ a2.toInt < (eA g0 233 0).toInt ∧ a1.toInt ≠ a2.toInt) ∧ i = 10 + 3 * a1.toInt + 1 then (eA g0 233 (10 + 3 * a2.toInt + 1)).toInt else if (0 ≤ a1.toInt ∧ a1.toInt < (eA g0 233 0).toInt ∧ 0 ≤ a2.toInt ∧ a2.toInt < (eA g0 233 0).toInt ∧ a1.toInt ≠ a2.toInt) ∧ i = 10 + 3 * a1.toInt + 2 then (eA g0 233 (10 + 3 * a2.toInt + 2)).toInt else if (0 ≤ a1.toInt ∧ a1.toInt < (eA g0 233 0).toInt ∧ 0 ≤ a2.toInt ∧ a2.toInt < (eA g0 233 0).toInt ∧ a1.toInt ≠ a2.toInt) ∧ i = 10 + 3 * a2.toInt + 1 then (eA g0 233 (10 + 3 * a1.toInt + 1)).toInt else if (0 ≤ a1.toInt ∧ a1.toInt < (eA g0 233 0).toInt ∧ 0 ≤ a2.toInt ∧ a2.toInt < (eA g0 233 0).toInt ∧ a1.toInt ≠ a2.toInt) ∧ i = 10 + 3 * a2.toInt + 2 then (eA g0 233 (10 + 3 * a1.toInt + 2)).toInt else (eA g0 233 (i)).toInt)) : ∀ i : Int, 110 ≤ i → i < 5510 → (eA g' 233 i).toInt = (eA g0 233 i).toInt := fun i i0 i1 => by
  have t0 := hI.t0
  have t1 := hI.t1
  have t4 := hI.t4
  have m := h i (by omega) (by omega)
  rw [if_neg (by omega), if_neg (by omega), if_neg (by omega), if_neg (by omega)] at m
  exact m
theorem R3_terms {g0 g' : List en_E} (hI : HI g0) (h : (∀ i : Int, 10 ≤ i → i < 5510 → (eA g' 233 (i)).toInt = (eA g0 233 (i)).toInt)) : ∀ i : Int, 110 ≤ i → i < 5510 → (eA g' 233 i).toInt = (eA g0 233 i).toInt := fun i i0 i1 => by
  have t0 := hI.t0
  have t1 := hI.t1
  have t4 := hI.t4
  have m := h i (by omega) (by omega)
  exact m
theorem R3_force {g0 g' : List en_E} (hI : HI g0) (h : (∀ i : Int, 10 ≤ i → i < 5510 → (eA g' 233 (i)).toInt = (eA g0 233 (i)).toInt)) : ∀ i : Int, 110 ≤ i → i < 5510 → (eA g' 233 i).toInt = (eA g0 233 i).toInt := fun i i0 i1 => by
  have t0 := hI.t0
  have t1 := hI.t1
  have t4 := hI.t4
  have m := h i (by omega) (by omega)
  exact m
theorem R3_clear {g0 g' : List en_E} (hI : HI g0) (h : (∀ i : Int, 10 ≤ i → i < 5510 → (eA g' 233 (i)).toInt = (eA g0 233 (i)).toInt)) : ∀ i : Int, 110 ≤ i → i < 5510 → (eA g' 233 i).toInt = (eA g0 233 i).toInt := fun i i0 i1 => by
  have t0 := hI.t0
  have t1 := hI.t1
  have t4 := hI.t4
  have m := h i (by omega) (by omega)
  exact m
theorem R3_load {g0 g' : List en_E} (hI : HI g0) (h : (∀ i : Int, 94 ≤ i → i < 5510 → (eA g' 233 (i)).toInt = (eA g0 233 (i)).toInt)) : ∀ i : Int, 110 ≤ i → i < 5510 → (eA g' 233 i).toInt = (eA g0 233 i).toInt := fun i i0 i1 => by
  have t0 := hI.t0
  have t1 := hI.t1
  have t4 := hI.t4
  have m := h i (by omega) (by omega)
  exact m
theorem R3_drop {g0 g' : List en_E} (hI : HI g0) (h : (∀ i : Int, 94 ≤ i → i < 5510 → (eA g' 233 (i)).toInt = (eA g0 233 (i)).toInt)) : ∀ i : Int, 110 ≤ i → i < 5510 → (eA g' 233 i).toInt = (eA g0 233 i).toInt := fun i i0 i1 => by
  have t0 := hI.t0
  have t1 := hI.t1
  have t4 := hI.t4
  have m := h i (by omega) (by omega)
  exact m
theorem R3_row {g0 g' : List en_E} (hI : HI g0) (h : (∀ i : Int, 94 ≤ i → i < 5510 → (eA g' 233 (i)).toInt = (eA g0 233 (i)).toInt)) : ∀ i : Int, 110 ≤ i → i < 5510 → (eA g' 233 i).toInt = (eA g0 233 i).toInt := fun i i0 i1 => by
  have t0 := hI.t0
  have t1 := hI.t1
  have t4 := hI.t4
  have m := h i (by omega) (by omega)
  exact m
theorem R3_sign {g0 g' : List en_E} {a1 a2 : Int32} (hI : HI g0) (h : (∀ i : Int, 10 ≤ i → i < 5510 → (eA g' 233 (i)).toInt = if (0 ≤ a2.toInt ∧ a2.toInt ≤ 99 ∧ 0 ≤ a1.toInt ∧ a1.toInt < (eA g0 233 0).toInt ∧ (eA g0 233 4).toInt < 8) ∧ i = 94 + 2 * (eA g0 233 4).toInt + 0 then a1.toInt else if (0 ≤ a2.toInt ∧ a2.toInt ≤ 99 ∧ 0 ≤ a1.toInt ∧ a1.toInt < (eA g0 233 0).toInt ∧ (eA g0 233 4).toInt < 8) ∧ i = 94 + 2 * (eA g0 233 4).toInt + 1 then a2.toInt else (eA g0 233 (i)).toInt)) : ∀ i : Int, 110 ≤ i → i < 5510 → (eA g' 233 i).toInt = (eA g0 233 i).toInt := fun i i0 i1 => by
  have t0 := hI.t0
  have t1 := hI.t1
  have t4 := hI.t4
  have m := h i (by omega) (by omega)
  rw [if_neg (by omega), if_neg (by omega)] at m
  exact m
theorem RW_p {C : Prop} [Decidable C] {f p d : Int → Int} (h : ∀ i : Int, 10 ≤ i → i < 5510 → f i = if C then p i else d i) (c : C) : ∀ i : Int, 110 ≤ i → i < 5510 → f i = p i := fun i i0 i1 => (h i (by omega) i1).trans (if_pos c)
theorem RW_n {C : Prop} [Decidable C] {f p d : Int → Int} (h : ∀ i : Int, 10 ≤ i → i < 5510 → f i = if C then p i else d i) (c : ¬ C) : ∀ i : Int, 110 ≤ i → i < 5510 → f i = d i := fun i i0 i1 => (h i (by omega) i1).trans (if_neg c)
theorem LWX_n {g g1 : List en_E} {r : Int} (x : LWX g g1 r) (h : 0 ≤ (gI g 1 6).toInt) : (r < 0 ∧ (gI g1 1 6).toInt = (gI g 1 6).toInt) ∨ (0 ≤ r ∧ (gI g 1 6).toInt < 6 ∧ (gI g1 1 6).toInt = (gI g 1 6).toInt + 1) := by
  rcases x with ⟨_, a, _, b⟩ | ⟨a, _, ⟨b, c⟩ | ⟨b, _, c⟩⟩
  · exact Or.inl ⟨by omega, b⟩
  · exact Or.inl ⟨by omega, c⟩
  · exact Or.inr ⟨by omega, a, c⟩
theorem LAWR_lw {g g1 g' : List en_E} {r r' : Int} (h : LAWR g) (t : TOLDX g') (lx : LWX g g1 r) (x : LXG g g1 r) (m : LWG g1 g' r') (er : r = r') (rw_ : ROWE g1 g') (no : r' < 0 → ∀ i : Int, 110 ≤ i → i < 5510 → eA g' 233 i = eA g1 233 i) (e16 : gI g' 1 6 = gI g1 1 6) (f3 : gA g1 233 = gA g 233) (f6 : gA g1 236 = gA g 236) (f8 : gI g1 231 8 = gI g 231 8) (hT : RT g) (et : (gI g 174 1).toInt = (gI g 231 8).toInt) (el : (gI g 1 6).toInt = (eA g 233 2).toInt) (hI : HI g) (s : LSA g1 g') (e2 : gI g' 59 6 = gI g 59 6) (e3 : gI g' 116 6 = gI g 116 6) (a : gA g' 173 = gA g 173) (r4 : gA g' 234 = gA g 234) : LAWR g' := by
  subst er
  have t2 := hI.t2
  refine LAWR_law h t x m rw_ f3 f6 f8 hT et el s e2 e3 a r4 ?_
  rcases LWX_n lx (by omega) with ⟨c, e⟩ | ⟨c, n, e⟩
  · exact Or.inl ⟨c, e16.trans (i32e e), no c⟩
  · exact Or.inr ⟨c, n, (congrArg Int32.toInt e16).trans e⟩
theorem LAWR.start : LAWR w_0 := ⟨fun k _ kc => absurd kc (by rw [show (gI w_0 1 6).toInt = 0 from by decide +kernel]; omega), fun h => absurd (by decide +kernel) h, fun h => absurd (by decide +kernel) h, ⟨by decide +kernel, by rw [hb1]; decide +kernel⟩, TOLDX_z (by decide +kernel)⟩
theorem BYX.feed {g0 g' : List en_E} {a1 a2 a3 a4 a5 : Int32} (h : BYX g0) (q : (∀ i : Int, 0 ≤ i → i < 400 → (eA g' 175 (i)).toInt = if (gI g0 174 1).toInt ≤ 380 ∧ (gI g0 174 1).toInt + 0 ≤ i ∧ i < (gI g0 174 1).toInt + 4 then BYT a1 (i - (gI g0 174 1).toInt - 0) else if (gI g0 174 1).toInt ≤ 380 ∧ (gI g0 174 1).toInt + 4 ≤ i ∧ i < (gI g0 174 1).toInt + 8 then BYT a2 (i - (gI g0 174 1).toInt - 4) else if (gI g0 174 1).toInt ≤ 380 ∧ (gI g0 174 1).toInt + 8 ≤ i ∧ i < (gI g0 174 1).toInt + 12 then BYT a3 (i - (gI g0 174 1).toInt - 8) else if (gI g0 174 1).toInt ≤ 380 ∧ (gI g0 174 1).toInt + 12 ≤ i ∧ i < (gI g0 174 1).toInt + 16 then BYT a4 (i - (gI g0 174 1).toInt - 12) else if (gI g0 174 1).toInt ≤ 380 ∧ (gI g0 174 1).toInt + 16 ≤ i ∧ i < (gI g0 174 1).toInt + 20 then BYT a5 (i - (gI g0 174 1).toInt - 16) else (eA g0 175 (i)).toInt)) (hn : (380 < (gI g0 174 1).toInt ∧ (gI g' 174 1).toInt = (gI g0 174 1).toInt) ∨ ((gI g0 174 1).toInt ≤ 380 ∧ (gI g' 174 1).toInt = (gI g0 174 1).toInt + 20)) (h4 : (gI g' 174 1).toInt ≤ 400) : BYX g' := fun i i0 i1 => by
  have i2 : i < (gI g' 174 1).toInt := i1
  have x := q i i0 (by omega)
  show 0 ≤ (eA g' 175 i).toInt
  rw [x]
  by_cases c : i < (gI g0 174 1).toInt
  · rw [if_neg (by omega), if_neg (by omega), if_neg (by omega), if_neg (by omega), if_neg (by omega)]
    exact h i i0 c
  · rcases (show ((gI g0 174 1).toInt + 0 ≤ i ∧ i < (gI g0 174 1).toInt + 4) ∨ ((gI g0 174 1).toInt + 4 ≤ i ∧ i < (gI g0 174 1).toInt + 8) ∨ ((gI g0 174 1).toInt + 8 ≤ i ∧ i < (gI g0 174 1).toInt + 12) ∨ ((gI g0 174 1).toInt + 12 ≤ i ∧ i < (gI g0 174 1).toInt + 16) ∨ ((gI g0 174 1).toInt + 16 ≤ i ∧ i < (gI g0 174 1).toInt + 20) by omega) with k | k | k | k | k
    · rw [if_pos (by omega)]
      exact BYT.ge _ _
    · rw [if_neg (by omega), if_pos (by omega)]
      exact BYT.ge _ _
    · rw [if_neg (by omega), if_neg (by omega), if_pos (by omega)]
      exact BYT.ge _ _
    · rw [if_neg (by omega), if_neg (by omega), if_neg (by omega), if_pos (by omega)]
      exact BYT.ge _ _
    · rw [if_neg (by omega), if_neg (by omega), if_neg (by omega), if_neg (by omega), if_pos (by omega)]
      exact BYT.ge _ _
