/-- the numbers of a kept image -/
def IM0 (g : List en_E) : Prop := (eA g 173 0).toInt ≠ 0 → (gI g 59 0).toInt = (eA g 234 0).toInt ∧ (gI g 59 12).toInt = (eA g 234 4).toInt ∧ (gI g 59 10).toInt = (eA g 234 5).toInt ∧ (gI g 59 11).toInt = (eA g 234 6).toInt ∧ (gI g 59 4).toInt = (eA g 234 1).toInt ∧ (gI g 59 6).toInt = (eA g 234 2).toInt ∧ (gI g 59 9).toInt = (eA g 234 3).toInt
theorem IM0.cong {g g' : List en_E} (h : IM0 g) (h0 : (eA g' 173 0).toInt = (eA g 173 0).toInt) (e0 : (gI g' 59 0).toInt = (gI g 59 0).toInt) (e1 : (eA g' 234 0).toInt = (eA g 234 0).toInt) (e2 : (gI g' 59 12).toInt = (gI g 59 12).toInt) (e3 : (eA g' 234 4).toInt = (eA g 234 4).toInt) (e4 : (gI g' 59 10).toInt = (gI g 59 10).toInt) (e5 : (eA g' 234 5).toInt = (eA g 234 5).toInt) (e6 : (gI g' 59 11).toInt = (gI g 59 11).toInt) (e7 : (eA g' 234 6).toInt = (eA g 234 6).toInt) (e8 : (gI g' 59 4).toInt = (gI g 59 4).toInt) (e9 : (eA g' 234 1).toInt = (eA g 234 1).toInt) (e10 : (gI g' 59 6).toInt = (gI g 59 6).toInt) (e11 : (eA g' 234 2).toInt = (eA g 234 2).toInt) (e12 : (gI g' 59 9).toInt = (gI g 59 9).toInt) (e13 : (eA g' 234 3).toInt = (eA g 234 3).toInt) : IM0 g' := fun k => by
  have z := h (by rw [← h0]; exact k)
  rw [e0, e1, e2, e3, e4, e5, e6, e7, e8, e9, e10, e11, e12, e13]
  exact z
/-- the numbers of a kept image -/
def IM1 (g : List en_E) : Prop := (eA g 173 1).toInt ≠ 0 → (gI g 116 0).toInt = (eA g 234 5510).toInt ∧ (gI g 116 12).toInt = (eA g 234 5514).toInt ∧ (gI g 116 10).toInt = (eA g 234 5515).toInt ∧ (gI g 116 11).toInt = (eA g 234 5516).toInt ∧ (gI g 116 4).toInt = (eA g 234 5511).toInt ∧ (gI g 116 6).toInt = (eA g 234 5512).toInt ∧ (gI g 116 9).toInt = (eA g 234 5513).toInt
theorem IM1.cong {g g' : List en_E} (h : IM1 g) (h0 : (eA g' 173 1).toInt = (eA g 173 1).toInt) (e0 : (gI g' 116 0).toInt = (gI g 116 0).toInt) (e1 : (eA g' 234 5510).toInt = (eA g 234 5510).toInt) (e2 : (gI g' 116 12).toInt = (gI g 116 12).toInt) (e3 : (eA g' 234 5514).toInt = (eA g 234 5514).toInt) (e4 : (gI g' 116 10).toInt = (gI g 116 10).toInt) (e5 : (eA g' 234 5515).toInt = (eA g 234 5515).toInt) (e6 : (gI g' 116 11).toInt = (gI g 116 11).toInt) (e7 : (eA g' 234 5516).toInt = (eA g 234 5516).toInt) (e8 : (gI g' 116 4).toInt = (gI g 116 4).toInt) (e9 : (eA g' 234 5511).toInt = (eA g 234 5511).toInt) (e10 : (gI g' 116 6).toInt = (gI g 116 6).toInt) (e11 : (eA g' 234 5512).toInt = (eA g 234 5512).toInt) (e12 : (gI g' 116 9).toInt = (gI g 116 9).toInt) (e13 : (eA g' 234 5513).toInt = (eA g 234 5513).toInt) : IM1 g' := fun k => by
  have z := h (by rw [← h0]; exact k)
  rw [e0, e1, e2, e3, e4, e5, e6, e7, e8, e9, e10, e11, e12, e13]
  exact z
def PH (p : Prop) : Prop := p
theorem if4n {c1 c2 c3 c4 : Prop} [Decidable c1] [Decidable c2] [Decidable c3] [Decidable c4] {p q r s d : Int} (h1 : ¬ c1) (h2 : ¬ c2) (h3 : ¬ c3) (h4 : ¬ c4) : (if c1 then p else if c2 then q else if c3 then r else if c4 then s else d) = d := by rw [if_neg h1, if_neg h2, if_neg h3, if_neg h4]
theorem swp1 {a b i : Int} {S M : Int → Int} (h : ∀ j : Int, 0 ≤ j → j < 12 → S j = M (10 + 3 * j + 1)) (ha : 0 ≤ a ∧ a < 12) (hb : 0 ≤ b ∧ b < 12) (hi : 0 ≤ i ∧ i < 12) : (if i = a then S b else if i = b then S a else S i) = (if 10 + 3 * i + 1 = 10 + 3 * a + 1 then M (10 + 3 * b + 1) else if 10 + 3 * i + 1 = 10 + 3 * a + 2 then M (10 + 3 * b + 2) else if 10 + 3 * i + 1 = 10 + 3 * b + 1 then M (10 + 3 * a + 1) else if 10 + 3 * i + 1 = 10 + 3 * b + 2 then M (10 + 3 * a + 2) else M (10 + 3 * i + 1)) := by
  by_cases c : i = a
  · rw [if_pos c, if_pos (show 10 + 3 * i + 1 = 10 + 3 * a + 1 from by omega)]; exact h b hb.1 hb.2
  · rw [if_neg c, if_neg (show ¬ (10 + 3 * i + 1 = 10 + 3 * a + 1) from by omega), if_neg (show ¬ (10 + 3 * i + 1 = 10 + 3 * a + 2) from by omega)]
    by_cases d : i = b
    · rw [if_pos d, if_pos (show 10 + 3 * i + 1 = 10 + 3 * b + 1 from by omega)]; exact h a ha.1 ha.2
    · rw [if_neg d, if_neg (show ¬ (10 + 3 * i + 1 = 10 + 3 * b + 1) from by omega), if_neg (show ¬ (10 + 3 * i + 1 = 10 + 3 * b + 2) from by omega)]; exact h i hi.1 hi.2
theorem swp2 {a b i : Int} {S M : Int → Int} (h : ∀ j : Int, 0 ≤ j → j < 12 → S j = M (10 + 3 * j + 2)) (ha : 0 ≤ a ∧ a < 12) (hb : 0 ≤ b ∧ b < 12) (hi : 0 ≤ i ∧ i < 12) : (if i = a then S b else if i = b then S a else S i) = (if 10 + 3 * i + 2 = 10 + 3 * a + 1 then M (10 + 3 * b + 1) else if 10 + 3 * i + 2 = 10 + 3 * a + 2 then M (10 + 3 * b + 2) else if 10 + 3 * i + 2 = 10 + 3 * b + 1 then M (10 + 3 * a + 1) else if 10 + 3 * i + 2 = 10 + 3 * b + 2 then M (10 + 3 * a + 2) else M (10 + 3 * i + 2)) := by
  by_cases c : i = a
  · rw [if_pos c, if_neg (show ¬ (10 + 3 * i + 2 = 10 + 3 * a + 1) from by omega), if_pos (show 10 + 3 * i + 2 = 10 + 3 * a + 2 from by omega)]; exact h b hb.1 hb.2
  · rw [if_neg c, if_neg (show ¬ (10 + 3 * i + 2 = 10 + 3 * a + 1) from by omega), if_neg (show ¬ (10 + 3 * i + 2 = 10 + 3 * a + 2) from by omega)]
    by_cases d : i = b
    · rw [if_pos d, if_neg (show ¬ (10 + 3 * i + 2 = 10 + 3 * b + 1) from by omega), if_pos (show 10 + 3 * i + 2 = 10 + 3 * b + 2 from by omega)]; exact h a ha.1 ha.2
    · rw [if_neg d, if_neg (show ¬ (10 + 3 * i + 2 = 10 + 3 * b + 1) from by omega), if_neg (show ¬ (10 + 3 * i + 2 = 10 + 3 * b + 2) from by omega)]; exact h i hi.1 hi.2
theorem ld6 {L i a b c e f q d d' : Int} (h : i < 6 * L → d = d') (hi : i < 6 * L + 6) : (if i = 6 * L + 0 then a else if i = 6 * L + 1 then b else if i = 6 * L + 2 then c else if i = 6 * L + 3 then e else if i = 6 * L + 4 then f else if i = 6 * L + 5 then q else d) = (if 46 + i = 46 + 6 * L + 0 then a else if 46 + i = 46 + 6 * L + 1 then b else if 46 + i = 46 + 6 * L + 2 then c else if 46 + i = 46 + 6 * L + 3 then e else if 46 + i = 46 + 6 * L + 4 then f else if 46 + i = 46 + 6 * L + 5 then q else d') := by
  by_cases c0 : i = 6 * L + 0
  · rw [if_pos c0, if_pos (show 46 + i = 46 + 6 * L + 0 from by omega)]
  · rw [if_neg c0, if_neg (show ¬ (46 + i = 46 + 6 * L + 0) from by omega)]
    by_cases c1 : i = 6 * L + 1
    · rw [if_pos c1, if_pos (show 46 + i = 46 + 6 * L + 1 from by omega)]
    · rw [if_neg c1, if_neg (show ¬ (46 + i = 46 + 6 * L + 1) from by omega)]
      by_cases c2 : i = 6 * L + 2
      · rw [if_pos c2, if_pos (show 46 + i = 46 + 6 * L + 2 from by omega)]
      · rw [if_neg c2, if_neg (show ¬ (46 + i = 46 + 6 * L + 2) from by omega)]
        by_cases c3 : i = 6 * L + 3
        · rw [if_pos c3, if_pos (show 46 + i = 46 + 6 * L + 3 from by omega)]
        · rw [if_neg c3, if_neg (show ¬ (46 + i = 46 + 6 * L + 3) from by omega)]
          by_cases c4 : i = 6 * L + 4
          · rw [if_pos c4, if_pos (show 46 + i = 46 + 6 * L + 4 from by omega)]
          · rw [if_neg c4, if_neg (show ¬ (46 + i = 46 + 6 * L + 4) from by omega)]
            by_cases c5 : i = 6 * L + 5
            · rw [if_pos c5, if_pos (show 46 + i = 46 + 6 * L + 5 from by omega)]
            · rw [if_neg c5, if_neg (show ¬ (46 + i = 46 + 6 * L + 5) from by omega)]
              exact h (by omega)
theorem cs2 (A : Prop) : PH (¬ A) ∨ PH A := (Classical.em A).elim Or.inr Or.inl
theorem csT (A B : Prop) : PH A ∨ PH B ∨ PH (¬ A ∧ ¬ B) := (Classical.em A).elim (fun a => Or.inl a) (fun a => (Classical.em B).elim (fun b => Or.inr (Or.inl b)) (fun b => Or.inr (Or.inr ⟨a, b⟩)))
theorem cs3 (A B : Prop) : PH (¬ A) ∨ PH (A ∧ B) ∨ PH (A ∧ ¬ B) := (Classical.em A).elim (fun a => (Classical.em B).elim (fun b => Or.inr (Or.inl ⟨a, b⟩)) (fun b => Or.inr (Or.inr ⟨a, b⟩))) Or.inl
theorem cs4 (A B C : Prop) : PH (¬ A) ∨ PH (A ∧ ¬ B) ∨ PH (A ∧ B ∧ C) ∨ PH (A ∧ B ∧ ¬ C) := (Classical.em A).elim (fun a => (Classical.em B).elim (fun b => (Classical.em C).elim (fun c => Or.inr (Or.inr (Or.inl ⟨a, b, c⟩))) (fun c => Or.inr (Or.inr (Or.inr ⟨a, b, c⟩)))) (fun b => Or.inr (Or.inl ⟨a, b⟩))) Or.inl
def CT (g : List en_E) : Prop := (∀ i : Int, 0 ≤ i → i < 12 → (eA g 2 i).toInt = (eA g 233 (10 + 3 * i)).toInt ∧ (eA g 3 i).toInt = (eA g 233 (10 + 3 * i + 1)).toInt ∧ (eA g 4 i).toInt = (eA g 233 (10 + 3 * i + 2)).toInt) ∧ (∀ i : Int, 0 ≤ i → i < 8 → (eA g 14 i).toInt = (eA g 233 (94 + 2 * i)).toInt ∧ (eA g 15 i).toInt = (eA g 233 (94 + 2 * i + 1)).toInt) ∧ (∀ i : Int, 0 ≤ i → i < 6 * (gI g 1 4).toInt → (eA g 5 i).toInt = (eA g 233 (46 + i)).toInt)
theorem CT.cong {g g' : List en_E} (h : CT g) (e2 : gA g' 2 = gA g 2) (e3 : gA g' 3 = gA g 3) (e4 : gA g' 4 = gA g 4) (e14 : gA g' 14 = gA g 14) (e15 : gA g' 15 = gA g 15) (e5 : gA g' 5 = gA g 5) (e233 : gA g' 233 = gA g 233) (eL : (gI g' 1 4).toInt = (gI g 1 4).toInt) : CT g' := ⟨fun i i0 i1 => ⟨(eA_ti e2).trans (((h.1 i i0 i1).1).trans (eA_ti e233).symm), (eA_ti e3).trans (((h.1 i i0 i1).2.1).trans (eA_ti e233).symm), (eA_ti e4).trans (((h.1 i i0 i1).2.2).trans (eA_ti e233).symm)⟩, fun i i0 i1 => ⟨(eA_ti e14).trans (((h.2.1 i i0 i1).1).trans (eA_ti e233).symm), (eA_ti e15).trans (((h.2.1 i i0 i1).2).trans (eA_ti e233).symm)⟩, fun i i0 i1 => (eA_ti e5).trans (((h.2.2 i i0 (by rw [← eL]; exact i1))).trans (eA_ti e233).symm)⟩
theorem CT.start : CT w_0 := ⟨fun i i0 i1 => ⟨(z_rep hx_2 i).trans (z_row hx_233 _ (by show 7 ≤ _; omega)).symm, (z_rep hx_3 i).trans (z_row hx_233 _ (by show 7 ≤ _; omega)).symm, (z_rep hx_4 i).trans (z_row hx_233 _ (by show 7 ≤ _; omega)).symm⟩, fun i i0 i1 => ⟨(z_rep hx_14 i).trans (z_row hx_233 _ (by show 7 ≤ _; omega)).symm, (z_rep hx_15 i).trans (z_row hx_233 _ (by show 7 ≤ _; omega)).symm⟩, fun i i0 i1 => (z_rep hx_5 i).trans (z_row hx_233 _ (by show 7 ≤ _; omega)).symm⟩
def CI0 (g : List en_E) : Prop := (∀ i : Int, 0 ≤ i → i < 12 → (eA g 60 i).toInt = (eA g 234 (10 + 3 * i)).toInt ∧ (eA g 61 i).toInt = (eA g 234 (10 + 3 * i + 1)).toInt ∧ (eA g 62 i).toInt = (eA g 234 (10 + 3 * i + 2)).toInt) ∧ (∀ i : Int, 0 ≤ i → i < 8 → (eA g 72 i).toInt = (eA g 234 (94 + 2 * i)).toInt ∧ (eA g 73 i).toInt = (eA g 234 (94 + 2 * i + 1)).toInt) ∧ (∀ i : Int, 0 ≤ i → i < 6 * (gI g 59 4).toInt → (eA g 63 i).toInt = (eA g 234 (46 + i)).toInt)
theorem CI0.cong {g g' : List en_E} (h : CI0 g) (e60 : gA g' 60 = gA g 60) (e61 : gA g' 61 = gA g 61) (e62 : gA g' 62 = gA g 62) (e72 : gA g' 72 = gA g 72) (e73 : gA g' 73 = gA g 73) (e63 : gA g' 63 = gA g 63) (e234 : gA g' 234 = gA g 234) (eL : (gI g' 59 4).toInt = (gI g 59 4).toInt) : CI0 g' := ⟨fun i i0 i1 => ⟨(eA_ti e60).trans (((h.1 i i0 i1).1).trans (eA_ti e234).symm), (eA_ti e61).trans (((h.1 i i0 i1).2.1).trans (eA_ti e234).symm), (eA_ti e62).trans (((h.1 i i0 i1).2.2).trans (eA_ti e234).symm)⟩, fun i i0 i1 => ⟨(eA_ti e72).trans (((h.2.1 i i0 i1).1).trans (eA_ti e234).symm), (eA_ti e73).trans (((h.2.1 i i0 i1).2).trans (eA_ti e234).symm)⟩, fun i i0 i1 => (eA_ti e63).trans (((h.2.2 i i0 (by rw [← eL]; exact i1))).trans (eA_ti e234).symm)⟩
theorem CI0.start : CI0 w_0 := ⟨fun i i0 i1 => ⟨(z_rep hx_60 i).trans (z_rep hx_234 _).symm, (z_rep hx_61 i).trans (z_rep hx_234 _).symm, (z_rep hx_62 i).trans (z_rep hx_234 _).symm⟩, fun i i0 i1 => ⟨(z_rep hx_72 i).trans (z_rep hx_234 _).symm, (z_rep hx_73 i).trans (z_rep hx_234 _).symm⟩, fun i i0 i1 => (z_rep hx_63 i).trans (z_rep hx_234 _).symm⟩
def CI1 (g : List en_E) : Prop := (∀ i : Int, 0 ≤ i → i < 12 → (eA g 117 i).toInt = (eA g 234 (5510 + (10 + 3 * i))).toInt ∧ (eA g 118 i).toInt = (eA g 234 (5510 + (10 + 3 * i + 1))).toInt ∧ (eA g 119 i).toInt = (eA g 234 (5510 + (10 + 3 * i + 2))).toInt) ∧ (∀ i : Int, 0 ≤ i → i < 8 → (eA g 129 i).toInt = (eA g 234 (5510 + (94 + 2 * i))).toInt ∧ (eA g 130 i).toInt = (eA g 234 (5510 + (94 + 2 * i + 1))).toInt) ∧ (∀ i : Int, 0 ≤ i → i < 6 * (gI g 116 4).toInt → (eA g 120 i).toInt = (eA g 234 (5510 + (46 + i))).toInt)
theorem CI1.cong {g g' : List en_E} (h : CI1 g) (e117 : gA g' 117 = gA g 117) (e118 : gA g' 118 = gA g 118) (e119 : gA g' 119 = gA g 119) (e129 : gA g' 129 = gA g 129) (e130 : gA g' 130 = gA g 130) (e120 : gA g' 120 = gA g 120) (e234 : gA g' 234 = gA g 234) (eL : (gI g' 116 4).toInt = (gI g 116 4).toInt) : CI1 g' := ⟨fun i i0 i1 => ⟨(eA_ti e117).trans (((h.1 i i0 i1).1).trans (eA_ti e234).symm), (eA_ti e118).trans (((h.1 i i0 i1).2.1).trans (eA_ti e234).symm), (eA_ti e119).trans (((h.1 i i0 i1).2.2).trans (eA_ti e234).symm)⟩, fun i i0 i1 => ⟨(eA_ti e129).trans (((h.2.1 i i0 i1).1).trans (eA_ti e234).symm), (eA_ti e130).trans (((h.2.1 i i0 i1).2).trans (eA_ti e234).symm)⟩, fun i i0 i1 => (eA_ti e120).trans (((h.2.2 i i0 (by rw [← eL]; exact i1))).trans (eA_ti e234).symm)⟩
theorem CI1.start : CI1 w_0 := ⟨fun i i0 i1 => ⟨(z_rep hx_117 i).trans (z_rep hx_234 _).symm, (z_rep hx_118 i).trans (z_rep hx_234 _).symm, (z_rep hx_119 i).trans (z_rep hx_234 _).symm⟩, fun i i0 i1 => ⟨(z_rep hx_129 i).trans (z_rep hx_234 _).symm, (z_rep hx_130 i).trans (z_rep hx_234 _).symm⟩, fun i i0 i1 => (z_rep hx_120 i).trans (z_rep hx_234 _).symm⟩
theorem NX.eq {g : List en_E} (h : CT g) (e : (gI g 1 0).toInt = (eA g 233 0).toInt) (hI : HI g) (s : Int) : NX g s = NM g s := by
  unfold NX NM nxv
  have t := hI.t0
  by_cases k : 0 ≤ s ∧ s < (gI g 1 0).toInt
  · have o := (h.1 s (by omega) (by omega)).1
    simp only [o, e]
  · rw [if_neg (fun c => k c.1), if_neg (fun c => k (by rw [e]; exact c.1))]
theorem MEET.law {g g1 : List en_E} (h : CT g) (e : (gI g 1 0).toInt = (eA g 233 0).toInt) (hI : HI g) (f : gA g1 233 = gA g 233) {o p w r r' : Int} (ho : 0 ≤ o ∧ o < (gI g 1 0).toInt) (hp : 0 ≤ p ∧ p < (gI g 1 0).toInt) (a : MEET (NX g) 144 o p w r) (b : MEET (NMq g1) 99 o p w r') : r = r' := by
  have t := hI.t0
  have f0 := eA_ti (j := 0) f
  have b1 := MEET.q (g := g1) (Or.inr (by omega)) (Or.inr (by omega)) b
  have a1 := MEET.c (fun s => (NX.eq h e hI s).trans (NM.c (s := s) f).symm) a
  exact MEET.same (NM.e g1) (fun s => (NM.rg g1 s).imp_right (fun z => by omega)) (by decide) (by decide) (Or.inr (by omega)) (Or.inr (by omega)) a1 b1
theorem THIEF.law {g g1 : List en_E} (h : CT g) (e : (gI g 1 0).toInt = (eA g 233 0).toInt) (e4 : (gI g 1 12).toInt = (eA g 233 4).toInt) (hI : HI g) (f : gA g1 233 = gA g 233) : (ACI (FITX g) (gI g 1 0).toInt).toInt = (ACI (FITM g1 (eA g1 233 4).toInt) (eA g1 233 0).toInt).toInt := by
  have t := hI.t0
  have t4 := hI.t4
  have f0 := eA_ti (j := 0) f
  have f4 := eA_ti (j := 4) f
  rw [f0, f4, ← e, ← e4]
  congr 1
  refine ACI.c (fun s s0 s1 => forall_congr' (fun k => forall_congr' (fun k0 => forall_congr' (fun k1 => ?_))))
  have o := (h.2.1) k k0 (by omega)
  rw [eA_ti f, eA_ti f, NMq.eqI (g := g1) (Or.inr ⟨s0, by omega⟩), ← o.1, ← o.2, itI_c (fun s => (NX.eq h e hI s).trans (NM.c (s := s) f).symm)]
def RT (g : List en_E) : Prop := ∀ i : Int, 0 ≤ i → i < (gI g 174 1).toInt → (eA g 175 i).toInt = (eA g 236 i).toInt
theorem RT.start : RT w_0 := fun i i0 i1 => (z_rep hx_175 i).trans (z_rep hx_236 i).symm
theorem ROW.law {g g1 : List en_E} (hT : RT g) (e0 : (gI g 1 0).toInt = (eA g 233 0).toInt) (e1 : (gI g 1 4).toInt = (eA g 233 1).toInt) (et : (gI g 174 1).toInt = (gI g 231 8).toInt) (f : gA g1 233 = gA g 233) (f6 : gA g1 236 = gA g 236) (ft : gI g1 231 8 = gI g 231 8) : RLI (fun i : Int => (eA g 175 i).toInt) (gI g 174 1).toInt (gI g 1 0).toInt (gI g 1 4).toInt (6 * (((gI g 174 1).toInt + 5) / 6)) = RLI (fun i : Int => (eA g1 236 i).toInt) (gI g1 231 8).toInt (eA g1 233 0).toInt (eA g1 233 1).toInt (6 * (((gI g1 231 8).toInt + 5) / 6)) := by
  rw [ft, eA_ti f, eA_ti f, ← et, ← e0, ← e1]
  exact rl_N.c (fun i i0 i1 => (hT i i0 i1).trans (eA_ti f6).symm) _
theorem WAY.law {g g1 : List en_E} (h : CT g) (e0 : (gI g 1 0).toInt = (eA g 233 0).toInt) (e1 : (gI g 1 4).toInt = (eA g 233 1).toInt) (hI : HI g) (f : gA g1 233 = gA g 233) {l i r r' : Int} (hl : 0 ≤ l ∧ l < (gI g 1 4).toInt) (a : (0 ≤ l ∧ l < (gI g 1 4).toInt) → (eA g 5 (6 * l + 2)).toInt ≠ -1 → WAYA (NX g) 11 (eA g 5 (6 * l + 1)).toInt (eA g 5 (6 * l + 2)).toInt i r) (b : (0 ≤ l ∧ l < (eA g1 233 1).toInt) → (eA g1 233 (46 + (6 * l + 2))).toInt ≠ -1 → WAYA (NMq g1) 12 (eA g1 233 (46 + (6 * l + 1))).toInt (eA g1 233 (46 + (6 * l + 2))).toInt i r') : r = r' := by
  have t0 := hI.t0
  have t1 := hI.t1
  have o1 := h.2.2 (6 * l + 1) (by omega) (by omega)
  have o2 := h.2.2 (6 * l + 2) (by omega) (by omega)
  have w1 := hI.l1 (j := 46 + (6 * l + 1)) l (by omega) (by omega)
  have w2 := hI.l2 (j := 46 + (6 * l + 2)) l (by omega) (by omega)
  have f0 := eA_ti (j := 0) f
  have a1 := a hl (by rw [o2]; omega)
  have b1 := b (by rw [eA_ti f]; omega) (by rw [eA_ti f]; omega)
  rw [o1, o2] at a1
  rw [eA_ti f, eA_ti f] at b1
  have b2 := WAYA.q (g := g1) (Or.inr (by omega)) b1
  have a2 := WAYA.c (fun s => (NX.eq h e0 hI s).trans (NM.c (s := s) f).symm) a1
  exact WAYA.same (NM.e g1) (fun s => (NM.rg g1 s).imp_right (fun z => by omega)) (by decide) (by decide) (Or.inr (by omega)) (by omega) a2 b2
theorem SM.c {g g1 : List en_E} (f : gA g1 233 = gA g 233) : SM g1 = SM g := funext (fun s => by unfold SM; exact eA_ti f)
theorem PCE.law {g g1 : List en_E} (h : CT g) (e0 : (gI g 1 0).toInt = (eA g 233 0).toInt) (e1 : (gI g 1 4).toInt = (eA g 233 1).toInt) (hI : HI g) (f : gA g1 233 = gA g 233) {l : Int} {r r' : Int32} (hl : 0 ≤ l ∧ l < (gI g 1 4).toInt) (a : (0 ≤ l ∧ l < (gI g 1 4).toInt) → (eA g 5 (6 * l + 2)).toInt ≠ -1 → PCE (NX g) (SX g) 11 (eA g 5 (6 * l + 1)).toInt (eA g 5 (6 * l + 2)).toInt (eA g 5 (6 * l + 0)).toInt r) (b : (0 ≤ l ∧ l < (eA g1 233 1).toInt) → (eA g1 233 (46 + (6 * l + 2))).toInt ≠ -1 → PCE (NMq g1) (SM g1) 12 (eA g1 233 (46 + (6 * l + 1))).toInt (eA g1 233 (46 + (6 * l + 2))).toInt (eA g1 233 (46 + (6 * l + 0))).toInt r') : r = r' := by
  have t0 := hI.t0
  have t1 := hI.t1
  have o0 := h.2.2 (6 * l + 0) (by omega) (by omega)
  have o1 := h.2.2 (6 * l + 1) (by omega) (by omega)
  have o2 := h.2.2 (6 * l + 2) (by omega) (by omega)
  have w1 := hI.l1 (j := 46 + (6 * l + 1)) l (by omega) (by omega)
  have w2 := hI.l2 (j := 46 + (6 * l + 2)) l (by omega) (by omega)
  have f0 := eA_ti (j := 0) f
  have a1 := a hl (by rw [o2]; omega)
  have b1 := b (by rw [eA_ti f]; omega) (by rw [eA_ti f]; omega)
  rw [o0, o1, o2] at a1
  rw [eA_ti f, eA_ti f, eA_ti f, SM.c f] at b1
  have b2 := PCE.q (g := g1) (Or.inr (by omega)) b1
  have a2 := PCE.c (fun s => (NX.eq h e0 hI s).trans (NM.c (s := s) f).symm) a1
  exact PCE.same (NM.e g1) (fun s => (NM.rg g1 s).imp_right (fun z => by omega)) (fun s s0 s1 => (h.1 s s0 s1).2.1) (by decide) (by decide) (Or.inr (by omega)) (by omega) a2 b2
theorem ROWF.law {g g1 : List en_E} (hT : RT g) (e0 : (gI g 1 0).toInt = (eA g 233 0).toInt) (e1 : (gI g 1 4).toInt = (eA g 233 1).toInt) (et : (gI g 174 1).toInt = (gI g 231 8).toInt) (f : gA g1 233 = gA g 233) (f6 : gA g1 236 = gA g 236) (ft : gI g1 231 8 = gI g 231 8) (hC : ∀ i : Int, 0 ≤ i → i < 6 * (gI g 1 4).toInt → (eA g 5 i).toInt = (eA g 233 (46 + i)).toInt) {j j' : Int} (h0 : 0 ≤ j) (hj : j < 6 * RLI (fun i : Int => (eA g 175 i).toInt) (gI g 174 1).toInt (gI g 1 0).toInt (gI g 1 4).toInt (6 * (((gI g 174 1).toInt + 5) / 6))) (ej : j' = j) : RFI (fun i : Int => (eA g 175 i).toInt) (gI g 174 1).toInt (gI g 1 0).toInt (gI g 1 4).toInt (fun i : Int => (eA g 5 i).toInt) (6 * (((gI g 174 1).toInt + 5) / 6)) (j) = RFI (fun i : Int => (eA g1 236 i).toInt) (gI g1 231 8).toInt (eA g1 233 0).toInt (eA g1 233 1).toInt (fun i : Int => (eA g1 233 (46 + i)).toInt) (6 * (((gI g1 231 8).toInt + 5) / 6)) (j') := by
  subst ej
  rw [ft, eA_ti (j := 0) f, eA_ti (j := 1) f, ← et, ← e0, ← e1]
  exact rf_N.c (fun i i0 i1 => (hT i i0 i1).trans (eA_ti f6).symm) (fun j j0 j1 => (hC j j0 j1).trans (eA_ti f).symm) _ _ h0 hj
theorem BYX.start : BYX w_0 := fun i i0 i1 => by show 0 ≤ (eA w_0 175 i).toInt; rw [z_rep hx_175 i]; decide
theorem BYX.feed {g0 g' : List en_E} {a1 a2 a3 a4 a5 : Int32} (h : BYX g0) (q : (∀ i : Int, 0 ≤ i → i < 400 → (eA g' 175 (i)).toInt = if (gI g0 174 1).toInt ≤ 380 ∧ (gI g0 174 1).toInt + 0 ≤ i ∧ i < (gI g0 174 1).toInt + 4 then BYT a1 (i - (gI g0 174 1).toInt - 0) else if (gI g0 174 1).toInt ≤ 380 ∧ (gI g0 174 1).toInt + 4 ≤ i ∧ i < (gI g0 174 1).toInt + 8 then BYT a2 (i - (gI g0 174 1).toInt - 4) else if (gI g0 174 1).toInt ≤ 380 ∧ (gI g0 174 1).toInt + 8 ≤ i ∧ i < (gI g0 174 1).toInt + 12 then BYT a3 (i - (gI g0 174 1).toInt - 8) else if (gI g0 174 1).toInt ≤ 380 ∧ (gI g0 174 1).toInt + 12 ≤ i ∧ i < (gI g0 174 1).toInt + 16 then BYT a4 (i - (gI g0 174 1).toInt - 12) else if (gI g0 174 1).toInt ≤ 380 ∧ (gI g0 174 1).toInt + 16 ≤ i ∧ i < (gI g0 174 1).toInt + 20 then BYT a5 (i - (gI g0 174 1).toInt - 16) else (eA g0 175 (i)).toInt)) (hn : (380 < (gI g0 174 1).toInt ∧ (gI g' 174 1).toInt = (gI g0 174 1).toInt) ∨ ((gI g0 174 1).toInt ≤ 380 ∧ (gI g' 174 1).toInt = (gI g0 174 1).toInt + 20)) (h4 : (gI g' 174 1).toInt ≤ 400) : BYX g' := fun i i0 i1 => by
  have i2 : i < (gI g' 174 1).toInt := i1
  have x := q i i0 (by omega)
  show 0 ≤ (eA g' 175 i).toInt
  rw [x]
  by_cases c : i < (gI g0 174 1).toInt
  · rw [if_neg (by omega), if_neg (by omega), if_neg (by omega), if_neg (by omega), if_neg (by omega)]
    exact h i i0 c
  · rcases (show ((gI g0 174 1).toInt + 0 ≤ i ∧ i < (gI g0 174 1).toInt + 4) ∨ ((gI g0 174 1).toInt + 4 ≤ i ∧ i < (gI g0 174 1).toInt + 8) ∨ ((gI g0 174 1).toInt + 8 ≤ i ∧ i < (gI g0 174 1).toInt + 12) ∨ ((gI g0 174 1).toInt + 12 ≤ i ∧ i < (gI g0 174 1).toInt + 16) ∨ ((gI g0 174 1).toInt + 16 ≤ i ∧ i < (gI g0 174 1).toInt + 20) by omega) with k | k | k | k | k
    · rw [if_pos (by omega)]
      exact BYT.ge _ _
    · rw [if_neg (by omega), if_pos (by omega)]
      exact BYT.ge _ _
    · rw [if_neg (by omega), if_neg (by omega), if_pos (by omega)]
      exact BYT.ge _ _
    · rw [if_neg (by omega), if_neg (by omega), if_neg (by omega), if_pos (by omega)]
      exact BYT.ge _ _
    · rw [if_neg (by omega), if_neg (by omega), if_neg (by omega), if_neg (by omega), if_pos (by omega)]
      exact BYT.ge _ _
