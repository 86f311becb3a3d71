/-- the numbers of a kept image -/
def IM0 (g : List en_E) : Prop := (eA g 173 0).toInt ≠ 0 → (gI g 59 0).toInt = (eA g 234 0).toInt ∧ (gI g 59 12).toInt = (eA g 234 4).toInt ∧ (gI g 59 10).toInt = (eA g 234 5).toInt ∧ (gI g 59 11).toInt = (eA g 234 6).toInt
theorem IM0.cong {g g' : List en_E} (h : IM0 g) (h0 : (eA g' 173 0).toInt = (eA g 173 0).toInt) (e0 : (gI g' 59 0).toInt = (gI g 59 0).toInt) (e1 : (eA g' 234 0).toInt = (eA g 234 0).toInt) (e2 : (gI g' 59 12).toInt = (gI g 59 12).toInt) (e3 : (eA g' 234 4).toInt = (eA g 234 4).toInt) (e4 : (gI g' 59 10).toInt = (gI g 59 10).toInt) (e5 : (eA g' 234 5).toInt = (eA g 234 5).toInt) (e6 : (gI g' 59 11).toInt = (gI g 59 11).toInt) (e7 : (eA g' 234 6).toInt = (eA g 234 6).toInt) : IM0 g' := fun k => by
  have z := h (by rw [← h0]; exact k)
  rw [e0, e1, e2, e3, e4, e5, e6, e7]
  exact z
/-- the numbers of a kept image -/
def IM1 (g : List en_E) : Prop := (eA g 173 1).toInt ≠ 0 → (gI g 116 0).toInt = (eA g 234 5510).toInt ∧ (gI g 116 12).toInt = (eA g 234 5514).toInt ∧ (gI g 116 10).toInt = (eA g 234 5515).toInt ∧ (gI g 116 11).toInt = (eA g 234 5516).toInt
theorem IM1.cong {g g' : List en_E} (h : IM1 g) (h0 : (eA g' 173 1).toInt = (eA g 173 1).toInt) (e0 : (gI g' 116 0).toInt = (gI g 116 0).toInt) (e1 : (eA g' 234 5510).toInt = (eA g 234 5510).toInt) (e2 : (gI g' 116 12).toInt = (gI g 116 12).toInt) (e3 : (eA g' 234 5514).toInt = (eA g 234 5514).toInt) (e4 : (gI g' 116 10).toInt = (gI g 116 10).toInt) (e5 : (eA g' 234 5515).toInt = (eA g 234 5515).toInt) (e6 : (gI g' 116 11).toInt = (gI g 116 11).toInt) (e7 : (eA g' 234 5516).toInt = (eA g 234 5516).toInt) : IM1 g' := fun k => by
  have z := h (by rw [← h0]; exact k)
  rw [e0, e1, e2, e3, e4, e5, e6, e7]
  exact z
def CT (g : List en_E) : Prop := (∀ i : Int, 0 ≤ i → i < 12 → (eA g 2 i).toInt = (eA g 233 (10 + 3 * i)).toInt ∧ (eA g 3 i).toInt = (eA g 233 (10 + 3 * i + 1)).toInt ∧ (eA g 4 i).toInt = (eA g 233 (10 + 3 * i + 2)).toInt) ∧ (∀ i : Int, 0 ≤ i → i < 8 → (eA g 14 i).toInt = (eA g 233 (94 + 2 * i)).toInt ∧ (eA g 15 i).toInt = (eA g 233 (94 + 2 * i + 1)).toInt)
theorem CT.cong {g g' : List en_E} (h : CT g) (e2 : gA g' 2 = gA g 2) (e3 : gA g' 3 = gA g 3) (e4 : gA g' 4 = gA g 4) (e14 : gA g' 14 = gA g 14) (e15 : gA g' 15 = gA g 15) (e233 : gA g' 233 = gA g 233) : CT g' := ⟨fun i i0 i1 => ⟨(eA_ti e2).trans (((h.1 i i0 i1).1).trans (eA_ti e233).symm), (eA_ti e3).trans (((h.1 i i0 i1).2.1).trans (eA_ti e233).symm), (eA_ti e4).trans (((h.1 i i0 i1).2.2).trans (eA_ti e233).symm)⟩, fun i i0 i1 => ⟨(eA_ti e14).trans (((h.2 i i0 i1).1).trans (eA_ti e233).symm), (eA_ti e15).trans (((h.2 i i0 i1).2).trans (eA_ti e233).symm)⟩⟩
theorem CT.start : CT w_0 := ⟨fun i i0 i1 => ⟨(z_rep hx_2 i).trans (z_row hx_233 _ (by show 7 ≤ _; omega)).symm, (z_rep hx_3 i).trans (z_row hx_233 _ (by show 7 ≤ _; omega)).symm, (z_rep hx_4 i).trans (z_row hx_233 _ (by show 7 ≤ _; omega)).symm⟩, fun i i0 i1 => ⟨(z_rep hx_14 i).trans (z_row hx_233 _ (by show 7 ≤ _; omega)).symm, (z_rep hx_15 i).trans (z_row hx_233 _ (by show 7 ≤ _; omega)).symm⟩⟩
def CI0 (g : List en_E) : Prop := (∀ i : Int, 0 ≤ i → i < 12 → (eA g 60 i).toInt = (eA g 234 (10 + 3 * i)).toInt ∧ (eA g 61 i).toInt = (eA g 234 (10 + 3 * i + 1)).toInt ∧ (eA g 62 i).toInt = (eA g 234 (10 + 3 * i + 2)).toInt) ∧ (∀ i : Int, 0 ≤ i → i < 8 → (eA g 72 i).toInt = (eA g 234 (94 + 2 * i)).toInt ∧ (eA g 73 i).toInt = (eA g 234 (94 + 2 * i + 1)).toInt)
theorem CI0.cong {g g' : List en_E} (h : CI0 g) (e60 : gA g' 60 = gA g 60) (e61 : gA g' 61 = gA g 61) (e62 : gA g' 62 = gA g 62) (e72 : gA g' 72 = gA g 72) (e73 : gA g' 73 = gA g 73) (e234 : gA g' 234 = gA g 234) : CI0 g' := ⟨fun i i0 i1 => ⟨(eA_ti e60).trans (((h.1 i i0 i1).1).trans (eA_ti e234).symm), (eA_ti e61).trans (((h.1 i i0 i1).2.1).trans (eA_ti e234).symm), (eA_ti e62).trans (((h.1 i i0 i1).2.2).trans (eA_ti e234).symm)⟩, fun i i0 i1 => ⟨(eA_ti e72).trans (((h.2 i i0 i1).1).trans (eA_ti e234).symm), (eA_ti e73).trans (((h.2 i i0 i1).2).trans (eA_ti e234).symm)⟩⟩
theorem CI0.start : CI0 w_0 := ⟨fun i i0 i1 => ⟨(z_rep hx_60 i).trans (z_rep hx_234 _).symm, (z_rep hx_61 i).trans (z_rep hx_234 _).symm, (z_rep hx_62 i).trans (z_rep hx_234 _).symm⟩, fun i i0 i1 => ⟨(z_rep hx_72 i).trans (z_rep hx_234 _).symm, (z_rep hx_73 i).trans (z_rep hx_234 _).symm⟩⟩
def CI1 (g : List en_E) : Prop := (∀ i : Int, 0 ≤ i → i < 12 → (eA g 117 i).toInt = (eA g 234 (5510 + (10 + 3 * i))).toInt ∧ (eA g 118 i).toInt = (eA g 234 (5510 + (10 + 3 * i + 1))).toInt ∧ (eA g 119 i).toInt = (eA g 234 (5510 + (10 + 3 * i + 2))).toInt) ∧ (∀ i : Int, 0 ≤ i → i < 8 → (eA g 129 i).toInt = (eA g 234 (5510 + (94 + 2 * i))).toInt ∧ (eA g 130 i).toInt = (eA g 234 (5510 + (94 + 2 * i + 1))).toInt)
theorem CI1.cong {g g' : List en_E} (h : CI1 g) (e117 : gA g' 117 = gA g 117) (e118 : gA g' 118 = gA g 118) (e119 : gA g' 119 = gA g 119) (e129 : gA g' 129 = gA g 129) (e130 : gA g' 130 = gA g 130) (e234 : gA g' 234 = gA g 234) : CI1 g' := ⟨fun i i0 i1 => ⟨(eA_ti e117).trans (((h.1 i i0 i1).1).trans (eA_ti e234).symm), (eA_ti e118).trans (((h.1 i i0 i1).2.1).trans (eA_ti e234).symm), (eA_ti e119).trans (((h.1 i i0 i1).2.2).trans (eA_ti e234).symm)⟩, fun i i0 i1 => ⟨(eA_ti e129).trans (((h.2 i i0 i1).1).trans (eA_ti e234).symm), (eA_ti e130).trans (((h.2 i i0 i1).2).trans (eA_ti e234).symm)⟩⟩
theorem CI1.start : CI1 w_0 := ⟨fun i i0 i1 => ⟨(z_rep hx_117 i).trans (z_rep hx_234 _).symm, (z_rep hx_118 i).trans (z_rep hx_234 _).symm, (z_rep hx_119 i).trans (z_rep hx_234 _).symm⟩, fun i i0 i1 => ⟨(z_rep hx_129 i).trans (z_rep hx_234 _).symm, (z_rep hx_130 i).trans (z_rep hx_234 _).symm⟩⟩
theorem NX.eq {g : List en_E} (h : CT g) (e : (gI g 1 0).toInt = (eA g 233 0).toInt) (hI : HI g) (s : Int) : NX g s = NM g s := by
  unfold NX NM nxv
  have t := hI.t0
  by_cases k : 0 ≤ s ∧ s < (gI g 1 0).toInt
  · have o := (h.1 s (by omega) (by omega)).1
    simp only [o, e]
  · rw [if_neg (fun c => k c.1), if_neg (fun c => k (by rw [e]; exact c.1))]
theorem MEET.law {g g1 : List en_E} (h : CT g) (e : (gI g 1 0).toInt = (eA g 233 0).toInt) (hI : HI g) (f : gA g1 233 = gA g 233) {o p w r r' : Int} (ho : 0 ≤ o ∧ o < (gI g 1 0).toInt) (hp : 0 ≤ p ∧ p < (gI g 1 0).toInt) (a : MEET (NX g) 144 o p w r) (b : MEET (NMq g1) 99 o p w r') : r = r' := by
  have t := hI.t0
  have f0 := eA_ti (j := 0) f
  have b1 := MEET.q (g := g1) (Or.inr (by omega)) (Or.inr (by omega)) b
  have a1 := MEET.c (fun s => (NX.eq h e hI s).trans (NM.c (s := s) f).symm) a
  exact MEET.same (NM.e g1) (fun s => (NM.rg g1 s).imp_right (fun z => by omega)) (by decide) (by decide) (Or.inr (by omega)) (Or.inr (by omega)) a1 b1
theorem THIEF.law {g g1 : List en_E} (h : CT g) (e : (gI g 1 0).toInt = (eA g 233 0).toInt) (e4 : (gI g 1 12).toInt = (eA g 233 4).toInt) (hI : HI g) (f : gA g1 233 = gA g 233) : (ACI (FITX g) (gI g 1 0).toInt).toInt = (ACI (FITM g1 (eA g1 233 4).toInt) (eA g1 233 0).toInt).toInt := by
  have t := hI.t0
  have t4 := hI.t4
  have f0 := eA_ti (j := 0) f
  have f4 := eA_ti (j := 4) f
  rw [f0, f4, ← e, ← e4]
  congr 1
  refine ACI.c (fun s s0 s1 => forall_congr' (fun k => forall_congr' (fun k0 => forall_congr' (fun k1 => ?_))))
  have o := (h.2) k k0 (by omega)
  rw [eA_ti f, eA_ti f, NMq.eqI (g := g1) (Or.inr ⟨s0, by omega⟩), ← o.1, ← o.2, itI_c (fun s => (NX.eq h e hI s).trans (NM.c (s := s) f).symm)]
