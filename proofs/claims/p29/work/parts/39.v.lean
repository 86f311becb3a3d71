/-! ===== the same text on both sides ===== -/
theorem SKP.cg {T T' : Int → Int} {n i j : Int} (h : ∀ k, 0 ≤ k → k < n → T k = T' k) (h0 : 0 ≤ i) (a : SKP T n i j) : SKP T' n i j := by
  obtain ⟨a1, a2, a3, a4⟩ := a
  exact ⟨a1, a2, fun k k0 k1 => by rw [← h k (by omega) (by omega)]; exact a3 k k0 k1, fun q => by rw [← h j (by omega) q]; exact a4 q⟩
theorem RUNOF.cg {P : Int → Prop} {T T' : Int → Int} {n p e : Int} (h : ∀ k, 0 ≤ k → k < n → T k = T' k) (h0 : 0 ≤ p) (a : RUNOF P T n p e) : RUNOF P T' n p e := by
  obtain ⟨a1, a2, a3, a4⟩ := a
  exact ⟨a1, a2, fun k k0 k1 => by rw [← h k (by omega) (by omega)]; exact a3 k k0 k1, fun q => by rw [← h e (by omega) q]; exact a4 q⟩
theorem TKR.cg {T T' : Int → Int} {n p s e : Int} (h : ∀ k, 0 ≤ k → k < n → T k = T' k) (h0 : 0 ≤ p) (a : TKR T n p s e) : TKR T' n p s e := by
  rcases a with a | ⟨a1, a2, a3, a4⟩ | ⟨a1, a2, a3, a4⟩ | ⟨a1, a2, a3, a4, a5⟩
  · exact Or.inl a
  · exact Or.inr (Or.inl ⟨a1, by rw [← h p h0 a1]; exact a2, a3, a4.cg h h0⟩)
  · exact Or.inr (Or.inr (Or.inl ⟨a1, by rw [← h p h0 a1]; exact a2, a3, a4.cg h h0⟩))
  · exact Or.inr (Or.inr (Or.inr ⟨a1, by rw [← h p h0 a1]; exact a2, by rw [← h p h0 a1]; exact a3, a4, a5⟩))
theorem CDE.cg {T T' : Int → Int} {n p s e : Int} (h : ∀ k, 0 ≤ k → k < n → T k = T' k) (h0 : 0 ≤ p) (a : TKR T n p s e) : CDE T p s e = CDE T' p s e := by
  have l := a.le
  have hv : VAL T p e = VAL T' p e := VAL.c (n := n) (fun i i0 i1 => h i (by omega) (by omega))
  have hn : NUM T p e = NUM T' p e := NUM.c (n := n) (fun i i0 i1 => h i (by omega) (by omega))
  unfold CDE
  by_cases c0 : s = 0
  · rw [if_pos c0, if_pos c0]
  · have q : p < n := by
      have x := l.2.2.2.2.1
      have y := l.2.2.2.2.2 c0
      omega
    rw [if_neg c0, if_neg c0, hv, hn, h p h0 q]
theorem TOK.cg {T T' : Int → Int} {n p c q : Int} (h : ∀ k, 0 ≤ k → k < n → T k = T' k) (h0 : 0 ≤ p) (a : TOK T n p c q) : TOK T' n p c q ∧ 0 ≤ q := by
  obtain ⟨s, e, a1, a2, a3⟩ := a
  have l := a1.le
  exact ⟨⟨s, e, a1.cg h h0, a2.trans (CDE.cg h h0 a1), a3.cg h (by omega)⟩, by have := a3.1; omega⟩
/-- where a step leads to: on, or not -/
def PLC (q p : Int) (z : CF) : Prop := z.2.2.2.2 = q ∨ z.2.2.2.2 = p
theorem itep {P : CF → Prop} {c : Prop} [Decidable c] {a b : CF} (ha : P a) (hb : P b) : P (if c then a else b) := by
  by_cases h : c
  · rw [if_pos h]; exact ha
  · rw [if_neg h]; exact hb
theorem stf_plc (c q : Int) (z : CF) : PLC q z.2.2.2.2 (stf c q z) := by
  unfold stf BADC
  repeat' (first | exact Or.inl rfl | exact Or.inr rfl | refine itep (P := PLC q z.2.2.2.2) ?_ ?_)
theorem STP.cg {T T' : Int → Int} {n : Int} {a b : CF} (h : ∀ k, 0 ≤ k → k < n → T k = T' k) (h0 : 0 ≤ a.2.2.2.2) (s : STP T n a b) : STP T' n a b ∧ 0 ≤ b.2.2.2.2 := by
  obtain ⟨c, q, h1, h2⟩ := s
  have z := h1.cg h h0
  have y := stf_plc c q a
  rw [← h2] at y
  exact ⟨⟨c, q, z.1, h2⟩, by rcases y with e | e <;> rw [e] <;> first | exact z.2 | exact h0⟩
theorem rnN.cg {T T' : Int → Int} {n : Int} {b : CF} (h : ∀ k, 0 ≤ k → k < n → T k = T' k) : ∀ (k : Nat) {a : CF}, 0 ≤ a.2.2.2.2 → rnN T n k a b → rnN T' n k a b
  | 0, a, _, s => s
  | k + 1, a, h0, s => by
    obtain ⟨d, s1, s2⟩ := s
    have z := s1.cg h h0
    exact ⟨d, z.1, rnN.cg h k z.2 s2⟩
theorem RUN.cg {T T' : Int → Int} {n : Int} {a b : CF} (h : ∀ k, 0 ≤ k → k < n → T k = T' k) (h0 : 0 ≤ a.2.2.2.2) (s : RUN T n a b) : RUN T' n a b := by
  obtain ⟨k, s⟩ := s
  exact ⟨k, rnN.cg h k h0 s⟩
/-! ===== a law, on both sides ===== -/
def RQX (g g' : List en_E) (ok : Prop) : Prop := ∃ q, SKP (TX g) (nX g) 0 q ∧ ((ok ∧ rX g' 2 = -1 ∧ ∃ m k p, RUN (TX g) (nX g) (6, [], 0, 0, q) (9, [], m, k, p)) ∨ (¬ ok ∧ RUN (TX g) (nX g) (6, [], 0, 0, q) (BADC (rX g' 2))))
theorem RPX.rq {gc g1 g g' : List en_E} {r : Int} {ok : Prop} (h : RPX gc g1 r) (hT : gA gc 175 = gA g 175) (hn : gI gc 174 1 = gI g 174 1) (e2 : rX g' 2 = rX g1 2) (h1 : r = 1 → ok) (h0 : r = 0 → ¬ ok) : RQX g g' ok := by
  obtain ⟨q, a, b⟩ := h
  rw [TX.c hT, nX.c hn] at a b
  refine ⟨q, a, ?_⟩
  rw [e2]
  rcases b with ⟨b1, b2, b3⟩ | ⟨b1, b2, b3⟩
  · exact Or.inl ⟨h1 b1, b2, b3⟩
  · exact Or.inr ⟨h0 b1, b3⟩
def LWX (g g' : List en_E) (r : Int) : Prop := (6 ≤ (gI g 1 6).toInt ∧ r = -5 ∧ rX g' 2 = rX g 2 ∧ (gI g' 1 6).toInt = (gI g 1 6).toInt) ∨ ((gI g 1 6).toInt < 6 ∧ RQX g g' (r ≠ -6) ∧ ((r = -6 ∧ (gI g' 1 6).toInt = (gI g 1 6).toInt) ∨ (r = (gI g 1 6).toInt ∧ r ≠ -6 ∧ (gI g' 1 6).toInt = (gI g 1 6).toInt + 1)))
theorem LAW.rd {T T' : Int → Int} {n n' fx fm : Int} {okx okm : Prop} (hT : ∀ k, 0 ≤ k → k < n → T k = T' k) (hn : n' = n) (a : ∃ q, SKP T n 0 q ∧ ((okx ∧ fx = -1 ∧ ∃ m k p, RUN T n (6, [], 0, 0, q) (9, [], m, k, p)) ∨ (¬ okx ∧ RUN T n (6, [], 0, 0, q) (BADC fx)))) (b : ∃ q, SKP T' n' 0 q ∧ ((okm ∧ fm = -1 ∧ ∃ m k p, RUN T' n' (6, [], 0, 0, q) (9, [], m, k, p)) ∨ (¬ okm ∧ RUN T' n' (6, [], 0, 0, q) (BADC fm)))) : ((okx ∧ okm) ∨ (¬ okx ∧ ¬ okm)) ∧ fx = fm := by
  subst hn
  obtain ⟨q, a1, a2⟩ := a
  obtain ⟨q', b1, b2⟩ := b
  have e := (a1.cg hT (Int.le_refl 0)).u b1
  subst e
  have q0 : 0 ≤ q := a1.1
  rcases a2 with ⟨o, f, m, k, p, r⟩ | ⟨o, r⟩ <;> rcases b2 with ⟨o', f', m', k', p', r'⟩ | ⟨o', r'⟩
  · exact ⟨Or.inl ⟨o, o'⟩, f.trans f'.symm⟩
  · have z := (r.cg hT q0).u r' (Or.inr rfl) (Or.inl rfl)
    have z1 : (9 : Int) = 5 := congrArg Prod.fst z
    exact absurd z1 (by decide)
  · have z := (r.cg hT q0).u r' (Or.inl rfl) (Or.inr rfl)
    have z1 : (5 : Int) = 9 := congrArg Prod.fst z
    exact absurd z1 (by decide)
  · have z := (r.cg hT q0).u r' (Or.inl rfl) (Or.inl rfl)
    exact ⟨Or.inr ⟨o, o'⟩, congrArg (fun z : CF => z.2.2.2.2) z⟩
theorem LAW.eq {g g1 g2 : List en_E} {r r' : Int} (hI : HI g) (hT : ∀ i : Int, 0 ≤ i → i < (gI g 174 1).toInt → (eA g 175 i).toInt = (eA g 236 i).toInt) (et : (gI g 174 1).toInt = (gI g 231 8).toInt) (el : (gI g 1 6).toInt = (eA g 233 2).toInt) (ef : (gI g 176 2).toInt = (gI g 231 13).toInt) (f3 : gA g1 233 = gA g 233) (f6 : gA g1 236 = gA g 236) (f8 : gI g1 231 8 = gI g 231 8) (f13 : gI g1 231 13 = gI g 231 13) (a : LWX g g1 r) (b : LWM g1 g2 r') : r = r' ∧ (gI g1 1 6).toInt = (eA g2 233 2).toInt ∧ (gI g1 176 2).toInt = (gI g2 231 13).toInt := by
  have t2 := hI.t2
  have e2 : (eA g1 233 2).toInt = (eA g 233 2).toInt := eA_ti f3
  have e13 : pI g1 13 = pI g 13 := pI.c f13
  have e13' : pI g 13 = (gI g 231 13).toInt := rfl
  have x1 : rX g1 2 = (gI g1 176 2).toInt := rfl
  have x0 : rX g 2 = (gI g 176 2).toInt := rfl
  have m2 : pI g2 13 = (gI g2 231 13).toInt := rfl
  rcases a with ⟨a1, a2, a3, a4⟩ | ⟨a1, a2, a3⟩ <;> rcases b with ⟨b1, b2, b3, b4⟩ | ⟨b1, b2, b3⟩
  · exact ⟨by omega, by omega, by omega⟩
  · exfalso; omega
  · exfalso; omega
  · have hT2 : ∀ k, 0 ≤ k → k < nX g → TX g k = TM g1 k := fun k k0 k1 => by
      rw [TM.c f6]
      exact hT k k0 k1
    have hn : nM g1 = nX g := by
      rw [nM.c f8]
      exact et.symm
    have z := LAW.rd hT2 hn a2 b2
    have zf := z.2
    refine ⟨?_, ?_, by omega⟩
    · rcases z.1 with ⟨z1, z2⟩ | ⟨z1, z2⟩ <;> rcases a3 with a3 | a3 <;> rcases b3 with b3 | b3 <;> omega
    · rcases z.1 with ⟨z1, z2⟩ | ⟨z1, z2⟩ <;> rcases a3 with a3 | a3 <;> rcases b3 with b3 | b3 <;> omega
theorem and255 (v : Int32) : 0 ≤ (v &&& 255).toInt := by
  have h : (v &&& 255 : Int32).toBitVec.toNat ≤ 255 := by
    show (v.toBitVec &&& 255#32).toNat ≤ 255
    rw [BitVec.toNat_and]
    exact Nat.and_le_right
  show 0 ≤ (v &&& 255 : Int32).toBitVec.toInt
  rw [BitVec.toInt_eq_toNat_of_lt (by omega)]
  omega
theorem BYT.ge (a : Int32) (q : Int) : 0 ≤ BYT a q := and255 _
