/-! ===== what heads a law speaks of ===== -/
theorem hb_bit (v : Int32) : (v &&& 1).toInt ≠ 0 ↔ v.toBitVec.getLsbD 0 = true := by
  have z := and1_01 v
  have h4 : (v &&& 1 : Int32).toBitVec = v.toBitVec &&& 1#32 := rfl
  constructor
  · intro h
    have h1 : (v &&& 1).toInt = 1 := z.resolve_left h
    have h2 : (v &&& 1 : Int32) = 1 := Int32.toInt_inj.mp (h1.trans rfl)
    have h3 : (v &&& 1 : Int32).toBitVec.getLsbD 0 = true := by rw [h2]; rfl
    rw [h4, BitVec.getLsbD_and, Bool.and_eq_true] at h3
    exact h3.1
  · intro h h0
    have h2 : (v &&& 1 : Int32) = 0 := Int32.toInt_inj.mp (h0.trans rfl)
    have h3 : (v &&& 1 : Int32).toBitVec.getLsbD 0 = false := by rw [h2]; rfl
    rw [h4, BitVec.getLsbD_and, h] at h3
    exact absurd h3 (by decide)
theorem hb1 (w : Int32) : hbI w 1 ↔ w.toBitVec.getLsbD 1 = true := by
  unfold hbI
  rw [hb_bit]
  have e : (w >>> (Int32.ofInt 1 &&& 31)).toBitVec.getLsbD 0 = w.toBitVec.getLsbD 1 := by
    rw [Int32.toBitVec_shiftRight]
    show (w.toBitVec.sshiftRight 1).getLsbD 0 = _
    rw [BitVec.getLsbD_sshiftRight]
    rfl
  rw [e]
theorem hb1_or {w v c : Int32} (h : v = w ||| c) : hbI v 1 ↔ (w.toBitVec.getLsbD 1 || c.toBitVec.getLsbD 1) = true := by
  subst h
  have e : (w ||| c : Int32).toBitVec = w.toBitVec ||| c.toBitVec := rfl
  rw [hb1, e, BitVec.getLsbD_or]
/-- a law that doesn't speak of fees has no such clause -/
def SPK (g : List en_E) : Prop := ¬ hbI (gI g 177 4) 1 → ∀ i : Int, 0 ≤ i → i < kX g → hcX g i ≠ 1
def SPP (g g' : List en_E) : Prop := SPK g → 0 ≤ kX g → SPK g'
theorem SPK_z {g : List en_E} (h : kX g ≤ 0) : SPK g := fun _ i i0 i1 => absurd i1 (by omega)
theorem SPK_c {g g' : List en_E} (h : SPK g) (e4 : gI g' 177 4 = gI g 177 4) (a : gA g' 180 = gA g 180) (k : gI g' 177 3 = gI g 177 3) : SPK g' := by
  unfold SPK hcX kX at *
  rw [e4, k]
  intro hb i i0 i1
  rw [eA_tq a]
  exact h hb i i0 i1
theorem SPP_same {g g' : List en_E} (e4 : gI g' 177 4 = gI g 177 4) (a : gA g' 180 = gA g 180) (k : gI g' 177 3 = gI g 177 3) : SPP g g' := fun h _ => SPK_c h e4 a k
theorem SPP_new {g g' : List en_E} {w v c : Int32} {h : Int} (hw : gI g 177 4 = w) (hv : gI g' 177 4 = v) (ho : v = w ||| c) (hc : (h = 0 ∧ c = 1) ∨ (h = 1 ∧ c = 2) ∨ (h = 2 ∧ c = 4)) (k : kX g' = kX g + 1) (x : hcX g' (kX g) = h) (n : ∀ i : Int, 0 ≤ i → i < kX g → hcX g' i = hcX g i) : SPP g g' := fun s k0 hb i i0 i1 => by
  rw [hv, hb1_or ho, Bool.or_eq_true] at hb
  have hb0 : ¬ hbI (gI g 177 4) 1 := by
    rw [hw, hb1]
    exact fun z => hb (Or.inl z)
  by_cases e : i = kX g
  · rw [e, x]
    rcases hc with hc | hc | hc
    · omega
    · exact absurd (Or.inr (by rw [hc.2]; rfl)) hb
    · omega
  · rw [n i i0 (by omega)]
    exact s hb0 i i0 (by omega)
/-! ===== laws kept: all three bazaars, both sides ===== -/
def RLN (g : List en_E) (j : Int) : Int := (eA g 233 (110 + j)).toInt
def RL0 (g : List en_E) (j : Int) : Int := (eA g 234 (110 + j)).toInt
def RL1 (g : List en_E) (j : Int) : Int := (eA g 234 (5510 + (110 + j))).toInt
/-- all laws as they were -/
def LSA (g g' : List en_E) : Prop := ∀ o : Nat, Lw o → LSM g g' o o
theorem LSA_rf {g : List en_E} : LSA g g := fun _ _ => LSM_rf
theorem LSA_tr {g g1 g2 : List en_E} (h : LSA g g1) (k : LSA g1 g2) : LSA g g2 := fun o ho => LSM_tr (h o ho) (k o ho)
theorem LSA_fr {F : List (Nat × Nat)} {A : List Nat} {g g' : List en_E} (h : Fr F A g g') (hd : Lws.all (fun o => lawF F A o) = true) : LSA g g' := fun o ho => LSM_fr h (memA_all ho (P := fun o => lawF F A o) hd)
theorem LSA_I {g : List en_E} {p b : Nat} {v : Int32} (h : Lws.all (fun o => p != o) = true) : LSA g (sI g p b v) := fun o ho => by
  have n : p ≠ o := by
    have z := memA_all ho (P := fun o => p != o) h
    exact bne_iff_ne.mp z
  exact ⟨fun k k1 k6 => gA_sI, gI_sI_ne (fun z => n z.1), gI_sI_ne (fun z => n z.1), gI_sI_ne (fun z => n z.1)⟩
theorem LSA_W {g : List en_E} {p : Nat} {xs : List Int32} (h : Lws.all (fun o => p != o + 1 && p != o + 2 && p != o + 3 && p != o + 4 && p != o + 5 && p != o + 6) = true) : LSA g (sW g p xs) := fun o ho => by
  have z := memA_all ho (P := fun o => p != o + 1 && p != o + 2 && p != o + 3 && p != o + 4 && p != o + 5 && p != o + 6) h
  simp only [Bool.and_eq_true, bne_iff_ne, ne_eq] at z
  obtain ⟨⟨⟨⟨⟨z1, z2⟩, z3⟩, z4⟩, z5⟩, z6⟩ := z
  refine ⟨fun k k1 k6 => gA_sW_ne ?_, gI_sW, gI_sW, gI_sW⟩
  rcases (show k = 1 ∨ k = 2 ∨ k = 3 ∨ k = 4 ∨ k = 5 ∨ k = 6 by omega) with e | e | e | e | e | e <;> subst e <;> assumption
theorem LSA_A {g : List en_E} {p : Nat} {i : Int} {v : Int32} (h : Lws.all (fun o => p != o + 1 && p != o + 2 && p != o + 3 && p != o + 4 && p != o + 5 && p != o + 6) = true) : LSA g (sA g p i v) := LSA_W h
/-- where the law k of the bazaar B lies -/
def LATB (B : Nat) (k : Int) : Nat := if 0 ≤ k ∧ k < 6 then B + 15 + 7 * k.toNat else B + 6
theorem LATB_p {B : Nat} {k : Int} {p : Nat} (h : (k = 0 ∧ p = B + 15) ∨ (k = 1 ∧ p = B + 22) ∨ (k = 2 ∧ p = B + 29) ∨ (k = 3 ∧ p = B + 36) ∨ (k = 4 ∧ p = B + 43) ∨ (k = 5 ∧ p = B + 50) ∨ ((k < 0 ∨ 5 < k) ∧ p = B + 6)) : p = LATB B k := by
  unfold LATB
  by_cases c : 0 ≤ k ∧ k < 6
  · rw [if_pos c]
    omega
  · rw [if_neg c]
    omega
theorem LATX_B (k : Int) : LATX k = LATB 1 k := by
  by_cases c : 0 ≤ k ∧ k < 6
  · rcases (show k = 0 ∨ k = 1 ∨ k = 2 ∨ k = 3 ∨ k = 4 ∨ k = 5 by omega) with e | e | e | e | e | e <;> subst e <;> rfl
  · unfold LATX LATB
    rw [if_neg (show ¬ k = 0 by omega), if_neg (show ¬ k = 1 by omega), if_neg (show ¬ k = 2 by omega), if_neg (show ¬ k = 3 by omega), if_neg (show ¬ k = 4 by omega), if_neg (show ¬ k = 5 by omega), if_neg c]
theorem LATB_in {B : Nat} {k : Int} (h : 0 ≤ k ∧ k < 6) : LATB B k = B + 15 + 7 * k.toNat := if_pos h
def BZ (B : Nat) : Prop := B = 1 ∨ B = 59 ∨ B = 116
theorem BZ_lw {B j : Nat} (h : BZ B) (hj : j < 6) : Lw (B + 15 + 7 * j) := by
  rcases h with e | e | e <;> subst e <;> rcases (show j = 0 ∨ j = 1 ∨ j = 2 ∨ j = 3 ∨ j = 4 ∨ j = 5 by omega) with e | e | e | e | e | e <;> subst e <;> rfl
/-- the first k laws of me are ot's, the others as they were -/
def BCI (g0 g : List en_E) (me ot : Nat) (k : Int) : Prop := (∀ j : Nat, j < 6 → (j : Int) < k → LSM g0 g (me + 15 + 7 * j) (ot + 15 + 7 * j)) ∧ ∀ o : Nat, Lw o → (∀ j : Nat, j < 6 → (j : Int) < k → o ≠ me + 15 + 7 * j) → LSM g0 g o o
section BCIS
variable {g0 g g1 g2 : List en_E} {me ot q0 q1 : Nat} {k k2 : Int}
theorem BCI_z (h : LSA g0 g) (hk : k ≤ 0) : BCI g0 g me ot k := ⟨fun j _ h1 => absurd h1 (by omega), fun o ho _ => h o ho⟩
theorem BCI_c (h : BCI g0 g me ot k) (s : LSA g g1) (hm : BZ me) : BCI g0 g1 me ot k := ⟨fun j j6 jk => LSM_tr (h.1 j j6 jk) (s _ (BZ_lw hm j6)), fun o ho hn => LSM_tr (h.2 o ho hn) (s o ho)⟩
theorem BCI_s (h : BCI g0 g me ot k) (b : BEC g g1 q0 q1) (hm : BZ me) (ho : BZ ot) (hne : me ≠ ot) (h0 : 0 ≤ k) (h6 : k < 6) (e0 : q0 = LATB me k) (e1 : q1 = LATB ot k) (e : k2 = k + 1) : BCI g0 g1 me ot k2 := by
  rw [LATB_in ⟨h0, h6⟩] at e0 e1
  have sep : ∀ i j : Nat, i < 6 → j < 6 → ot + 15 + 7 * i ≠ me + 15 + 7 * j := by
    intro i j i6 j6
    rcases hm with a | a | a <;> rcases ho with c | c | c <;> subst a <;> subst c <;> omega
  refine ⟨fun j j6 jk => ?_, fun o hl hn => ?_⟩
  · by_cases c : (j : Int) = k
    · have ej : k.toNat = j := by omega
      rw [ej] at e0 e1
      rw [← e0, ← e1]
      refine LSM_tr (h.2 q1 ?_ (fun i i6 ik => ?_)) b.1
      · rw [e1]; exact BZ_lw ho j6
      · rw [e1]; exact sep j i j6 i6
    · exact LSM_tr (h.1 j j6 (by omega)) (b.2 _ (BZ_lw hm j6) (by omega))
  · refine LSM_tr (h.2 o hl (fun j j6 jk => hn j j6 (by omega))) (b.2 o hl ?_)
    rw [e0]
    exact hn k.toNat (by omega) (by omega)
end BCIS
/-- noLaw -/
def NOL (g : List en_E) : Prop := (gI g 7 3).toInt = 0 ∧ ¬ hbI (gI g 7 4) 1
def LWA (g : List en_E) : Prop := LWB g 1 (gI g 1 6).toInt (RLN g)
def LW0 (g : List en_E) : Prop := (eA g 173 0).toInt ≠ 0 → LWB g 59 (gI g 59 6).toInt (RL0 g)
def LW1 (g : List en_E) : Prop := (eA g 173 1).toInt ≠ 0 → LWB g 116 (gI g 116 6).toInt (RL1 g)
def LAWR (g : List en_E) : Prop := LWA g ∧ LW0 g ∧ LW1 g ∧ NOL g ∧ TOLDX g
theorem NOL_c {g g' : List en_E} (h : NOL g) (s : LSM g g' 7 7) : NOL g' := by
  unfold NOL at *
  rw [s.2.2.1, s.2.2.2]
  exact h
section LAWRS
variable {g g1 g' : List en_E}
/-- nothing of the laws changed -/
theorem LAWR_c (h : LAWR g) (s : LSA g g') (e1 : gI g' 1 6 = gI g 1 6) (e2 : gI g' 59 6 = gI g 59 6) (e3 : gI g' 116 6 = gI g 116 6) (a : gA g' 173 = gA g 173) (r3 : ∀ i : Int, 110 ≤ i → i < 5510 → (eA g' 233 i).toInt = (eA g 233 i).toInt) (r4 : gA g' 234 = gA g 234) (t : TOLDX g') : LAWR g' := by
  refine ⟨LWB_c h.1 (fun k k6 => s _ (BZ_lw (Or.inl rfl) k6)) (congrArg Int32.toInt e1) (fun j j0 j1 => (r3 _ (by omega) (by omega)).symm), fun hk => ?_, fun hk => ?_, NOL_c h.2.2.2.1 (s 7 rfl), t⟩
  · rw [eA_tq a] at hk
    exact LWB_c (h.2.1 hk) (fun k k6 => s _ (BZ_lw (Or.inr (Or.inl rfl)) k6)) (congrArg Int32.toInt e2) (fun j j0 j1 => (eA_tq r4).symm)
  · rw [eA_tq a] at hk
    exact LWB_c (h.2.2.1 hk) (fun k k6 => s _ (BZ_lw (Or.inr (Or.inr rfl)) k6)) (congrArg Int32.toInt e3) (fun j j0 j1 => (eA_tq r4).symm)
/-- kept in an image -/
theorem LAWR_image {c : Int} (h : LAWR g) (t : TOLDX g') (e1 : gI g' 1 6 = gI g 1 6) (r3 : ∀ i : Int, 110 ≤ i → i < 5510 → (eA g' 233 i).toInt = (eA g 233 i).toInt) (hc : (c = 0 ∧ BCI g g' 59 1 6 ∧ gI g' 59 6 = gI g 1 6 ∧ gI g' 116 6 = gI g 116 6 ∧ eA g' 173 1 = eA g 173 1 ∧ (∀ i : Int, 110 ≤ i → i < 5510 → (eA g' 234 i).toInt = (eA g 233 i).toInt) ∧ (∀ i : Int, 110 ≤ i → i < 5510 → (eA g' 234 (5510 + i)).toInt = (eA g 234 (5510 + i)).toInt)) ∨ (c = 1 ∧ BCI g g' 116 1 6 ∧ gI g' 116 6 = gI g 1 6 ∧ gI g' 59 6 = gI g 59 6 ∧ eA g' 173 0 = eA g 173 0 ∧ (∀ i : Int, 110 ≤ i → i < 5510 → (eA g' 234 (5510 + i)).toInt = (eA g 233 i).toInt) ∧ (∀ i : Int, 110 ≤ i → i < 5510 → (eA g' 234 i).toInt = (eA g 234 i).toInt))) : LAWR g' := by
  rcases hc with ⟨_, b, e59, e116, k1, q0, q1⟩ | ⟨_, b, e116, e59, k0, q1, q0⟩
  · have st : ∀ B : Nat, (B = 1 ∨ B = 116) → ∀ k : Nat, k < 6 → LSM g g' (B + 15 + 7 * k) (B + 15 + 7 * k) := fun B hB k k6 => b.2 _ (BZ_lw (by rcases hB with e | e; exact Or.inl e; exact Or.inr (Or.inr e)) k6) (fun j j6 _ => by rcases hB with e | e <;> subst e <;> omega)
    refine ⟨LWB_c h.1 (st 1 (Or.inl rfl)) (congrArg Int32.toInt e1) (fun j j0 j1 => (r3 _ (by omega) (by omega)).symm), fun _ => LWB_c h.1 (fun k k6 => b.1 k k6 (by omega)) (congrArg Int32.toInt e59) (fun j j0 j1 => (q0 _ (by omega) (by omega)).symm), fun hk => ?_, NOL_c h.2.2.2.1 (b.2 7 rfl (fun j j6 _ => by omega)), t⟩
    rw [k1] at hk
    exact LWB_c (h.2.2.1 hk) (st 116 (Or.inr rfl)) (congrArg Int32.toInt e116) (fun j j0 j1 => (q1 _ (by omega) (by omega)).symm)
  · have st : ∀ B : Nat, (B = 1 ∨ B = 59) → ∀ k : Nat, k < 6 → LSM g g' (B + 15 + 7 * k) (B + 15 + 7 * k) := fun B hB k k6 => b.2 _ (BZ_lw (by rcases hB with e | e; exact Or.inl e; exact Or.inr (Or.inl e)) k6) (fun j j6 _ => by rcases hB with e | e <;> subst e <;> omega)
    refine ⟨LWB_c h.1 (st 1 (Or.inl rfl)) (congrArg Int32.toInt e1) (fun j j0 j1 => (r3 _ (by omega) (by omega)).symm), fun hk => ?_, fun _ => LWB_c h.1 (fun k k6 => b.1 k k6 (by omega)) (congrArg Int32.toInt e116) (fun j j0 j1 => (q1 _ (by omega) (by omega)).symm), NOL_c h.2.2.2.1 (b.2 7 rfl (fun j j6 _ => by omega)), t⟩
    rw [k0] at hk
    exact LWB_c (h.2.1 hk) (st 59 (Or.inr rfl)) (congrArg Int32.toInt e59) (fun j j0 j1 => (q0 _ (by omega) (by omega)).symm)
/-- gone back to an image -/
theorem LAWR_back {c : Int} (h : LAWR g) (t : TOLDX g') (a : gA g' 173 = gA g 173) (e59 : gI g' 59 6 = gI g 59 6) (e116 : gI g' 116 6 = gI g 116 6) (r4 : gA g' 234 = gA g 234) (hc : (c = 0 ∧ (eA g 173 0).toInt ≠ 0 ∧ BCI g g' 1 59 6 ∧ gI g' 1 6 = gI g 59 6 ∧ (∀ i : Int, 110 ≤ i → i < 5510 → (eA g' 233 i).toInt = (eA g 234 i).toInt)) ∨ (c = 1 ∧ (eA g 173 1).toInt ≠ 0 ∧ BCI g g' 1 116 6 ∧ gI g' 1 6 = gI g 116 6 ∧ (∀ i : Int, 110 ≤ i → i < 5510 → (eA g' 233 i).toInt = (eA g 234 (5510 + i)).toInt))) : LAWR g' := by
  have st : ∀ {ot : Nat}, BCI g g' 1 ot 6 → ∀ B : Nat, (B = 59 ∨ B = 116) → ∀ k : Nat, k < 6 → LSM g g' (B + 15 + 7 * k) (B + 15 + 7 * k) := fun b B hB k k6 => b.2 _ (BZ_lw (by rcases hB with e | e; exact Or.inr (Or.inl e); exact Or.inr (Or.inr e)) k6) (fun j j6 _ => by rcases hB with e | e <;> subst e <;> omega)
  have w : ∀ {ot : Nat}, BCI g g' 1 ot 6 → LWB g' 1 (gI g' 1 6).toInt (RLN g') → LAWR g' := fun b n => by
    refine ⟨n, fun hk => ?_, fun hk => ?_, NOL_c h.2.2.2.1 (b.2 7 rfl (fun j j6 _ => by omega)), t⟩
    · rw [eA_tq a] at hk
      exact LWB_c (h.2.1 hk) (st b 59 (Or.inl rfl)) (congrArg Int32.toInt e59) (fun j j0 j1 => (eA_tq r4).symm)
    · rw [eA_tq a] at hk
      exact LWB_c (h.2.2.1 hk) (st b 116 (Or.inr rfl)) (congrArg Int32.toInt e116) (fun j j0 j1 => (eA_tq r4).symm)
  rcases hc with ⟨_, k0, b, e, q⟩ | ⟨_, k1, b, e, q⟩
  · exact w b (LWB_c (h.2.1 k0) (fun k k6 => b.1 k k6 (by omega)) (congrArg Int32.toInt e) (fun j j0 j1 => (q _ (by omega) (by omega)).symm))
  · exact w b (LWB_c (h.2.2.1 k1) (fun k k6 => b.1 k k6 (by omega)) (congrArg Int32.toInt e) (fun j j0 j1 => (q _ (by omega) (by omega)).symm))
/-- the law in force can be asked, on both sides -/
theorem LAWR_q (h : LAWR g) (hI : HI g) (ef : (gI g 1 9).toInt = (eA g 233 3).toInt) (el : (gI g 1 6).toInt = (eA g 233 2).toInt) : ((gI g 1 9).toInt = -1 ∧ QFX g = 7) ∨ (∃ k : Nat, k < 6 ∧ (gI g 1 9).toInt = (k : Int) ∧ QFX g = 16 + 7 * k ∧ LRL g (16 + 7 * k) (fun i => RLN g (900 * (k : Int) + i))) := by
  have t := hI.t3
  by_cases c : (gI g 1 9).toInt = -1
  · exact Or.inl ⟨c, by unfold QFX; exact LATX_n (by omega)⟩
  · refine Or.inr ⟨(gI g 1 9).toInt.toNat, by omega, by omega, ?_, ?_⟩
    · unfold QFX
      have z := LATX_k (k := (gI g 1 9).toInt.toNat) (by omega)
      rw [show (((gI g 1 9).toInt.toNat : Nat) : Int) = (gI g 1 9).toInt by omega] at z
      exact z
    · exact h.1 _ (by omega) (by omega)
theorem LAWR_lok (h : LAWR g) (hI : HI g) (ef : (gI g 1 9).toInt = (eA g 233 3).toInt) (el : (gI g 1 6).toInt = (eA g 233 2).toInt) : LOKX g := by
  rcases LAWR_q h hI ef el with ⟨c, q⟩ | ⟨k, k6, c, q, r⟩
  · unfold LOKX
    rw [q, h.2.2.2.1.1]
    exact ⟨fun W i i0 i1 => absurd i1 (by omega), fun _ i i0 i1 => absurd i1 (by omega)⟩
  · unfold LOKX
    rw [q]
    obtain ⟨N, O, A, L, r1, r2, r3, r4⟩ := r
    exact ⟨fun W => DRL_lkl r1 r3 W, r4⟩
theorem RLN_r (g : List en_E) (k : Nat) : (fun i => RLN g (900 * (k : Int) + i)) = RWM g (k : Int) := by
  funext i
  unfold RLN RWM
  rw [show 110 + (900 * (k : Int) + i) = 110 + 900 * (k : Int) + i by omega]
theorem RLN_l {g : List en_E} {q k : Nat} (r : LRL g q (fun i => RLN g (900 * (k : Int) + i))) : LRL g q (RWM g (k : Int)) := by
  rw [← RLN_r]
  exact r
theorem LAWR_lokm (h : LAWR g) (hI : HI g) (ef : (gI g 1 9).toInt = (eA g 233 3).toInt) (el : (gI g 1 6).toInt = (eA g 233 2).toInt) : LOKM g := by
  intro h0 W
  rcases LAWR_q h hI ef el with ⟨c, q⟩ | ⟨k, k6, c, q, r⟩
  · omega
  · rw [← ef, c]
    exact LRL_lkm (RLN_l r) W
/-- what is got is the same -/
theorem LAWR_get (h : LAWR g) (hI : HI g) (ef : (gI g 1 9).toInt = (eA g 233 3).toInt) (el : (gI g 1 6).toInt = (eA g 233 2).toInt) {G : List en_E} (f : gA G 233 = gA g 233) {l s F : Int} (hW : WGX g l s F = WWM G l s 0 0) (hF : (eA G 247 s).toInt = F) : GTX g l s F = GTM G l s := by
  unfold GTX GTM
  congr 1
  rw [eA_tq (j := 3) f, ← ef, RWM_c f, hW, hF]
  rcases LAWR_q h hI ef el with ⟨c, q⟩ | ⟨k, k6, c, q, r⟩
  · rw [if_pos (show (gI g 1 9).toInt < 0 by omega), q, h.2.2.2.1.1]
    rfl
  · rw [if_neg (show ¬ (gI g 1 9).toInt < 0 by omega), q, c]
    have z := LRL_tell (W := WWM G l s 0 0) (RLN_l r) F
    obtain ⟨N, L, _, _, _, e1⟩ := LRL_dr (RLN_l r)
    have e2 : (RWM g (k : Int) 1).toNat = (gI g (16 + 7 * k) 3).toInt.toNat := by rw [e1]; omega
    rw [e2]
    exact z
end LAWRS
/-! ===== a law more, on both sides ===== -/
/-- what the class's law() does -/
def LXG (g g' : List en_E) (r : Int) : Prop := (0 ≤ r → ∃ k : Nat, k < 6 ∧ (k : Int) = (gI g 1 6).toInt ∧ (∃ q, SKP (TX g) (nX g) 0 q ∧ ∀ O A : Int → Int, ∃ N O' A' L p, 0 ≤ N ∧ DRL g' (16 + 7 * k) N O' A' L ∧ RUNG (TX g) (nX g) (6, [], 0, O, A, [], q) (9, [], N, O', A', L, p)) ∧ (gI g' (16 + 7 * k) 0).toInt ≤ 400 ∧ (¬ hbI (gI g' (16 + 7 * k) 4) 1 → ∀ i : Int, 0 ≤ i → i < (gI g' (16 + 7 * k) 3).toInt → (eA g' (16 + 7 * k + 3) i).toInt ≠ 1) ∧ ∀ o : Nat, Lw o → o ≠ 177 → o ≠ 16 + 7 * k → LSM g g' o o) ∧ (r < 0 → ∀ o : Nat, Lw o → o ≠ 177 → LSM g g' o o)
/-- what was read, behind it -/
def LS7 (g g' : List en_E) : Prop := ∀ o : Nat, Lw o → o ≠ 177 → LSM g g' o o
theorem LS7_fr {F : List (Nat × Nat)} {A : List Nat} {g g' : List en_E} (h : Fr F A g g') (hd : Lws.all (fun o => o == 177 || lawF F A o) = true) : LS7 g g' := fun o ho hn => by
  have z := memA_all ho (P := fun o => o == 177 || lawF F A o) hd
  rw [Bool.or_eq_true] at z
  rcases z with z | z
  · exact absurd (eq_of_beq z) hn
  · exact LSM_fr h z
theorem LS7_tr {g g1 g2 : List en_E} (h : LS7 g g1) (k : LSA g1 g2) : LS7 g g2 := fun o ho hn => LSM_tr (h o ho hn) (k o ho)
theorem RPG_c {g g1 g2 : List en_E} {r : Int} (h : RPG g g1 r) (s : LSM g1 g2 177 177) : RPG g g2 r := fun e => by
  obtain ⟨q, k1, k2, k3, k4⟩ := h e
  have el : lX g2 = lX g1 := congrArg Int32.toInt s.2.1
  refine ⟨q, k1, by rw [el]; exact k2, by rw [el]; exact k3, fun O A => ?_⟩
  obtain ⟨N, O', A', L, p, m1, m2, m3⟩ := k4 O A
  exact ⟨N, O', A', L, p, m1, DRL_c (DRL_x m2) s, m3⟩
theorem SPK_l {g1 g2 : List en_E} (h : SPK g1) (s : LSM g1 g2 177 177) : SPK g2 := SPK_c h s.2.2.2 (s.1 3 (by decide) (by decide)) s.2.2.1
theorem LXG_no {g g' : List en_E} {r : Int} (h : LS7 g g') (hr : r < 0) : LXG g g' r := ⟨fun z => absurd z (by omega), fun _ => h⟩
theorem LXG_yes {g g1 g2 g3 : List en_E} {q0 : Nat} {n r : Int} (p : RPG g g1 1) (s : SPK g1) (h7 : LS7 g g1) (b : BEC g1 g2 q0 177) (e0 : q0 = LATB 1 n) (hn : n = (gI g 1 6).toInt) (n6 : 0 ≤ n ∧ n < 6) (t : LSA g2 g3) (hr : 0 ≤ r) : LXG g g3 r := by
  rw [LATB_in n6] at e0
  have lw : Lw (16 + 7 * n.toNat) := BZ_lw (B := 1) (j := n.toNat) (Or.inl rfl) (by omega)
  have e0' : q0 = 16 + 7 * n.toNat := by omega
  subst e0'
  have s3 : LSM g1 g3 (16 + 7 * n.toNat) 177 := LSM_tr b.1 (t _ lw)
  refine ⟨fun _ => ⟨n.toNat, by omega, by omega, ?_, ?_, ?_, fun o ho h1 h2 => LSM_tr (h7 o ho h1) (LSM_tr (b.2 o ho h2) (t o ho))⟩, fun z => absurd z (by omega)⟩
  · obtain ⟨q, k1, k2, k3, k4⟩ := p rfl
    refine ⟨q, k1, fun O A => ?_⟩
    obtain ⟨N, O', A', L, p, m1, m2, m3⟩ := k4 O A
    exact ⟨N, O', A', L, p, m1, DRL_c (DRL_x m2) s3, m3⟩
  · obtain ⟨q, k1, k2, k3, k4⟩ := p rfl
    rw [s3.2.1]
    exact k3
  · intro hb i i0 i1
    rw [s3.2.2.2] at hb
    rw [s3.2.2.1] at i1
    rw [eA_tq (s3.1 3 (by decide) (by decide))]
    exact s hb i i0 i1
section LAWNS
variable {g g1 g' : List en_E} {r : Int}
/-- a law more, kept on both sides -/
theorem LAWR_law (h : LAWR g) (t : TOLDX g') (x : LXG g g1 r) (m : LWG g1 g' r) (rw_ : ROWE g1 g') (f3 : gA g1 233 = gA g 233) (f6 : gA g1 236 = gA g 236) (f8 : gI g1 231 8 = gI g 231 8) (hT : ∀ i : Int, 0 ≤ i → i < (gI g 174 1).toInt → (eA g 175 i).toInt = (eA g 236 i).toInt) (et : (gI g 174 1).toInt = (gI g 231 8).toInt) (el : (gI g 1 6).toInt = (eA g 233 2).toInt) (s : LSA g1 g') (e2 : gI g' 59 6 = gI g 59 6) (e3 : gI g' 116 6 = gI g 116 6) (a : gA g' 173 = gA g 173) (r4 : gA g' 234 = gA g 234) (hc : (r < 0 ∧ gI g' 1 6 = gI g 1 6 ∧ ∀ i : Int, 110 ≤ i → i < 5510 → eA g' 233 i = eA g1 233 i) ∨ (0 ≤ r ∧ (gI g 1 6).toInt < 6 ∧ (gI g' 1 6).toInt = (gI g 1 6).toInt + 1)) : LAWR g' := by
  rcases hc with ⟨h0, e1, q3⟩ | ⟨h0, n6, e1⟩
  · have sx := x.2 h0
    have st : ∀ o : Nat, Lw o → o ≠ 177 → LSM g g' o o := fun o ho hn => LSM_tr (sx o ho hn) (s o ho)
    have nb : ∀ {B k : Nat}, BZ B → k < 6 → B + 15 + 7 * k ≠ 177 := fun hB hk => by rcases hB with e | e | e <;> subst e <;> omega
    refine ⟨LWB_c h.1 (fun k k6 => st _ (BZ_lw (Or.inl rfl) k6) (nb (Or.inl rfl) k6)) (congrArg Int32.toInt e1) (fun j j0 j1 => ?_), fun hk => ?_, fun hk => ?_, NOL_c h.2.2.2.1 (st 7 rfl (by decide)), t⟩
    · unfold RLN
      rw [q3 _ (by omega) (by omega), eA_tq f3]
    · rw [eA_tq a] at hk
      exact LWB_c (h.2.1 hk) (fun k k6 => st _ (BZ_lw (Or.inr (Or.inl rfl)) k6) (nb (Or.inr (Or.inl rfl)) k6)) (congrArg Int32.toInt e2) (fun j j0 j1 => (eA_tq r4).symm)
    · rw [eA_tq a] at hk
      exact LWB_c (h.2.2.1 hk) (fun k k6 => st _ (BZ_lw (Or.inr (Or.inr rfl)) k6) (nb (Or.inr (Or.inr rfl)) k6)) (congrArg Int32.toInt e3) (fun j j0 j1 => (eA_tq r4).symm)
  · obtain ⟨k, k6, ek, ⟨q, q1, q2⟩, l4, l5, sx⟩ := x.1 h0
    have st : ∀ o : Nat, Lw o → o ≠ 177 → o ≠ 16 + 7 * k → LSM g g' o o := fun o ho hn hk => LSM_tr (sx o ho hn hk) (s o ho)
    have nb : ∀ {B i : Nat}, (B = 59 ∨ B = 116) → i < 6 → B + 15 + 7 * i ≠ 177 ∧ B + 15 + 7 * i ≠ 16 + 7 * k := fun hB hk => by rcases hB with e | e <;> subst e <;> omega
    have e233 : (eA g1 233 2).toInt = (k : Int) := by rw [eA_tq f3]; omega
    refine ⟨LWB_s h.1 e1 (by omega) (fun i i6 ik => st _ (BZ_lw (Or.inl rfl) i6) (by omega) (by omega)) (fun j j0 j1 jc => ?_) (fun i ic => ?_), fun hk => ?_, fun hk => ?_, NOL_c h.2.2.2.1 (st 7 rfl (by decide) (by omega)), t⟩
    · unfold RLN
      rw [rw_ _ (by omega) (by omega) (by rw [e233]; omega), eA_tq f3]
    · obtain rfl : i = k := by omega
      obtain ⟨q', N, O, A, L, p, m1, m2, m3⟩ := m (by omega) (by omega)
      have eT : ∀ j, 0 ≤ j → j < nX g → TX g j = TM g1 j := fun j j0 j1 => (hT j j0 j1).trans (eA_tq f6).symm
      have en : nX g = nM g1 := et.trans (congrArg Int32.toInt f8).symm
      obtain ⟨N', O', A', L', p', d0, d1, d2⟩ := q2 (OG g1) (AG g1)
      have w1 := SKP.cg eT (Int.le_refl 0) q1
      rw [en] at w1
      have eq := w1.u m1
      subst eq
      have w2 := RUNG_cg eT (show 0 ≤ q from by have z := q1.1; omega) d2
      rw [en] at w2
      have e := RUNG.u w2 m2 rfl rfl
      injection e with _ e
      injection e with _ e
      injection e with eN e
      injection e with eO e
      injection e with eA_ e
      injection e with eL _
      subst eN eO eA_ eL
      refine ⟨N', O', A', L', DRL_c d1 (s _ (BZ_lw (B := 1) (Or.inl rfl) k6)), ?_, ?_, ?_⟩
      · have ez : (fun j => RLN g' (900 * (i : Int) + j)) = fun j => (eA g' 233 (110 + 900 * (eA g1 233 2).toInt + j)).toInt := by
          funext j
          unfold RLN
          rw [e233, show 110 + (900 * (i : Int) + j) = 110 + 900 * (i : Int) + j by omega]
        rw [ez]
        exact m3
      · rw [(s _ (BZ_lw (B := 1) (Or.inl rfl) k6)).2.1]
        exact l4
      · have z := s _ (BZ_lw (B := 1) (Or.inl rfl) k6)
        intro hb j j0 j1
        rw [z.2.2.2] at hb
        rw [z.2.2.1] at j1
        rw [eA_tq (z.1 3 (by decide) (by decide))]
        exact l5 hb j j0 j1
    · rw [eA_tq a] at hk
      exact LWB_c (h.2.1 hk) (fun i i6 => st _ (BZ_lw (Or.inr (Or.inl rfl)) i6) (nb (Or.inl rfl) i6).1 (nb (Or.inl rfl) i6).2) (congrArg Int32.toInt e2) (fun j j0 j1 => (eA_tq r4).symm)
    · rw [eA_tq a] at hk
      exact LWB_c (h.2.2.1 hk) (fun i i6 => st _ (BZ_lw (Or.inr (Or.inr rfl)) i6) (nb (Or.inr rfl) i6).1 (nb (Or.inr rfl) i6).2) (congrArg Int32.toInt e3) (fun j j0 j1 => (eA_tq r4).symm)
end LAWNS
/-! ===== what a stand gets of all loads, by its fee; the best fee; until nobody moves ===== -/
/-- the stands of a way differ -/
theorem WAYF_inj {N : Int → Int} {B f w n : Int} (a : WAYF N B f w n) {i j : Nat} (hij : i < j) (hj : (j : Int) < n) : itv N i f ≠ itv N j f := fun e => by
  rcases a with ⟨k, k0, kB, ek, m, er⟩ | ⟨_, q⟩
  · have z : itv N (i + (k.toNat - j)) f = itv N (j + (k.toNat - j)) f := by rw [itv_a, itv_a, e]
    rw [show j + (k.toNat - j) = k.toNat by omega] at z
    exact m ((i + (k.toNat - j) : Nat) : Int) (by omega) (by omega) (by unfold itI; rw [Int.toNat_natCast]; exact z.trans ek)
  · omega
theorem fst_ex (P : Nat → Prop) : ∀ n : Nat, (∃ k, k ≤ n ∧ P k ∧ ∀ j, j < k → ¬ P j) ∨ (∀ k, k ≤ n → ¬ P k)
  | 0 => (Classical.em (P 0)).elim (fun h => Or.inl ⟨0, Nat.le_refl 0, h, fun j hj => absurd hj (by omega)⟩) (fun h => Or.inr (fun k hk => by rw [show k = 0 by omega]; exact h))
  | n + 1 => (fst_ex P n).elim (fun ⟨k, a, b, c⟩ => Or.inl ⟨k, by omega, b, c⟩) (fun h => (Classical.em (P (n + 1))).elim (fun y => Or.inl ⟨n + 1, Nat.le_refl _, y, fun j hj => h j (by omega)⟩) (fun y => Or.inr (fun k hk => by
    by_cases c : k = n + 1
    · rw [c]; exact y
    · exact h k (by omega))))
theorem WAYF_ex (N : Int → Int) (f w : Int) : ∃ n, WAYF N 11 f w n := by
  rcases fst_ex (fun k => itv N k f = w) 11 with ⟨k, a, b, c⟩ | h
  · exact ⟨(k : Int), Or.inl ⟨(k : Int), by omega, by omega, by unfold itI; rw [Int.toNat_natCast]; exact b, fun j j0 jk => c j.toNat (by omega), rfl⟩⟩
  · exact ⟨-1, Or.inr ⟨fun j j0 jB => h j.toNat (by omega), rfl⟩⟩
/-- how many stands a way has -/
noncomputable def wayn (N : Int → Int) (f w : Int) : Int := Classical.choose (WAYF_ex N f w)
theorem wayn_w (N : Int → Int) (f w : Int) : WAYF N 11 f w (wayn N f w) := Classical.choose_spec (WAYF_ex N f w)
theorem wayn_e {N : Int → Int} (h1 : N (-1) = -1) (hN : ∀ s, N s = -1 ∨ (0 ≤ N s ∧ N s < 12)) {B f w n : Int} (hB : 11 ≤ B) (hf : f = -1 ∨ (0 ≤ f ∧ f < 12)) (hw : w ≠ -1) (a : WAYF N B f w n) : n = wayn N f w := WAYF.same h1 hN hB (by decide) hf hw a (wayn_w N f w)
theorem cbv_x {N G G' : Int → Int} {x f : Int} : ∀ k : Nat, (∀ j : Nat, j < k → itv N j f ≠ x → G (itv N j f) = G' (itv N j f)) → cbv N G x f k = cbv N G' x f k
  | 0, _ => rfl
  | k + 1, h => by
    show cbv N G x f k + (if itv N k f = x then 0 else G (itv N k f)) = cbv N G' x f k + (if itv N k f = x then 0 else G' (itv N k f))
    rw [cbv_x k (fun j hj => h j (by omega))]
    by_cases c : itv N k f = x
    · rw [if_pos c, if_pos c]
    · rw [if_neg c, if_neg c, h k (by omega) c]
section INCS
variable {N G G' : Int → Int} {x f w n B : Int}
theorem psv_no : ∀ {k : Nat}, (∀ j : Nat, j < k → itv N j f ≠ x) → psv N x f k = 0
  | 0, _ => rfl
  | k + 1, h => by
    show (if itv N k f = x then 1 else psv N x f k) = 0
    rw [if_neg (h k (by omega))]
    exact psv_no (fun j hj => h j (by omega))
theorem cbv_all (hx : x ≠ -1) : ∀ k : Nat, (∀ j : Nat, j < k → itv N j f ≠ -1) → (∀ i j : Nat, i < j → j < k → itv N i f ≠ itv N j f) → cbv N G (-1) f k = cbv N G x f k + (if psv N x f k = 1 then G x else 0)
  | 0, _, _ => rfl
  | k + 1, h, d => by
    have ih := cbv_all hx k (fun j hj => h j (by omega)) (fun i j a b => d i j a (by omega))
    show cbv N G (-1) f k + (if itv N k f = -1 then 0 else G (itv N k f)) = cbv N G x f k + (if itv N k f = x then 0 else G (itv N k f)) + (if (if itv N k f = x then 1 else psv N x f k) = 1 then G x else 0)
    rw [if_neg (h k (by omega)), ih]
    by_cases c : itv N k f = x
    · have z : psv N x f k = 0 := psv_no (fun j hj e => d j k hj (by omega) (e.trans c.symm))
      rw [z, if_neg (by decide), if_pos c, if_pos c, if_pos rfl, c]
    · rw [if_neg c, if_neg c]
      omega
theorem cbv_nn (hG : ∀ s, 0 ≤ G s) : ∀ k : Nat, 0 ≤ cbv N G x f k
  | 0 => Int.le_refl 0
  | k + 1 => by
    have z := cbv_nn hG k
    have y := hG (itv N k f)
    show 0 ≤ cbv N G x f k + (if itv N k f = x then 0 else G (itv N k f))
    split <;> omega
/-- what one load brings a stand that gets own of it -/
def inT (N G : Int → Int) (n f p x own : Int) : Int := if 0 ≤ n ∧ PSI N x n f = 1 ∧ own + CBI N G x n f ≤ p then own else 0
/-- as the class tells it: the others' cost first -/
theorem inT_x {p own ot t : Int} (h1 : N (-1) = -1) (hN : ∀ s, N s = -1 ∨ (0 ≤ N s ∧ N s < 12)) (hB : 11 ≤ B) (hf : f = -1 ∨ (0 ≤ f ∧ f < 12)) (hw : w ≠ -1) (hx : x ≠ -1) (hG : ∀ s, 0 ≤ G s) (c : CBS N G B x f w ot) (e : t = if ot ≠ -1 ∧ own + ot ≤ p then own else 0) : t = inT N G (wayn N f w) f p x own := by
  obtain ⟨n, a, b, d⟩ := c
  have en := wayn_e h1 hN hB hf hw a
  rw [← en, e]
  unfold inT
  by_cases c0 : 0 ≤ n
  · have z := d c0
    have y : 0 ≤ CBI N G x n f := cbv_nn hG _
    by_cases c1 : PSI N x n f = 1
    · rw [if_pos (Or.inr c1)] at z
      rw [z]
      by_cases c2 : own + CBI N G x n f ≤ p
      · rw [if_pos ⟨by omega, c2⟩, if_pos ⟨c0, c1, c2⟩]
      · rw [if_neg (fun q => c2 q.2), if_neg (fun q => c2 q.2.2)]
    · rw [if_neg (fun q => q.elim hx c1)] at z
      rw [if_neg (fun q => q.1 z), if_neg (fun q => c1 q.2.1)]
  · have n1 : n = -1 := by rcases WAYF_rg a with q | q <;> omega
    rw [if_neg (fun q => q.1 (b n1)), if_neg (fun q => c0 q.1)]
/-- as the reference tells it: the cost of all, then what x gets on the way -/
theorem inT_m {p c t : Int} {M : Int} (h1 : N (-1) = -1) (hM : M ≤ 12) (hN : ∀ s, N s = -1 ∨ (0 ≤ N s ∧ N s < M)) (hB : 11 ≤ B) (hf : f = -1 ∨ (0 ≤ f ∧ f < M)) (hw : w ≠ -1) (hx : x ≠ -1) (hG : ∀ s, 0 ≤ G s) (k : CBS N G B (-1) f w c) (a : WAYF N B f w n) (e : t = if c ≠ -1 ∧ c ≤ p then (if PSI N x n f = 1 then G x else 0) else 0) : t = inT N G (wayn N f w) f p x (G x) := by
  have hN2 : ∀ s, N s = -1 ∨ (0 ≤ N s ∧ N s < 12) := fun s => (hN s).imp_right (fun z => ⟨z.1, by omega⟩)
  have hf2 : f = -1 ∨ (0 ≤ f ∧ f < 12) := hf.imp_right (fun z => ⟨z.1, by omega⟩)
  obtain ⟨n', a', b, d⟩ := k
  have en' := wayn_e h1 hN2 hB hf2 hw a'
  have en := wayn_e h1 hN2 hB hf2 hw a
  rw [← en] at en'
  subst en'
  rw [← en, e]
  unfold inT
  by_cases c0 : 0 ≤ n'
  · have z := d c0
    rw [if_pos (Or.inl rfl)] at z
    have y : CBI N G (-1) n' f = CBI N G x n' f + (if PSI N x n' f = 1 then G x else 0) := cbv_all hx _ (fun j hj => by have q := WAYF_at h1 hN hf hw a (j := j) (by omega); omega) (fun i j hij hj => WAYF_inj a hij (by omega))
    have u : 0 ≤ CBI N G x n' f := cbv_nn hG _
    have v := hG x
    by_cases c1 : PSI N x n' f = 1
    · rw [if_pos c1] at y
      rw [if_pos c1]
      by_cases c2 : G x + CBI N G x n' f ≤ p
      · rw [if_pos ⟨by omega, by omega⟩, if_pos ⟨c0, c1, c2⟩]
      · rw [if_neg (fun q => c2 (by omega)), if_neg (fun q => c2 q.2.2)]
    · rw [if_neg c1, ite_self, if_neg (fun q => c1 q.2.1)]
  · have n1 : n' = -1 := by rcases WAYF_rg a with q | q <;> omega
    rw [if_neg (fun q => q.1 (b n1)), if_neg (fun q => c0 q.1)]
theorem inT_c {M p own : Int} (h1 : N (-1) = -1) (hN : ∀ s, N s = -1 ∨ (0 ≤ N s ∧ N s < M)) (hf : f = -1 ∨ (0 ≤ f ∧ f < M)) (hw : w ≠ -1) (hG : ∀ s, 0 ≤ s → s < M → s ≠ x → G s = G' s) : inT N G (wayn N f w) f p x own = inT N G' (wayn N f w) f p x own := by
  have a := wayn_w N f w
  unfold inT
  have z : 0 ≤ wayn N f w → CBI N G x (wayn N f w) f = CBI N G' x (wayn N f w) f := fun h0 => cbv_x _ (fun j hj hx => by
    have y := WAYF_at h1 hN hf hw a (j := j) (by omega)
    exact hG _ y.1 y.2 hx)
  by_cases c : 0 ≤ wayn N f w
  · rw [z c]
  · rw [if_neg (fun q => c q.1), if_neg (fun q => c q.1)]
end INCS
/-- the sum over the loads -/
def insv (T : Int → Int) : Nat → Int
  | 0 => 0
  | k + 1 => insv T k + T (k : Int)
theorem insv_c {T T' : Int → Int} : ∀ k : Nat, (∀ j : Int, 0 ≤ j → j < (k : Int) → T j = T' j) → insv T k = insv T' k
  | 0, _ => rfl
  | k + 1, h => by
    show insv T k + T (k : Int) = insv T' k + T' (k : Int)
    rw [insv_c k (fun j j0 j1 => h j j0 (by omega)), h (k : Int) (by omega) (by omega)]
theorem insv_s {T : Int → Int} {k k2 s s2 t : Int} (h : s = insv T k.toNat) (h0 : 0 ≤ k) (e : k2 = k + 1) (et : t = T k) (es : s2 = s + t) : s2 = insv T k2.toNat := by
  subst e
  rw [show (k + 1).toNat = k.toNat + 1 by omega]
  show s2 = insv T k.toNat + T (k.toNat : Int)
  rw [show (k.toNat : Int) = k by omega, ← h, ← et]
  exact es
/-- the dearest so far, and by which fee -/
def amx (V : Int → Int) : Nat → Int × Int
  | 0 => (-1, 0)
  | k + 1 => if (amx V k).1 < V (k : Int) then (V (k : Int), (k : Int)) else amx V k
theorem amx_c {V V' : Int → Int} : ∀ k : Nat, (∀ j : Int, 0 ≤ j → j < (k : Int) → V j = V' j) → amx V k = amx V' k
  | 0, _ => rfl
  | k + 1, h => by
    show (if (amx V k).1 < V (k : Int) then (V (k : Int), (k : Int)) else amx V k) = (if (amx V' k).1 < V' (k : Int) then (V' (k : Int), (k : Int)) else amx V' k)
    rw [amx_c k (fun j j0 j1 => h j j0 (by omega)), h (k : Int) (by omega) (by omega)]
theorem amx_rg (V : Int → Int) : ∀ k : Nat, 0 ≤ (amx V k).2 ∧ ((amx V k).2 < (k : Int) ∨ (amx V k).2 = 0)
  | 0 => ⟨Int.le_refl 0, Or.inr rfl⟩
  | k + 1 => by
    have z := amx_rg V k
    show 0 ≤ (if (amx V k).1 < V (k : Int) then (V (k : Int), (k : Int)) else amx V k).2 ∧ ((if (amx V k).1 < V (k : Int) then (V (k : Int), (k : Int)) else amx V k).2 < ((k + 1 : Nat) : Int) ∨ (if (amx V k).1 < V (k : Int) then (V (k : Int), (k : Int)) else amx V k).2 = 0)
    split
    · exact ⟨by dsimp only; omega, Or.inl (by dsimp only; omega)⟩
    · omega
theorem amx_s {V : Int → Int} {k k2 t b t2 b2 v : Int} (h : t = (amx V k.toNat).1 ∧ b = (amx V k.toNat).2) (h0 : 0 ≤ k) (e : k2 = k + 1) (ev : v = V k) (es : (t < v ∧ t2 = v ∧ b2 = k) ∨ (v ≤ t ∧ t2 = t ∧ b2 = b)) : t2 = (amx V k2.toNat).1 ∧ b2 = (amx V k2.toNat).2 := by
  subst e
  rw [show (k + 1).toNat = k.toNat + 1 by omega]
  show t2 = (if (amx V k.toNat).1 < V (k.toNat : Int) then (V (k.toNat : Int), (k.toNat : Int)) else amx V k.toNat).1 ∧ b2 = (if (amx V k.toNat).1 < V (k.toNat : Int) then (V (k.toNat : Int), (k.toNat : Int)) else amx V k.toNat).2
  rw [show (k.toNat : Int) = k by omega, ← h.1, ← ev]
  rcases es with ⟨c, e1, e2⟩ | ⟨c, e1, e2⟩
  · rw [if_pos c]; exact ⟨e1, e2⟩
  · rw [if_neg (by omega), e1, e2]; exact h
/-- one fee told anew -/
def updF (A : Int → Int) (s v : Int) : Int → Int := fun i => if i = s then v else A i
/-- one stand's turn: what is asked, whether somebody moved -/
def stpF (I : (Int → Int) → Int → Int → Int) (A : Int → Int) (m s : Int) : (Int → Int) × Int := if I A s (A s) < (amx (I A s) 100).1 then (updF A s (amx (I A s) 100).2, 1) else (A, m)
/-- a round -/
def rndF (I : (Int → Int) → Int → Int → Int) (A : Int → Int) : Nat → (Int → Int) × Int
  | 0 => (A, 0)
  | k + 1 => stpF I (rndF I A k).1 (rndF I A k).2 (k : Int)
/-- the rounds: what is asked, whether somebody moved in the last, how many -/
def setF (I : (Int → Int) → Int → Int → Int) (S : Nat) (A : Int → Int) : Nat → (Int → Int) × Int × Int
  | 0 => (A, 1, 0)
  | k + 1 => if (setF I S A k).2.1 = 0 then setF I S A k else ((rndF I (setF I S A k).1 S).1, (rndF I (setF I S A k).1 S).2, (setF I S A k).2.2 + 1)
theorem cbv_q {g : List en_E} {G : Int → Int} {x f : Int} (hf : f = -1 ∨ (0 ≤ f ∧ f < (eA g 233 0).toInt)) : ∀ k : Nat, cbv (NMq g) G x f k = cbv (NM g) G x f k
  | 0 => rfl
  | k + 1 => by
    show cbv (NMq g) G x f k + (if itv (NMq g) k f = x then 0 else G (itv (NMq g) k f)) = cbv (NM g) G x f k + (if itv (NM g) k f = x then 0 else G (itv (NM g) k f))
    rw [cbv_q hf k, NMq.it k hf]
theorem CBS_q {g : List en_E} {G : Int → Int} {B f w r : Int} (hf : f = -1 ∨ (0 ≤ f ∧ f < (eA g 233 0).toInt)) (h : CBS (NMq g) G B (-1) f w r) : CBS (NM g) G B (-1) f w r := by
  obtain ⟨n, a, b, c⟩ := h
  refine ⟨n, WAYF.q hf a, b, fun n0 => ?_⟩
  have z := c n0
  rw [if_pos (Or.inl rfl)] at z
  rw [if_pos (Or.inl rfl), z]
  exact cbv_q hf _
