/-! ===== what a stand gets: the class ===== -/
def FLX (g : List en_E) (l : Int) : Int := (eA g 5 (6 * l + 1)).toInt
def WLX (g : List en_E) (l : Int) : Int := (eA g 5 (6 * l + 2)).toInt
def PLX (g : List en_E) (l : Int) : Int := (eA g 5 (6 * l + 5)).toInt
def ASKF (g : List en_E) (s : Int) : Int := (eA g 224 s).toInt
noncomputable def INTX (g : List en_E) (A : Int → Int) (x fee l : Int) : Int := inT (NX g) (fun s => GTX g l s (A s)) (wayn (NX g) (FLX g l) (WLX g l)) (FLX g l) (PLX g l) x (GTX g l x fee)
/-- what x gets in all by a fee, the others asking A -/
noncomputable def INCX (g : List en_E) (A : Int → Int) (x fee : Int) : Int := insv (INTX g A x fee) (gI g 1 4).toInt.toNat
/-- loads from stands to stands -/
def VLD (g : List en_E) : Prop := (gI g 1 0).toInt ≤ 12 ∧ ∀ l : Int, 0 ≤ l → l < (gI g 1 4).toInt → (FLX g l = -1 ∨ (0 ≤ FLX g l ∧ FLX g l < 12)) ∧ WLX g l ≠ -1
/-- what the loads cost beside x, for the first k -/
def OTH (g0 g : List en_E) (x k : Int) : Prop := ∀ l : Int, 0 ≤ l → l < k → CBS (NX g0) (GAX g0 l) 11 x (FLX g0 l) (WLX g0 l) (eA g 225 l).toInt
def INP (g : List en_E) (x fee : Int) : Prop := VLD g ∧ OTH g g x (gI g 1 4).toInt ∧ 0 ≤ x ∧ x < (gI g 1 0).toInt ∧ 0 ≤ fee ∧ fee < 100
def INL (g0 g : List en_E) (x fee l sum : Int) : Prop := GOKX g0 → GOKX g ∧ (INP g0 x fee → sum = insv (INTX g0 (ASKF g0) x fee) l.toNat ∧ 0 ≤ sum ∧ sum ≤ 999 * l)
theorem GTX_rg (g : List en_E) (l s f : Int) : 0 ≤ GTX g l s f ∧ GTX g l s f ≤ 999 := clp_rg _
theorem cbv_rg {N G : Int → Int} {x f : Int} (hG : ∀ s, 0 ≤ G s ∧ G s ≤ 999) : ∀ k : Nat, 0 ≤ cbv N G x f k ∧ cbv N G x f k ≤ 999 * (k : Int)
  | 0 => ⟨Int.le_refl 0, Int.le_refl 0⟩
  | k + 1 => by
    have z := cbv_rg hG (N := N) (x := x) (f := f) k
    have y := hG (itv N k f)
    show 0 ≤ cbv N G x f k + (if itv N k f = x then 0 else G (itv N k f)) ∧ cbv N G x f k + (if itv N k f = x then 0 else G (itv N k f)) ≤ 999 * ((k + 1 : Nat) : Int)
    split <;> omega
theorem CBS_rg {N G : Int → Int} {x f w r : Int} (hG : ∀ s, 0 ≤ G s ∧ G s ≤ 999) (c : CBS N G 11 x f w r) : -1 ≤ r ∧ r ≤ 10989 := by
  obtain ⟨n, a, b, d⟩ := c
  by_cases c0 : 0 ≤ n
  · have z := cbv_rg hG (N := N) (x := x) (f := f) n.toNat
    have w := WAYF_rg a
    have e := d c0
    have z2 : 0 ≤ CBI N G x n f ∧ CBI N G x n f ≤ 999 * (n.toNat : Int) := z
    split at e <;> omega
  · have n1 : n = -1 := by rcases WAYF_rg a with q | q <;> omega
    rw [b n1]
    omega
section INXS
variable {g0 g g1 g2 : List en_E} {x fee l l2 k k2 s p r t b t2 b2 : Int} {u v w y z : Int32} {A : Int → Int}
theorem FLX_c (hF : FSX g0 g) : FLX g l = FLX g0 l := eA_tq hF.2.2.1
theorem WLX_c (hF : FSX g0 g) : WLX g l = WLX g0 l := eA_tq hF.2.2.1
theorem PLX_c (hF : FSX g0 g) : PLX g l = PLX g0 l := eA_tq hF.2.2.1
theorem NX_f (hF : FSX g0 g) : NX g = NX g0 := funext (fun _ => NX_cF hF)
theorem INTX_c (hF : FSX g0 g) : INTX g A x fee l = INTX g0 A x fee l := by
  unfold INTX
  have e : (fun s => GTX g l s (A s)) = (fun s => GTX g0 l s (A s)) := funext (fun s => GTX_c hF)
  rw [NX_f hF, FLX_c hF, WLX_c hF, PLX_c hF, e, GTX_c hF]
theorem INCX_c (hF : FSX g0 g) : INCX g A x fee = INCX g0 A x fee := by
  unfold INCX
  rw [hF.2.2.2.2.1]
  exact insv_c _ (fun j _ _ => INTX_c hF)
theorem VLD_c (hF : FSX g0 g) (h : VLD g0) : VLD g := by
  refine ⟨by rw [hF.2.2.2.1]; exact h.1, fun l l0 l1 => ?_⟩
  rw [hF.2.2.2.2.1] at l1
  rw [FLX_c hF, WLX_c hF]
  exact h.2 l l0 l1
theorem ASKF_c (a : gA g 224 = gA g0 224) : ASKF g = ASKF g0 := funext (fun _ => eA_tq a)
theorem GAX_c (hF : FSX g0 g) (a : gA g 224 = gA g0 224) : GAX g l = GAX g0 l := funext (fun s => by unfold GAX; rw [eA_tq a]; exact GTX_c hF)
theorem ASKB_c (hF : FSX g0 g) (a : gA g 224 = gA g0 224) (h : ASKB g0) : ASKB g := fun s s0 s1 => by
  rw [hF.2.2.2.1] at s1
  rw [eA_tq a]
  exact h s s0 s1
theorem OTH_b (hF : FSX g0 g) (a : gA g 224 = gA g0 224) (h : OTH g0 g1 x k) : OTH g g1 x k := fun l l0 l1 => by
  have z := h l l0 l1
  rw [← NX_f hF, ← GAX_c hF a, ← FLX_c hF, ← WLX_c hF] at z
  exact z
theorem OTH_e (a : gA g1 225 = gA g 225) (h : OTH g0 g x k) : OTH g0 g1 x k := fun l l0 l1 => by
  rw [eA_tq a]
  exact h l l0 l1
theorem INL_z {sum : Int} (hF : FSX g0 g) (e5 : gI g 223 5 = gI g0 223 5) (e6 : gI g 223 6 = gI g0 223 6) (ea : gA g 226 = gA g0 226) (hl : l = 0) (hs : sum = 0) : INL g0 g x fee l sum := fun k => by
  subst hl hs
  exact ⟨GOKX_c hF e5 e6 ea k, fun _ => ⟨rfl, by omega, by omega⟩⟩
theorem INT_x (P : INP g0 x fee) (h0 : 0 ≤ l) (hL : l < (gI g0 1 4).toInt) {t : Int} (e : t = if (eA g0 225 l).toInt ≠ -1 ∧ GTX g0 l x fee + (eA g0 225 l).toInt ≤ PLX g0 l then GTX g0 l x fee else 0) : t = INTX g0 (ASKF g0) x fee l := by
  obtain ⟨v, o, x0, x1, f0, f1⟩ := P
  have w := v.2 l h0 hL
  have S := v.1
  exact inT_x (G := GAX g0 l) (NX.e g0) (fun s => (NX.rg g0 s).imp_right (fun z => ⟨z.1, by omega⟩)) (Int.le_refl 11) w.1 w.2 (by omega) (fun s => (GTX_rg g0 l s _).1) (o l h0 hL) e
/-- not on its way -/
theorem INL_no {sum sum2 : Int} (h : INL g0 g x fee l sum) (hF : FSX g g2) (e5 : gI g2 223 5 = gI g 223 5) (e6 : gI g2 223 6 = gI g 223 6) (ea : gA g2 226 = gA g 226) (ho : (eA g0 225 l).toInt = -1) (h0 : 0 ≤ l) (hL : l < (gI g0 1 4).toInt) (e : l2 = l + 1) (es : sum2 = sum) : INL g0 g2 x fee l2 sum2 := fun k1 => by
  obtain ⟨a1, a0⟩ := h k1
  subst es
  refine ⟨GOKX_c hF e5 e6 ea a1, fun P => ?_⟩
  obtain ⟨a2, a3, a4⟩ := a0 P
  have t := INT_x P h0 hL (t := 0) (by rw [if_neg (fun q => q.1 ho)])
  exact ⟨insv_s a2 h0 e t (Int.add_zero _).symm, a3, by omega⟩
/-- on its way: what it gets, where the load comes -/
theorem INL_ye (h : INL g0 g x fee l u.toInt) (hF0 : FSX g0 g) (q : GETX g g1 l x fee w.toInt) (hF : FSX g1 g2) (e5 : gI g2 223 5 = gI g1 223 5) (e6 : gI g2 223 6 = gI g1 223 6) (ea : gA g2 226 = gA g1 226) (ho : (eA g0 225 l).toInt = y.toInt) (hy : y.toInt ≠ -1) (hz : z = w + y) (hp : ABX g0 l 5 p) (h0 : 0 ≤ l) (h8 : l ≤ 8) (hL : l < (gI g0 1 4).toInt) (e : l2 = l + 1) (es : (z.toInt ≤ p ∧ v = u + w) ∨ (p < z.toInt ∧ v = u)) : INL g0 g2 x fee l2 v.toInt := fun k1 => by
  obtain ⟨a1, a0⟩ := h k1
  obtain ⟨b1, b2⟩ := q a1
  refine ⟨GOKX_c hF e5 e6 ea b1, fun P => ?_⟩
  obtain ⟨a2, a3, a4⟩ := a0 P
  have P' := P
  obtain ⟨vl, o, x0, x1, f0, f1⟩ := P'
  have b4 := b2 h0 (by rw [hF0.2.2.2.2.1]; exact hL) x0 (by rw [hF0.2.2.2.1]; exact x1) f0 f1
  rw [GTX_c hF0] at b4
  have b5 := GTX_rg g0 l x fee
  have c := CBS_rg (fun s => GTX_rg g0 l s _) (o l h0 hL)
  rw [ho] at c
  have ez := iadd_e hz (by omega) (by omega)
  have ep : p = PLX g0 l := hp.1 ⟨h0, hL, by decide, by decide⟩
  rcases es with ⟨d, ev⟩ | ⟨d, ev⟩
  · have ee := iadd_e ev (by omega) (by omega)
    have t := INT_x P h0 hL (t := w.toInt) (by rw [if_pos ⟨by omega, by omega⟩]; exact b4)
    exact ⟨insv_s a2 h0 e t ee, by omega, by omega⟩
  · have t := INT_x P h0 hL (t := 0) (by rw [if_neg (fun q => absurd q.2 (by omega))])
    rw [ev]
    exact ⟨insv_s a2 h0 e t (Int.add_zero _).symm, a3, by omega⟩
/-- incomeBy -/
def INB (g0 g' : List en_E) (x fee r : Int) : Prop := GOKX g0 → GOKX g' ∧ (INP g0 x fee → r = INCX g0 (ASKF g0) x fee)
theorem INB_mk {sum : Int} (h : INL g0 g x fee l sum) (hl : l = (gI g0 1 4).toInt) (hr : r = sum) : INB g0 g x fee r := fun k1 => by
  obtain ⟨a1, a0⟩ := h k1
  refine ⟨a1, fun P => ?_⟩
  rw [hr, (a0 P).1, hl]
  rfl
/-- the others' costs, load by load -/
def OTL (g0 g : List en_E) (x k : Int) : Prop := GOKX g0 → GOKX g ∧ (ASKB g0 → VLD g0 → OTH g0 g x k)
theorem OTL_z (hF : FSX g0 g) (e5 : gI g 223 5 = gI g0 223 5) (e6 : gI g 223 6 = gI g0 223 6) (ea : gA g 226 = gA g0 226) (hk : k = 0) : OTL g0 g x k := fun k1 => ⟨GOKX_c hF e5 e6 ea k1, fun _ _ l l0 l1 => absurd l1 (by omega)⟩
theorem OTL_s (h : OTL g0 g x k) (hF0 : FSX g0 g) (f24 : gA g 224 = gA g0 224) (q : CBP g g1 k x v.toInt) (f25 : gA g1 225 = gA g 225) (hS : Sh g1) (h0 : 0 ≤ k) (h8 : k < 8) (hL : k < (gI g0 1 4).toInt) (e : k2 = k + 1) : OTL g0 (sA g1 225 k v) x k2 := fun k1 => by
  obtain ⟨a1, a0⟩ := h k1
  obtain ⟨b1, b2⟩ := q a1
  refine ⟨GOKX_c (FSX_A rfl) gI_sW gI_sW (gA_sA_ne (by decide)) b1, fun hB hV l l0 l1 => ?_⟩
  by_cases c : l = k
  · subst c
    rw [eA_sA_eq hS ka_225 rfl h0 (by omega)]
    have w := (hV.2 l h0 hL).2
    have z := b2 (ASKB_c hF0 f24 hB) h0 (by rw [hF0.2.2.2.2.1]; exact hL) (by rw [eA_tq hF0.2.2.1]; exact w)
    rw [NX_f hF0, GAX_c hF0 f24, eA_tq hF0.2.2.1, eA_tq hF0.2.2.1] at z
    exact z
  · rw [eA_sA_ne hS ka_225 c h0 l0, eA_tq f25]
    exact a0 hB hV l l0 (by omega)
def PRE (g : List en_E) (x : Int) : Prop := ASKB g ∧ VLD g ∧ 0 ≤ x ∧ x < (gI g 1 0).toInt
/-- the dearest of the first k fees -/
def AML (g0 g : List en_E) (x k t b : Int) : Prop := GOKX g0 → GOKX g ∧ (PRE g0 x → OTH g0 g x (gI g0 1 4).toInt ∧ t = (amx (INCX g0 (ASKF g0) x) k.toNat).1 ∧ b = (amx (INCX g0 (ASKF g0) x) k.toNat).2)
/-- incomeBy, asked behind the others' costs -/
theorem INB_v (hF : FSX g0 g) (f24 : gA g 224 = gA g0 224) (P : PRE g0 x) (o : OTH g0 g x (gI g0 1 4).toInt) (hf : 0 ≤ fee ∧ fee < 100) (q : INP g x fee → r = INCX g (ASKF g) x fee) : r = INCX g0 (ASKF g0) x fee := by
  rw [q ⟨VLD_c hF P.2.1, by rw [hF.2.2.2.2.1]; exact OTH_b hF f24 o, P.2.2.1, by rw [hF.2.2.2.1]; exact P.2.2.2, hf.1, hf.2⟩, ASKF_c f24, INCX_c hF]
theorem OTL_l (h : OTL g0 g x k) (e : k = k2) : OTL g0 g x k2 := e ▸ h
theorem INB_f (q : INB g g1 x fee r) {fee2 : Int} (e : fee = fee2) : INB g g1 x fee2 r := e ▸ q
theorem AML_z (h : OTL g0 g x (gI g0 1 4).toInt) (q : INB g g1 x fee r) (hF : FSX g1 g2) (e5 : gI g2 223 5 = gI g1 223 5) (e6 : gI g2 223 6 = gI g1 223 6) (ea : gA g2 226 = gA g1 226) (f25 : gA g2 225 = gA g 225) (hk : k = 0) (ht : t = -1) (hb : b = 0) : AML g0 g2 x k t b := fun k1 => by
  obtain ⟨a1, a0⟩ := h k1
  subst hk
  exact ⟨GOKX_c hF e5 e6 ea (q a1).1, fun P => ⟨OTH_e f25 (a0 P.1 P.2.1), ht, hb⟩⟩
theorem AML_s (h : AML g0 g x k t b) (hF : FSX g0 g) (f24 : gA g 224 = gA g0 224) (q : INB g g1 x k r) (hF2 : FSX g1 g2) (e5 : gI g2 223 5 = gI g1 223 5) (e6 : gI g2 223 6 = gI g1 223 6) (ea : gA g2 226 = gA g1 226) (f25 : gA g2 225 = gA g 225) (h0 : 0 ≤ k) (h1 : k < 100) (e : k2 = k + 1) (es : (t < r ∧ t2 = r ∧ b2 = k) ∨ (r ≤ t ∧ t2 = t ∧ b2 = b)) : AML g0 g2 x k2 t2 b2 := fun k1 => by
  obtain ⟨a1, a0⟩ := h k1
  obtain ⟨b1, b3⟩ := q a1
  refine ⟨GOKX_c hF2 e5 e6 ea b1, fun P => ?_⟩
  obtain ⟨o, c⟩ := a0 P
  exact ⟨OTH_e f25 o, amx_s c h0 e (INB_v hF f24 P o ⟨h0, h1⟩ b3) es⟩
/-- seekAnswer -/
def SAP (g0 g' : List en_E) (x : Int) : Prop := GOKX g0 → GOKX g' ∧ (PRE g0 x → (gI g' 223 9).toInt = INCX g0 (ASKF g0) x (ASKF g0 x) ∧ (gI g' 223 8).toInt = (amx (INCX g0 (ASKF g0) x) 100).1 ∧ (gI g' 223 7).toInt = (amx (INCX g0 (ASKF g0) x) 100).2)
/-- what was got as things are, kept beside the search -/
def SAI (g0 g : List en_E) (x i : Int) : Prop := GOKX g0 → (PRE g0 x → i = INCX g0 (ASKF g0) x (ASKF g0 x))
theorem SAI_mk (h : OTL g0 g x (gI g0 1 4).toInt) (hF : FSX g0 g) (f24 : gA g 224 = gA g0 224) (q : INB g g1 x (ASKF g x) r) : SAI g0 g1 x r := fun k1 P => by
  obtain ⟨a1, a0⟩ := h k1
  have z := P.1 x P.2.2.1 P.2.2.2
  rw [ASKF_c f24] at q
  exact INB_v hF f24 P (a0 P.1 P.2.1) z (q a1).2
theorem SAI_e (i : SAI g0 g x s) (e : r = s) : SAI g0 g1 x r := fun k1 P => e.trans (i k1 P)
theorem SAP_mk (h : AML g0 g x k t b) (hk : k = 100) (i : SAI g0 g1 x s) (hi : (gI g 223 9).toInt = s) (ht : (gI g 223 8).toInt = t) (hb : (gI g 223 7).toInt = b) : SAP g0 g x := fun k1 => by
  obtain ⟨a1, a0⟩ := h k1
  subst hk
  refine ⟨a1, fun P => ?_⟩
  obtain ⟨_, c1, c2⟩ := a0 P
  exact ⟨hi.trans (i k1 P), ht.trans c1, hb.trans c2⟩
theorem GKP_sa (h : GKP g0 g) (c : SAP g g1 x) : GKP g0 g1 := fun z => (c (h z)).1
theorem GKP_ib (h : GKP g0 g) (c : INB g g1 x fee r) : GKP g0 g1 := fun z => (c (h z)).1
end INXS
/-! ===== income, answer, restless, rests: the class ===== -/
def FEEF (g : List en_E) (s : Int) : Int := (eA g 4 s).toInt
def NRM (A : Int → Int) : Int → Int := fun s => if 0 ≤ s ∧ s < 12 then A s else 0
def MVX (I : (Int → Int) → Int → Int → Int) (A : Int → Int) (j : Int) : Prop := I A j (A j) < (amx (I A j) 100).1
/-- the first who moves -/
def RST (I : (Int → Int) → Int → Int → Int) (A : Int → Int) (S r : Int) : Prop := (r = -1 ∧ ∀ j : Int, 0 ≤ j → j < S → ¬ MVX I A j) ∨ (0 ≤ r ∧ r < S ∧ MVX I A r ∧ ∀ j : Int, 0 ≤ j → j < r → ¬ MVX I A j)
theorem RST_u {I : (Int → Int) → Int → Int → Int} {A : Int → Int} {S r r' : Int} (a : RST I A S r) (b : RST I A S r') : r = r' := by
  rcases a with ⟨a1, a2⟩ | ⟨a1, a2, a3, a4⟩ <;> rcases b with ⟨b1, b2⟩ | ⟨b1, b2, b3, b4⟩
  · omega
  · exact absurd b3 (a2 r' b1 b2)
  · exact absurd a3 (b2 r a1 a2)
  · rcases Int.lt_trichotomy r r' with h | h | h
    · exact absurd a3 (b4 r a1 h)
    · exact h
    · exact absurd b3 (a4 r' b1 h)
theorem setF_stay {I : (Int → Int) → Int → Int → Int} {S : Nat} {A : Int → Int} {k : Nat} (h : (setF I S A k).2.1 = 0) : ∀ d : Nat, setF I S A (k + d) = setF I S A k
  | 0 => rfl
  | d + 1 => by
    show (if (setF I S A (k + d)).2.1 = 0 then setF I S A (k + d) else _) = _
    rw [setF_stay h d, if_pos h]
section INYS
variable {g0 g g1 g2 g3 gr : List en_E} {x f s s2 k k2 m m0 m2 r : Int} {v : Int32} {A Ar : Int → Int}
theorem NRM_e (h : ∀ s : Int, 0 ≤ s → s < 12 → A s = Ar s) : NRM A = NRM Ar := funext (fun s => by
  unfold NRM
  by_cases c : 0 ≤ s ∧ s < 12
  · rw [if_pos c, if_pos c]; exact h s c.1 c.2
  · rw [if_neg c, if_neg c])
theorem NRM_n : NRM (NRM A) = NRM A := NRM_e (fun s s0 s1 => by unfold NRM; rw [if_pos ⟨s0, s1⟩])
theorem NRM_i (h : 0 ≤ s ∧ s < 12) : NRM A s = A s := if_pos h
theorem INCX_n (hV : VLD g) : INCX g (NRM A) x f = INCX g A x f := insv_c _ (fun l l0 l1 => by
  have t := hV.1
  have w := hV.2 l l0 (by omega)
  exact inT_c (M := 12) (NX.e g) (fun s => (NX.rg g s).imp_right (fun z => ⟨z.1, by omega⟩)) w.1 w.2 (fun s s0 s1 _ => by
    show GTX g l s (NRM A s) = GTX g l s (A s)
    rw [NRM_i ⟨s0, s1⟩]))
theorem INCX_f (hF : FSX g0 g) : INCX g A x = INCX g0 A x := funext (fun _ => INCX_c hF)
theorem INCX_m (hV : VLD g) : INCX g (NRM A) x = INCX g A x := funext (fun _ => INCX_n hV)
theorem ASKF_b (e : gA g1 224 = gA g0 4) : ASKF g1 = FEEF g0 := funext (fun s => by unfold ASKF FEEF eA; rw [e])
def PRF (g : List en_E) (x : Int) : Prop := FEEB g ∧ VLD g ∧ 0 ≤ x ∧ x < (gI g 1 0).toInt
theorem ASKB_b (b : BGP g0 g1) (h : FEEB g0) : ASKB g1 := fun s s0 s1 => by
  rw [b.2.2.2.2.2.1] at s1
  have e : (eA g1 224 s).toInt = (eA g0 4 s).toInt := congrFun (ASKF_b b.2.1) s
  rw [e]
  exact h s s0 s1
theorem PRE_b (b : BGP g0 g1) (h : PRF g0 x) : PRE g1 x := ⟨ASKB_b b h.1, VLD_c b.2.2 h.2.1, h.2.2.1, by rw [b.2.2.2.2.2.1]; exact h.2.2.2⟩
/-- incomeOf, answerOf: what was sought -/
def SOP (g0 g' : List en_E) (x : Int) : Prop := TOLDX g0 → LOKX g0 → TOLDX g' ∧ (PRF g0 x → (gI g' 223 9).toInt = INCX g0 (FEEF g0) x (FEEF g0 x) ∧ (gI g' 223 8).toInt = (amx (INCX g0 (FEEF g0) x) 100).1 ∧ (gI g' 223 7).toInt = (amx (INCX g0 (FEEF g0) x) 100).2)
theorem SOP_mk (b : BGP g0 g1) (q : SAP g1 g x) : SOP g0 g x := fun t l => by
  obtain ⟨a1, a2⟩ := q (b.1 t l)
  refine ⟨a1.2.1, fun P => ?_⟩
  have z := a2 (PRE_b b P)
  rw [ASKF_b b.2.1, INCX_f b.2.2] at z
  exact z
/-- incomeOf -/
def IOP (g0 g' : List en_E) (x r : Int) : Prop := TOLDX g0 → LOKX g0 → TOLDX g' ∧ (PRF g0 x → r = INCX g0 (FEEF g0) x (FEEF g0 x))
theorem IOP_mk (q : SOP g0 g x) (e : (gI g 223 9).toInt = r) : IOP g0 g x r := fun t l => ⟨(q t l).1, fun P => e.symm.trans ((q t l).2 P).1⟩
/-- answerOf -/
def AOP (g0 g' : List en_E) (x w r : Int) : Prop := TOLDX g0 → LOKX g0 → TOLDX g' ∧ (PRF g0 x → r = if w = 0 then (amx (INCX g0 (FEEF g0) x) 100).2 else (amx (INCX g0 (FEEF g0) x) 100).1)
theorem AOP_mk {w : Int} (q : SOP g0 g x) (e : (w = 0 ∧ (gI g 223 7).toInt = r) ∨ (w ≠ 0 ∧ (gI g 223 8).toInt = r)) : AOP g0 g x w r := fun t l => ⟨(q t l).1, fun P => by
  have z := ((q t l).2 P).2
  rcases e with ⟨a, b⟩ | ⟨a, b⟩
  · rw [if_pos a]; exact b.symm.trans z.2
  · rw [if_neg a]; exact b.symm.trans z.1⟩
/-- nobody before s moves -/
def RSL (g1 g : List en_E) (s : Int) : Prop := GOKX g1 → GOKX g ∧ (ASKB g1 → VLD g1 → ∀ j : Int, 0 ≤ j → j < s → ¬ MVX (INCX g1) (ASKF g1) j)
theorem RSL_z (h : s ≤ 0) : RSL g1 g1 s := fun k => ⟨k, fun _ _ j j0 j1 => absurd j1 (by omega)⟩
theorem SAP_v (hF : FSX g1 g) (f24 : gA g 224 = gA g1 224) (hB : ASKB g1) (hV : VLD g1) (hs : 0 ≤ s ∧ s < (gI g1 1 0).toInt) (q : PRE g s → (gI g2 223 9).toInt = INCX g (ASKF g) s (ASKF g s) ∧ (gI g2 223 8).toInt = (amx (INCX g (ASKF g) s) 100).1 ∧ (gI g2 223 7).toInt = (amx (INCX g (ASKF g) s) 100).2) : (gI g2 223 9).toInt = INCX g1 (ASKF g1) s (ASKF g1 s) ∧ (gI g2 223 8).toInt = (amx (INCX g1 (ASKF g1) s) 100).1 ∧ (gI g2 223 7).toInt = (amx (INCX g1 (ASKF g1) s) 100).2 := by
  have z := q ⟨ASKB_c hF f24 hB, VLD_c hF hV, hs.1, by rw [hF.2.2.2.1]; exact hs.2⟩
  rw [ASKF_c f24, INCX_f hF] at z
  exact z
theorem RSL_s (h : RSL g1 g s) (hF : FSX g1 g) (f24 : gA g 224 = gA g1 224) (q : SAP g g2 s) (hs : 0 ≤ s ∧ s < (gI g1 1 0).toInt) (hn : (gI g2 223 8).toInt ≤ (gI g2 223 9).toInt) (e : s2 = s + 1) : RSL g1 g2 s2 := fun k => by
  obtain ⟨a1, a2⟩ := h k
  obtain ⟨b1, b2⟩ := q a1
  refine ⟨b1, fun hB hV j j0 j1 => ?_⟩
  by_cases c : j = s
  · have z := SAP_v hF f24 hB hV hs b2
    subst c
    unfold MVX
    omega
  · exact a2 hB hV j j0 (by omega)
def FRP (g0 g' : List en_E) (r : Int) : Prop := TOLDX g0 → LOKX g0 → TOLDX g' ∧ (FEEB g0 → VLD g0 → RST (INCX g0) (FEEF g0) (gI g0 1 0).toInt r)
theorem RST_b (b : BGP g0 g1) (h : RST (INCX g1) (ASKF g1) (gI g1 1 0).toInt r) : RST (INCX g0) (FEEF g0) (gI g0 1 0).toInt r := by
  have e : INCX g1 = INCX g0 := funext (fun _ => funext (fun _ => INCX_f b.2.2))
  rw [ASKF_b b.2.1, e, b.2.2.2.2.2.1] at h
  exact h
theorem FRP_y (b : BGP g0 g1) (h : RSL g1 g s) (hF : FSX g1 g) (f24 : gA g 224 = gA g1 224) (q : SAP g g2 s) (hs : 0 ≤ s ∧ s < (gI g1 1 0).toInt) (hn : (gI g2 223 9).toInt < (gI g2 223 8).toInt) (e : r = s) : FRP g0 g2 r := fun t l => by
  obtain ⟨a1, a2⟩ := h (b.1 t l)
  obtain ⟨b1, b2⟩ := q a1
  subst e
  refine ⟨b1.2.1, fun hB hV => RST_b b ?_⟩
  have hB1 := ASKB_b b hB
  have hV1 := VLD_c b.2.2 hV
  have z := SAP_v hF f24 hB1 hV1 hs b2
  exact Or.inr ⟨hs.1, hs.2, by unfold MVX; omega, a2 hB1 hV1⟩
theorem FRP_n (b : BGP g0 g1) (h : RSL g1 g s) (hs : (gI g1 1 0).toInt ≤ s) (e : r = -1) : FRP g0 g r := fun t l => by
  obtain ⟨a1, a2⟩ := h (b.1 t l)
  refine ⟨a1.2.1, fun hB hV => RST_b b (Or.inl ⟨e, fun j j0 j1 => a2 (ASKB_b b hB) (VLD_c b.2.2 hV) j j0 (by omega)⟩)⟩
-- rounds
/-- within a round -/
def SEN (g1 g : List en_E) (Ar : Int → Int) (s m : Int) : Prop := GOKX g1 → GOKX g ∧ (ASKB g1 → VLD g1 → ASKB g ∧ NRM (ASKF g) = (rndF (INCX g1) Ar s.toNat).1 ∧ m = (rndF (INCX g1) Ar s.toNat).2)
/-- between rounds -/
def SEO (g1 g : List en_E) (k m : Int) : Prop := GOKX g1 → GOKX g ∧ (ASKB g1 → VLD g1 → ASKB g ∧ setF (INCX g1) (gI g1 1 0).toInt.toNat (NRM (ASKF g1)) k.toNat = (NRM (ASKF g), m, k))
theorem SEO_z (hF : FSX g1 g) (e5 : gI g 223 5 = gI g1 223 5) (e6 : gI g 223 6 = gI g1 223 6) (ea : gA g 226 = gA g1 226) (f24 : gA g 224 = gA g1 224) (hk : k = 0) (hm : m = 1) : SEO g1 g k m := fun z => by
  subst hk hm
  refine ⟨GOKX_c hF e5 e6 ea z, fun hB hV => ⟨ASKB_c hF f24 hB, ?_⟩⟩
  rw [ASKF_c f24]
  rfl
theorem SEN_z (h : SEO g1 gr k m0) (hF : FSX gr g) (e5 : gI g 223 5 = gI gr 223 5) (e6 : gI g 223 6 = gI gr 223 6) (ea : gA g 226 = gA gr 226) (f24 : gA g 224 = gA gr 224) (hs : s = 0) (hm : m = 0) : SEN g1 g (NRM (ASKF gr)) s m := fun z => by
  obtain ⟨a1, a2⟩ := h z
  subst hs hm
  refine ⟨GOKX_c hF e5 e6 ea a1, fun hB hV => ⟨ASKB_c hF f24 (a2 hB hV).1, ?_, rfl⟩⟩
  rw [ASKF_c f24]
  rfl
theorem SEN_v (hF : FSX g1 g) (hV : VLD g1) (hB : ASKB g) (hs : 0 ≤ s ∧ s < (gI g1 1 0).toInt) (q : PRE g s → (gI g2 223 9).toInt = INCX g (ASKF g) s (ASKF g s) ∧ (gI g2 223 8).toInt = (amx (INCX g (ASKF g) s) 100).1 ∧ (gI g2 223 7).toInt = (amx (INCX g (ASKF g) s) 100).2) : (gI g2 223 9).toInt = INCX g1 (NRM (ASKF g)) s (NRM (ASKF g) s) ∧ (gI g2 223 8).toInt = (amx (INCX g1 (NRM (ASKF g)) s) 100).1 ∧ (gI g2 223 7).toInt = (amx (INCX g1 (NRM (ASKF g)) s) 100).2 := by
  have t := hV.1
  have z := q ⟨hB, VLD_c hF hV, hs.1, by rw [hF.2.2.2.1]; exact hs.2⟩
  rw [INCX_f hF] at z
  rw [INCX_m hV, NRM_i (s := s) ⟨hs.1, by omega⟩]
  exact z
/-- he stays -/
theorem SEN_n (h : SEN g1 g Ar s m) (hF : FSX g1 g) (q : SAP g g2 s) (f24 : gA g2 224 = gA g 224) (hF2 : FSX g g2) (hs : 0 ≤ s ∧ s < (gI g1 1 0).toInt) (hn : (gI g2 223 8).toInt ≤ (gI g2 223 9).toInt) (e : s2 = s + 1) : SEN g1 g2 Ar s2 m := fun k => by
  obtain ⟨a1, a2⟩ := h k
  obtain ⟨b1, b2⟩ := q a1
  refine ⟨b1, fun hB hV => ?_⟩
  obtain ⟨c1, c2, c3⟩ := a2 hB hV
  have z := SEN_v hF hV c1 hs b2
  subst e
  rw [show (s + 1).toNat = s.toNat + 1 by omega]
  have st : (rndF (INCX g1) Ar (s.toNat + 1)) = rndF (INCX g1) Ar s.toNat := by
    show stpF (INCX g1) (rndF (INCX g1) Ar s.toNat).1 (rndF (INCX g1) Ar s.toNat).2 (s.toNat : Int) = _
    rw [show (s.toNat : Int) = s by omega, ← c2]
    unfold stpF
    rw [if_neg (by omega), c2]
  rw [st]
  exact ⟨ASKB_c hF2 f24 c1, by rw [ASKF_c f24]; exact c2, c3⟩
/-- he moves -/
theorem SEN_y (h : SEN g1 g Ar s m) (hF : FSX g1 g) (q : SAP g g2 s) (f24 : gA g2 224 = gA g 224) (hF2 : FSX g g2) (hS : Sh g2) (hs : 0 ≤ s ∧ s < (gI g1 1 0).toInt) (s12 : s < 12) (hn : (gI g2 223 9).toInt < (gI g2 223 8).toInt) (hv : v.toInt = (gI g2 223 7).toInt) (hm : m2 = 1) (e : s2 = s + 1) : SEN g1 (sA g2 224 s v) Ar s2 m2 := fun k => by
  obtain ⟨a1, a2⟩ := h k
  obtain ⟨b1, b2⟩ := q a1
  refine ⟨GOKX_c (FSX_A rfl) gI_sW gI_sW (gA_sA_ne (by decide)) b1, fun hB hV => ?_⟩
  obtain ⟨c1, c2, c3⟩ := a2 hB hV
  have z := SEN_v hF hV c1 hs b2
  have y := amx_rg (INCX g1 (NRM (ASKF g)) s) 100
  subst e hm
  rw [show (s + 1).toNat = s.toNat + 1 by omega]
  have st : (rndF (INCX g1) Ar (s.toNat + 1)) = (updF (NRM (ASKF g)) s (gI g2 223 7).toInt, 1) := by
    show stpF (INCX g1) (rndF (INCX g1) Ar s.toNat).1 (rndF (INCX g1) Ar s.toNat).2 (s.toNat : Int) = _
    rw [show (s.toNat : Int) = s by omega, ← c2]
    unfold stpF
    rw [if_pos (by omega), ← z.2.2]
  rw [st]
  refine ⟨fun j j0 j1 => ?_, ?_, rfl⟩
  · rw [show gI (sA g2 224 s v) 1 0 = gI g2 1 0 from gI_sW] at j1
    by_cases c : j = s
    · rw [eA_sA_eq hS ka_224 c hs.1 (by omega), hv, z.2.2]
      omega
    · rw [eA_sA_ne hS ka_224 c hs.1 j0, eA_tq f24]
      rw [hF2.2.2.2.1] at j1
      exact c1 j j0 j1
  · funext j
    show NRM (ASKF (sA g2 224 s v)) j = if j = s then (gI g2 223 7).toInt else NRM (ASKF g) j
    unfold NRM
    by_cases cj : 0 ≤ j ∧ j < 12
    · rw [if_pos cj, if_pos cj]
      by_cases c : j = s
      · rw [if_pos c]
        show (eA (sA g2 224 s v) 224 j).toInt = _
        rw [eA_sA_eq hS ka_224 c hs.1 (by omega)]
        exact hv
      · rw [if_neg c]
        show (eA (sA g2 224 s v) 224 j).toInt = (eA g 224 j).toInt
        rw [eA_sA_ne hS ka_224 c hs.1 cj.1, eA_tq f24]
    · rw [if_neg cj, if_neg cj, if_neg (by omega)]
theorem SEO_s (h : SEO g1 gr k m0) (hm : m0 ≠ 0) (n : SEN g1 g (NRM (ASKF gr)) s m) (hs : s = (gI g1 1 0).toInt) (h0 : 0 ≤ k) (e : k2 = k + 1) : SEO g1 g k2 m := fun z => by
  obtain ⟨a1, a2⟩ := h z
  obtain ⟨b1, b2⟩ := n z
  refine ⟨b1, fun hB hV => ?_⟩
  obtain ⟨c1, c2⟩ := a2 hB hV
  obtain ⟨d1, d2, d3⟩ := b2 hB hV
  subst e hs
  refine ⟨d1, ?_⟩
  rw [show (k + 1).toNat = k.toNat + 1 by omega]
  show (if (setF (INCX g1) (gI g1 1 0).toInt.toNat (NRM (ASKF g1)) k.toNat).2.1 = 0 then _ else _) = _
  rw [c2, if_neg hm, ← d2, ← d3]
/-- the rounds' end -/
noncomputable def FIN (g : List en_E) : (Int → Int) × Int × Int := setF (INCX g) (gI g 1 0).toInt.toNat (NRM (FEEF g)) 50
noncomputable def RDS (g : List en_E) : Int := if (FIN g).2.1 = 0 then (FIN g).2.2 else 51
/-- settled -/
def SETV (g0 g : List en_E) : Prop := FEEB g0 → VLD g0 → (gI g 223 11).toInt = RDS g0 ∧ ∀ s : Int, 0 ≤ s → s < (gI g0 1 0).toInt → (eA g 227 s).toInt = (FIN g0).1 s
def SETX (g : List en_E) : Prop := (gI g 223 10).toInt ≠ 0 → SETV g g
theorem SET_fin (b : BGP g0 g1) (t : TOLDX g0) (l : LOKX g0) (h : SEO g1 g k m) (hk : 0 ≤ k ∧ k ≤ 50) (hm : m = 0 ∨ k = 50) (hr : (m = 0 ∧ r = k) ∨ (m ≠ 0 ∧ r = k + 1)) (B : Int → Int) (hB : ∀ s : Int, 0 ≤ s → s < 12 → B s = (eA g 224 s).toInt) : FEEB g0 → VLD g0 → r = RDS g0 ∧ ∀ s : Int, 0 ≤ s → s < (gI g0 1 0).toInt → B s = (FIN g0).1 s := fun fb hV => by
  obtain ⟨a1, a2⟩ := h (b.1 t l)
  obtain ⟨c1, c2⟩ := a2 (ASKB_b b fb) (VLD_c b.2.2 hV)
  have e : INCX g1 = INCX g0 := funext (fun _ => funext (fun _ => INCX_f b.2.2))
  rw [e, b.2.2.2.2.2.1, ASKF_b b.2.1] at c2
  have ef : FIN g0 = (NRM (ASKF g), m, k) := by
    unfold FIN
    rcases hm with hm | hm
    · have z := setF_stay (I := INCX g0) (S := (gI g0 1 0).toInt.toNat) (A := NRM (FEEF g0)) (k := k.toNat) (by rw [c2]; exact hm) (50 - k.toNat)
      rw [show k.toNat + (50 - k.toNat) = 50 by omega] at z
      rw [z, c2]
    · rw [show (50 : Nat) = k.toNat by omega, c2]
  unfold RDS
  rw [ef]
  have t12 := hV.1
  refine ⟨?_, fun s s0 s1 => ?_⟩
  · show r = if m = 0 then k else 51
    rcases hr with ⟨p, q⟩ | ⟨p, q⟩
    · rw [if_pos p]; exact q
    · rw [if_neg p, q]; omega
  · show B s = NRM (ASKF g) s
    rw [NRM_i ⟨s0, by omega⟩]
    exact hB s s0 (by omega)
/-- settle -/
def SEP (g0 g' : List en_E) : Prop := TOLDX g0 → LOKX g0 → SETX g0 → TOLDX g' ∧ SETV g0 g'
theorem TLK_io (h : IOP g0 g x r) : TLK g0 g := fun t l => (h t l).1
/-- income -/
def IOQ (g0 g' : List en_E) (x r : Int) : Prop := (¬ (0 ≤ x ∧ x < (gI g0 1 0).toInt) → r = -1 ∧ (TOLDX g0 → TOLDX g')) ∧ (0 ≤ x ∧ x < (gI g0 1 0).toInt → IOP g0 g' x r)
/-- answer -/
def AOQ (g0 g' : List en_E) (x w r : Int) : Prop := (¬ ((0 ≤ x ∧ x < (gI g0 1 0).toInt) ∧ 0 ≤ w ∧ w ≤ 1) → r = -1 ∧ (TOLDX g0 → TOLDX g')) ∧ ((0 ≤ x ∧ x < (gI g0 1 0).toInt) ∧ 0 ≤ w ∧ w ≤ 1 → AOP g0 g' x w r)
end INYS
/-! ===== what a stand gets: the reference ===== -/
theorem psv_q {g : List en_E} {x f : Int} (hf : f = -1 ∨ (0 ≤ f ∧ f < (eA g 233 0).toInt)) : ∀ k : Nat, psv (NMq g) x f k = psv (NM g) x f k
  | 0 => rfl
  | k + 1 => by
    show (if itv (NMq g) k f = x then 1 else psv (NMq g) x f k) = (if itv (NM g) k f = x then 1 else psv (NM g) x f k)
    rw [psv_q hf k, NMq.it k hf]
/-- what a fee f brings, all else as it stands -/
def GTW (g : List en_E) (l s f : Int) : Int := clp (if (eA g 233 3).toInt < 0 then f else TMW (RWM g (eA g 233 3).toInt) (WWF l (LDM g l 0) (LDM g l 4) s (NMo g s) 0 0 (eA g 246 s).toInt f) (RWM g (eA g 233 3).toInt 1).toNat f)
def FLM (g : List en_E) (l : Int) : Int := (eA g 233 (46 + (6 * l + 1))).toInt
def WLM (g : List en_E) (l : Int) : Int := (eA g 233 (46 + (6 * l + 2))).toInt
def PLM (g : List en_E) (l : Int) : Int := (eA g 233 (46 + (6 * l + 5))).toInt
def ASKM (g : List en_E) (s : Int) : Int := (eA g 247 s).toInt
noncomputable def INTM (g : List en_E) (A : Int → Int) (x fee l : Int) : Int := inT (NM g) (fun s => GTW g l s (A s)) (wayn (NM g) (FLM g l) (WLM g l)) (FLM g l) (PLM g l) x (GTW g l x fee)
noncomputable def INCM (g : List en_E) (A : Int → Int) (x fee : Int) : Int := insv (INTM g A x fee) (eA g 233 1).toInt.toNat
/-- rows and strengths the same -/
def SAM (g0 g : List en_E) : Prop := gA g 233 = gA g0 233 ∧ gA g 246 = gA g0 246
theorem GTW_rg (g : List en_E) (l s f : Int) : 0 ≤ GTW g l s f ∧ GTW g l s f ≤ 999 := clp_rg _
section INMS
variable {g0 g g1 g2 : List en_E} {x f l l2 s s2 sum sum2 k k2 n r t b t2 b2 y j j2 c p : Int} {u v w : Int32} {A A' : Int → Int}
theorem SAM_tr (h : SAM g0 g) (q : SAM g g1) : SAM g0 g1 := ⟨q.1.trans h.1, q.2.trans h.2⟩
theorem GTW_c (h : SAM g0 g) : GTW g l s f = GTW g0 l s f := by
  unfold GTW LDM
  rw [eA_tq (j := 3) h.1, RWM_c h.1, NMo.c h.1, eA_tq (j := 46 + 6 * l + 0) h.1, eA_tq (j := 46 + 6 * l + 4) h.1, eA_tq h.2]
theorem NM_f (h : SAM g0 g) : NM g = NM g0 := funext (fun _ => NM.c h.1)
theorem INTM_c (h : SAM g0 g) : INTM g A x f l = INTM g0 A x f l := by
  have e : (fun s => GTW g l s (A s)) = (fun s => GTW g0 l s (A s)) := funext (fun s => GTW_c h)
  unfold INTM FLM WLM PLM
  rw [NM_f h, eA_tq (j := 46 + (6 * l + 1)) h.1, eA_tq (j := 46 + (6 * l + 2)) h.1, eA_tq (j := 46 + (6 * l + 5)) h.1, e, GTW_c h]
theorem INCM_c (h : SAM g0 g) : INCM g A x f = INCM g0 A x f := by
  unfold INCM
  rw [eA_tq (j := 1) h.1]
  exact insv_c _ (fun _ _ _ => INTM_c h)
theorem VLM (hI : HI g) (h0 : 0 ≤ l) (hL : l < (eA g 233 1).toInt) : (0 ≤ FLM g l ∧ FLM g l < (eA g 233 0).toInt) ∧ WLM g l ≠ -1 ∧ (eA g 233 0).toInt ≤ 12 := by
  have t0 := hI.t0
  have t1 := hI.t1
  have w1 := hI.l1 (j := 46 + (6 * l + 1)) l (by omega) (by omega)
  have w2 := hI.l2 (j := 46 + (6 * l + 2)) l (by omega) (by omega)
  unfold FLM WLM
  omega
/-- what hangs on the others' fees only -/
theorem INCM_x (hI : HI g0) (h : ∀ s : Int, 0 ≤ s → s < 12 → s ≠ x → A s = A' s) : INCM g0 A x f = INCM g0 A' x f := insv_c _ (fun l l0 l1 => by
  have t1 := hI.t1
  have w := VLM hI l0 (by omega)
  exact inT_c (M := (eA g0 233 0).toInt) (NM.e g0) (NM.rg g0) (Or.inr w.1) w.2.1 (fun s s0 s1 sx => by
    show GTW g0 l s (A s) = GTW g0 l s (A' s)
    rw [h s s0 (by omega) sx]))
/-- the same, of any heap whose loads go from stands to stands -/
theorem INCM_y (h : ∀ s : Int, 0 ≤ s → s < 12 → A s = A' s) (q : ∀ l : Int, 0 ≤ l → l < (eA g0 233 1).toInt → (0 ≤ FLM g0 l ∧ FLM g0 l < (eA g0 233 0).toInt) ∧ WLM g0 l ≠ -1 ∧ (eA g0 233 0).toInt ≤ 12) : INCM g0 A x f = INCM g0 A' x f := insv_c _ (fun l l0 l1 => by
  by_cases c : l < (eA g0 233 1).toInt
  · have w := q l l0 c
    exact inT_c (M := (eA g0 233 0).toInt) (NM.e g0) (NM.rg g0) (Or.inr w.1) w.2.1 (fun s s0 s1 _ => by
      show GTW g0 l s (A s) = GTW g0 l s (A' s)
      rw [h s s0 (by omega)])
  · omega)
theorem NMq_f (h3 : gA g 233 = gA g0 233) : NMq g = NMq g0 := funext (fun s => by unfold NMq; rw [NMo.c h3])
theorem GTM_f (h3 : gA g 233 = gA g0 233) (h6 : gA g 246 = gA g0 246) (h7 : gA g 247 = gA g0 247) : GTM g l = GTM g0 l := funext (fun _ => GTM_c h3 h6 h7)
theorem ISM_c (h3 : gA g 233 = gA g0 233) (h6 : gA g 246 = gA g0 246) (h7 : gA g 247 = gA g0 247) (i : ISM_ g l r) : ISM_ g0 l r := by
  obtain ⟨c, cm, e⟩ := i
  refine ⟨c, fun L hw => ?_, by rw [e, eA_tq h3]⟩
  have z := cm (LOKM_c h3 L) (by rw [eA_tq h3]; exact hw)
  rw [eA_tq h3, eA_tq h3, NMq_f h3, GTM_f h3 h6 h7] at z
  exact z
/-- behind the first l loads -/
def INW (g0 : List en_E) (x l sum : Int) : Prop := LOKM g0 → sum = insv (INTM g0 (ASKM g0) x (ASKM g0 x)) l.toNat ∧ 0 ≤ sum ∧ sum ≤ 999 * l
theorem INW_z (hl : l = 0) (hs : sum = 0) : INW g0 x l sum := fun _ => by
  subst hl hs
  exact ⟨rfl, by omega, by omega⟩
theorem INT_m (hI : HI g0) (x0 : 0 ≤ x) (h0 : 0 ≤ l) (hL : l < (eA g0 233 1).toInt) (k : CBS (NMq g0) (GTM g0 l) 12 (-1) (FLM g0 l) (WLM g0 l) c) (a : WAYF (NMq g0) 12 (FLM g0 l) (WLM g0 l) n) (e : t = if c ≠ -1 ∧ c ≤ PLM g0 l then (if PSI (NMq g0) x n (FLM g0 l) = 1 then GTM g0 l x else 0) else 0) : t = INTM g0 (ASKM g0) x (ASKM g0 x) l := by
  have q := VLM hI h0 hL
  have ep : PSI (NMq g0) x n (FLM g0 l) = PSI (NM g0) x n (FLM g0 l) := psv_q (Or.inr q.1) _
  rw [ep] at e
  exact inT_m (M := (eA g0 233 0).toInt) (NM.e g0) q.2.2 (NM.rg g0) (by decide) (Or.inr q.1) q.2.1 (by omega) (fun s => (GTW_rg g0 l s _).1) (CBS_q (Or.inr q.1) k) (WAYF.q (Or.inr q.1) a) e
/-- not sent -/
theorem INW_no (h : INW g0 x l sum) (i : ISM_ g0 l r) (hr : r = 0) (hI : HI g0) (x0 : 0 ≤ x) (h0 : 0 ≤ l) (hL : l < (eA g0 233 1).toInt) (e : l2 = l + 1) (es : sum2 = sum) : INW g0 x l2 sum2 := fun L => by
  obtain ⟨a2, a3, a4⟩ := h L
  obtain ⟨c, cm, er⟩ := i
  have q := VLM hI h0 hL
  have c1 := cm L q.2.1
  obtain ⟨n, a, _, _⟩ := id c1
  have nc : ¬ (c ≠ -1 ∧ c ≤ PLM g0 l) := fun z => by
    unfold SNV at er
    rw [if_pos (show c ≠ -1 ∧ c ≤ (eA g0 233 (46 + (6 * l + 5))).toInt from z)] at er
    omega
  have t := INT_m (t := 0) hI x0 h0 hL c1 a (by rw [if_neg nc])
  subst es
  exact ⟨insv_s a2 h0 e t (Int.add_zero _).symm, a3, by omega⟩
/-- along one load's way -/
def IJL (g0 : List en_E) (l x s0 j s : Int) : Prop := LOKM g0 → s = s0 + (if PSI (NMq g0) x j (FLM g0 l) = 1 then GTM g0 l x else 0)
theorem IJ_z {s0 : Int} (hj : j = 0) (es : s = s0) : IJL g0 l x s0 j s := fun _ => by
  subst hj es
  rw [PSI_z (Int.le_refl 0), if_neg (by decide), Int.add_zero]
theorem IJ_ne {s0 : Int} (h : IJL g0 l x s0 j s) (h0 : 0 ≤ j) (e : j2 = j + 1) (ew : y = itI (NMq g0) j (FLM g0 l)) (hy : y ≠ x) (es : s2 = s) : IJL g0 l x s0 j2 s2 := fun L => by
  rw [PSI_ne h0 e ew hy, es]
  exact h L
theorem IJ_eq {s0 : Int} (h : IJL g0 l x s0 j u.toInt) (i : INW g0 x l s0) (h0 : 0 ≤ j) (l0 : 0 ≤ l) (l8 : l ≤ 8) (e : j2 = j + 1) (ew : y = itI (NMq g0) j (FLM g0 l)) (hy : y = x) (a : WLM g0 l ≠ -1 → WAYF (NMq g0) 12 (FLM g0 l) (WLM g0 l) n) (hw : WLM g0 l ≠ -1) (hj : j < n) (q : FEM g l x w.toInt) (h3 : gA g 233 = gA g0 233) (h6 : gA g 246 = gA g0 246) (h7 : gA g 247 = gA g0 247) (ho : v = u + w) : IJL g0 l x s0 j2 v.toInt := fun L => by
  obtain ⟨_, i1, i2⟩ := i L
  have a1 := h L
  have z : PSI (NMq g0) x j (FLM g0 l) = 0 := psv_no (fun i hi ei => WAYF_inj (a hw) (i := i) (j := j.toNat) hi (by omega) (ei.trans (hy.symm.trans ew)))
  rw [z, if_neg (by decide), Int.add_zero] at a1
  rw [PSI_eq h0 e ew hy, if_pos rfl]
  have b1 := q (LOKM_c h3 L)
  rw [GTM_c h3 h6 h7] at b1
  have b2 := GTW_rg g0 l x (ASKM g0 x)
  have b3 : w.toInt = GTW g0 l x (ASKM g0 x) := b1
  have e := iadd_e ho (by omega) (by omega)
  rw [e, a1, b1]
/-- sent -/
theorem INW_ye {s0 : Int} (h : INW g0 x l s0) (i : ISM_ g0 l r) (hr : r ≠ 0) (hI : HI g0) (x0 : 0 ≤ x) (h0 : 0 ≤ l) (hL : l < (eA g0 233 1).toInt) (a : WLM g0 l ≠ -1 → WAYF (NMq g0) 12 (FLM g0 l) (WLM g0 l) n) (q : IJL g0 l x s0 k s) (hk : n ≤ k) (hk2 : k ≤ n ∨ k = 0) (e : l2 = l + 1) : INW g0 x l2 s := fun L => by
  obtain ⟨a2, a3, a4⟩ := h L
  obtain ⟨c, cm, er⟩ := i
  have v := VLM hI h0 hL
  have c1 := cm L v.2.1
  have cc : c ≠ -1 ∧ c ≤ PLM g0 l := by
    apply Classical.byContradiction
    intro z
    unfold SNV at er
    rw [if_neg (show ¬ (c ≠ -1 ∧ c ≤ (eA g0 233 (46 + (6 * l + 5))).toInt) from z)] at er
    exact hr er
  have w := a v.2.1
  have n0 : 0 ≤ n := by
    obtain ⟨m, m1, m2, _⟩ := id c1
    have em := WAYF.same (N := NM g0) (NM.e g0) (fun s => (NM.rg g0 s).imp_right (fun z => ⟨z.1, by omega⟩)) (by decide) (by decide) (Or.inr ⟨v.1.1, by omega⟩) v.2.1 (WAYF.q (Or.inr v.1) m1) (WAYF.q (Or.inr v.1) w)
    have mr := WAYF_rg m1
    have m3 : m ≠ -1 := fun z => cc.1 (m2 z)
    omega
  have ek : k = n := by omega
  subst ek
  have q1 := q L
  have t := INT_m (t := if PSI (NMq g0) x k (FLM g0 l) = 1 then GTM g0 l x else 0) hI x0 h0 hL c1 w (by rw [if_pos cc])
  have b2 := GTW_rg g0 l x (ASKM g0 x)
  have b3 : GTM g0 l x = GTW g0 l x (ASKM g0 x) := rfl
  refine ⟨insv_s a2 h0 e t q1, ?_, ?_⟩ <;> (split at q1 <;> omega)
/-- incomeOf -/
def INR (g0 : List en_E) (x r : Int) : Prop := LOKM g0 → r = INCM g0 (ASKM g0) x (ASKM g0 x)
theorem INR_mk (h : INW g0 x l s) (hl : l = (eA g0 233 1).toInt) (hr : r = s) : INR g0 x r := fun L => by
  rw [hr, (h L).1, hl]
  rfl
/-- the dearest of the first k fees -/
def AMM (g0 g : List en_E) (x k t b : Int) : Prop := SAM g0 g ∧ (∀ s : Int, 0 ≤ s → s < 12 → s ≠ x → ASKM g s = ASKM g0 s) ∧ (LOKM g0 → t = (amx (INCM g0 (ASKM g0) x) k.toNat).1 ∧ b = (amx (INCM g0 (ASKM g0) x) k.toNat).2)
theorem AMM_z (hS : SAM g0 g) (h7 : gA g 247 = gA g0 247) (hk : k = 0) (ht : t = -1) (hb : b = 0) : AMM g0 g x k t b := ⟨hS, fun s _ _ _ => eA_tq h7, fun _ => by
  subst hk
  exact ⟨ht, hb⟩⟩
theorem AMM_s (h : AMM g0 g x k t b) (hI : HI g0) (hS : Sh g) (hx : 0 ≤ x ∧ x < 12) (h0 : 0 ≤ k) (hv : v.toInt = k) (q : INR (sA g 247 x v) x r) (hS2 : SAM (sA g 247 x v) g2) (h7 : gA g2 247 = gA (sA g 247 x v) 247) (e : k2 = k + 1) (es : (t < r ∧ t2 = r ∧ b2 = k) ∨ (r ≤ t ∧ t2 = t ∧ b2 = b)) : AMM g0 g2 x k2 t2 b2 := by
  obtain ⟨a1, a2, a3⟩ := h
  have s1 : SAM g0 (sA g 247 x v) := SAM_tr a1 ⟨gA_sA_ne (by decide), gA_sA_ne (by decide)⟩
  have ot : ∀ s : Int, 0 ≤ s → s < 12 → s ≠ x → ASKM (sA g 247 x v) s = ASKM g0 s := fun s s0 s1 sx => by
    show (eA (sA g 247 x v) 247 s).toInt = _
    rw [eA_sA_ne hS ka_247 sx hx.1 s0]
    exact a2 s s0 s1 sx
  refine ⟨SAM_tr s1 hS2, fun s s0 s1 sx => (eA_tq h7).trans (ot s s0 s1 sx), fun L => ?_⟩
  have z := q (LOKM_c s1.1 L)
  have ex : ASKM (sA g 247 x v) x = k := by
    show (eA (sA g 247 x v) 247 x).toInt = _
    rw [eA_sA_eq hS ka_247 rfl hx.1 (by omega)]
    exact hv
  rw [ex, INCM_c s1, INCM_x hI ot] at z
  exact amx_s (a3 L) h0 e z es
/-- answerOf -/
def ANM (g0 g' : List en_E) (x r top : Int) : Prop := SAM g0 g' ∧ (∀ s : Int, 0 ≤ s → s < 12 → ASKM g' s = ASKM g0 s) ∧ (LOKM g0 → top = (amx (INCM g0 (ASKM g0) x) 100).1 ∧ r = (amx (INCM g0 (ASKM g0) x) 100).2)
theorem ANM_mk (h : AMM g0 g x k t b) (hk : k = 100) (hS : Sh g) (hx : 0 ≤ x ∧ x < 12) (hv : v.toInt = ASKM g0 x) (ht : r = t) (hb : y = b) : ANM g0 (sA g 247 x v) x y r := by
  obtain ⟨a1, a2, a3⟩ := h
  subst hk ht hb
  refine ⟨SAM_tr a1 ⟨gA_sA_ne (by decide), gA_sA_ne (by decide)⟩, fun s s0 s1 => ?_, a3⟩
  show (eA (sA g 247 x v) 247 s).toInt = _
  by_cases c : s = x
  · rw [c, eA_sA_eq hS ka_247 rfl hx.1 (by omega)]
    exact hv
  · rw [eA_sA_ne hS ka_247 c hx.1 s0]
    exact a2 s s0 s1 c
end INMS
/-! ===== restless, rests: the reference ===== -/
section INNS
variable {g0 g g1 g2 g3 gr : List en_E} {x f s s2 k k2 m m0 m2 r v b top : Int} {w : Int32} {A Ar : Int → Int}
/-- the asks the same where stands can be -/
def SA7 (g0 g : List en_E) : Prop := ∀ s : Int, 0 ≤ s → s < 12 → ASKM g s = ASKM g0 s
theorem INCM_r (hI : HI g1) (h : SAM g1 g) : INCM g (ASKM g) x f = INCM g1 (NRM (ASKM g)) x f := by
  rw [INCM_c h]
  exact INCM_x hI (fun s s0 s1 _ => (NRM_i ⟨s0, s1⟩).symm)
theorem NRM_7 (h : SA7 g0 g) : NRM (ASKM g) = NRM (ASKM g0) := NRM_e h
/-- both asked of one stand: as it stands, and the best -/
theorem TWO_m (hI : HI g1) (hS : SAM g1 g) (hs : 0 ≤ s ∧ s < 12) (q : INR g s v) (hS2 : SAM g g2) (h7 : gA g2 247 = gA g 247) (a : ANM g2 g3 s b top) (L : LOKM g1) : v = INCM g1 (NRM (ASKM g)) s (NRM (ASKM g) s) ∧ top = (amx (INCM g1 (NRM (ASKM g)) s) 100).1 ∧ b = (amx (INCM g1 (NRM (ASKM g)) s) 100).2 := by
  have S2 := SAM_tr hS hS2
  have e7 : ASKM g2 = ASKM g := funext (fun _ => eA_tq h7)
  have z := a.2.2 (LOKM_c S2.1 L)
  have e : INCM g2 (ASKM g2) s = INCM g1 (NRM (ASKM g)) s := by
    funext f
    rw [INCM_r hI S2, e7]
  rw [e] at z
  have y := q (LOKM_c hS.1 L)
  rw [INCM_r hI hS] at y
  rw [NRM_i hs]
  exact ⟨y, z⟩
theorem SA7_a (h7 : gA g2 247 = gA g 247) (a : ANM g2 g3 s b top) : SA7 g g3 := fun s s0 s1 => (a.2.1 s s0 s1).trans (eA_tq h7)
/-- nobody before s moves -/
def RSM (g1 g : List en_E) (s : Int) : Prop := SAM g1 g ∧ SA7 g1 g ∧ (LOKM g1 → ∀ j : Int, 0 ≤ j → j < s → ¬ MVX (INCM g1) (NRM (ASKM g1)) j)
theorem RSM_z (h : s ≤ 0) : RSM g1 g1 s := ⟨⟨rfl, rfl⟩, fun _ _ _ => rfl, fun _ j j0 j1 => absurd j1 (by omega)⟩
theorem RSM_s (h : RSM g1 g s) (hI : HI g1) (hs : 0 ≤ s ∧ s < 12) (q : INR g s v) (hS2 : SAM g g2) (h7 : gA g2 247 = gA g 247) (a : ANM g2 g3 s b top) (hn : top ≤ v) (e : s2 = s + 1) : RSM g1 g3 s2 := by
  obtain ⟨a1, a2, a3⟩ := h
  refine ⟨SAM_tr (SAM_tr a1 hS2) a.1, fun j j0 j1 => (SA7_a h7 a j j0 j1).trans (a2 j j0 j1), fun L j j0 j1 => ?_⟩
  by_cases c : j = s
  · have z := TWO_m hI a1 hs q hS2 h7 a L
    rw [NRM_7 a2] at z
    subst c
    unfold MVX
    omega
  · exact a3 L j j0 (by omega)
/-- restless -/
def FSTM (g0 : List en_E) (r : Int) : Prop := LOKM g0 → ∃ g1, gA g1 233 = gA g0 233 ∧ ASM g0 g1 ∧ RST (INCM g1) (NRM (ASKM g1)) (eA g0 233 0).toInt r
theorem FSTM_y (f3 : gA g1 233 = gA g0 233) (as : ASM g0 g1) (h : RSM g1 g s) (hI : HI g1) (hs : 0 ≤ s ∧ s < (eA g0 233 0).toInt) (s12 : s < 12) (q : INR g s v) (hS2 : SAM g g2) (h7 : gA g2 247 = gA g 247) (a : ANM g2 g3 s b top) (hn : v < top) (e : r = s) : FSTM g0 r := fun L => by
  subst e
  have L1 := LOKM_c f3 L
  have z := TWO_m hI h.1 ⟨hs.1, s12⟩ q hS2 h7 a L1
  rw [NRM_7 h.2.1] at z
  exact ⟨g1, f3, as, Or.inr ⟨hs.1, hs.2, by unfold MVX; omega, h.2.2 L1⟩⟩
theorem FSTM_n (f3 : gA g1 233 = gA g0 233) (as : ASM g0 g1) (h : RSM g1 g s) (hs : (eA g0 233 0).toInt ≤ s) (e : r = -1) : FSTM g0 r := fun L => ⟨g1, f3, as, Or.inl ⟨e, fun j j0 j1 => h.2.2 (LOKM_c f3 L) j j0 (by omega)⟩⟩
/-- within a round -/
def SEM (g1 g : List en_E) (Ar : Int → Int) (s m : Int) : Prop := SAM g1 g ∧ (LOKM g1 → NRM (ASKM g) = (rndF (INCM g1) Ar s.toNat).1 ∧ m = (rndF (INCM g1) Ar s.toNat).2)
/-- between rounds -/
def SOM (g1 g : List en_E) (S : Nat) (k m : Int) : Prop := SAM g1 g ∧ (LOKM g1 → setF (INCM g1) S (NRM (ASKM g1)) k.toNat = (NRM (ASKM g), m, k))
theorem SOM_z {S : Nat} (hk : k = 0) (hm : m = 1) : SOM g1 g1 S k m := by
  subst hk hm
  exact ⟨⟨rfl, rfl⟩, fun _ => rfl⟩
theorem SEM_z (h : SAM g1 gr) (hs : s = 0) (hm : m = 0) : SEM g1 gr (NRM (ASKM gr)) s m := by
  subst hs hm
  exact ⟨h, fun _ => ⟨rfl, rfl⟩⟩
theorem SEM_n (h : SEM g1 g Ar s m) (hI : HI g1) (hs : 0 ≤ s ∧ s < 12) (q : INR g s v) (hS2 : SAM g g2) (h7 : gA g2 247 = gA g 247) (a : ANM g2 g3 s b top) (hn : top ≤ v) (e : s2 = s + 1) : SEM g1 g3 Ar s2 m := by
  obtain ⟨a1, a2⟩ := h
  refine ⟨SAM_tr (SAM_tr a1 hS2) a.1, fun L => ?_⟩
  obtain ⟨c2, c3⟩ := a2 L
  have z := TWO_m hI a1 hs q hS2 h7 a L
  subst e
  rw [show (s + 1).toNat = s.toNat + 1 by omega, NRM_7 (SA7_a h7 a)]
  have st : (rndF (INCM g1) Ar (s.toNat + 1)) = rndF (INCM g1) Ar s.toNat := by
    show stpF (INCM g1) (rndF (INCM g1) Ar s.toNat).1 (rndF (INCM g1) Ar s.toNat).2 (s.toNat : Int) = _
    rw [show (s.toNat : Int) = s by omega, ← c2]
    unfold stpF
    rw [if_neg (by omega), c2]
  rw [st]
  exact ⟨c2, c3⟩
theorem SEM_y (h : SEM g1 g Ar s m) (hI : HI g1) (hs : 0 ≤ s ∧ s < 12) (q : INR g s v) (hS2 : SAM g g2) (h7 : gA g2 247 = gA g 247) (a : ANM g2 g3 s b top) (hSh : Sh g3) (hn : v < top) (hw : w.toInt = b) (hm : m2 = 1) (e : s2 = s + 1) : SEM g1 (sA g3 247 s w) Ar s2 m2 := by
  obtain ⟨a1, a2⟩ := h
  refine ⟨SAM_tr (SAM_tr (SAM_tr a1 hS2) a.1) ⟨gA_sA_ne (by decide), gA_sA_ne (by decide)⟩, fun L => ?_⟩
  obtain ⟨c2, c3⟩ := a2 L
  have z := TWO_m hI a1 hs q hS2 h7 a L
  subst e hm
  rw [show (s + 1).toNat = s.toNat + 1 by omega]
  have st : (rndF (INCM g1) Ar (s.toNat + 1)) = (updF (NRM (ASKM g)) s b, 1) := by
    show stpF (INCM g1) (rndF (INCM g1) Ar s.toNat).1 (rndF (INCM g1) Ar s.toNat).2 (s.toNat : Int) = _
    rw [show (s.toNat : Int) = s by omega, ← c2]
    unfold stpF
    rw [if_pos (by omega), ← z.2.2]
  rw [st]
  refine ⟨?_, rfl⟩
  funext j
  show NRM (ASKM (sA g3 247 s w)) j = if j = s then b else NRM (ASKM g) j
  have e7 := SA7_a h7 a
  unfold NRM
  by_cases cj : 0 ≤ j ∧ j < 12
  · rw [if_pos cj, if_pos cj]
    by_cases c : j = s
    · rw [if_pos c]
      show (eA (sA g3 247 s w) 247 j).toInt = _
      rw [eA_sA_eq hSh ka_247 c hs.1 (by omega)]
      exact hw
    · rw [if_neg c]
      show (eA (sA g3 247 s w) 247 j).toInt = _
      rw [eA_sA_ne hSh ka_247 c hs.1 cj.1]
      exact e7 j cj.1 cj.2
  · rw [if_neg cj, if_neg cj, if_neg (by omega)]
theorem SOM_s {S : Nat} (h : SOM g1 gr S k m0) (hm : m0 ≠ 0) (n : SEM g1 g (NRM (ASKM gr)) s m) (hs : s.toNat = S) (h0 : 0 ≤ k) (e : k2 = k + 1) : SOM g1 g S k2 m := by
  obtain ⟨a1, a2⟩ := h
  obtain ⟨b1, b2⟩ := n
  refine ⟨b1, fun L => ?_⟩
  have c2 := a2 L
  obtain ⟨d2, d3⟩ := b2 L
  subst e hs
  rw [show (k + 1).toNat = k.toNat + 1 by omega]
  show (if (setF (INCM g1) s.toNat (NRM (ASKM g1)) k.toNat).2.1 = 0 then _ else _) = _
  rw [c2, if_neg hm, ← d2, ← d3]
/-- rests: of nobody the rounds, else what he asks in the end -/
def RSP (g0 : List en_E) (i r : Int) : Prop := LOKM g0 → ∃ g1, gA g1 233 = gA g0 233 ∧ ASM g0 g1 ∧ r = if i = -1 then (if (setF (INCM g1) (eA g0 233 0).toInt.toNat (NRM (ASKM g1)) 50).2.1 = 0 then (setF (INCM g1) (eA g0 233 0).toInt.toNat (NRM (ASKM g1)) 50).2.2 else 51) else (setF (INCM g1) (eA g0 233 0).toInt.toNat (NRM (ASKM g1)) 50).1 i
theorem RSP_mk {i : Int} (f3 : gA g1 233 = gA g0 233) (as : ASM g0 g1) (h : SOM g1 g (eA g0 233 0).toInt.toNat k m) (hk : 0 ≤ k ∧ k ≤ 50) (hm : m = 0 ∨ k = 50) (hi : i = -1 ∨ (0 ≤ i ∧ i < 12)) (hr : (i = -1 ∧ m ≠ 0 ∧ r = 51) ∨ (i = -1 ∧ m = 0 ∧ r = k) ∨ (i ≠ -1 ∧ r = (eA g 247 i).toInt)) : RSP g0 i r := fun L => by
  refine ⟨g1, f3, as, ?_⟩
  have c := h.2 (LOKM_c f3 L)
  have ef : setF (INCM g1) (eA g0 233 0).toInt.toNat (NRM (ASKM g1)) 50 = (NRM (ASKM g), m, k) := by
    rcases hm with hm | hm
    · have z := setF_stay (I := INCM g1) (S := (eA g0 233 0).toInt.toNat) (A := NRM (ASKM g1)) (k := k.toNat) (by rw [c]; exact hm) (50 - k.toNat)
      rw [show k.toNat + (50 - k.toNat) = 50 by omega] at z
      rw [z, c]
    · rw [show (50 : Nat) = k.toNat by omega, c]
  rw [ef]
  show r = if i = -1 then (if m = 0 then k else 51) else NRM (ASKM g) i
  rcases hr with ⟨p, q, e⟩ | ⟨p, q, e⟩ | ⟨p, e⟩
  · rw [if_pos p, if_neg q]; exact e
  · rw [if_pos p, if_pos q]; exact e
  · rw [if_neg p, NRM_i (by omega)]; exact e
end INNS
/-- the same of both -/
theorem rndF_c {I I' : (Int → Int) → Int → Int → Int} {S : Nat} (h : ∀ (A : Int → Int) (j : Int), 0 ≤ j → j < (S : Int) → I A j = I' A j) (A : Int → Int) : ∀ k : Nat, k ≤ S → rndF I A k = rndF I' A k
  | 0, _ => rfl
  | k + 1, hk => by
    show stpF I (rndF I A k).1 (rndF I A k).2 (k : Int) = stpF I' (rndF I' A k).1 (rndF I' A k).2 (k : Int)
    rw [rndF_c h A k (by omega)]
    unfold stpF
    rw [h _ (k : Int) (by omega) (by omega)]
theorem setF_c {I I' : (Int → Int) → Int → Int → Int} {S : Nat} (h : ∀ (A : Int → Int) (j : Int), 0 ≤ j → j < (S : Int) → I A j = I' A j) (A : Int → Int) : ∀ k : Nat, setF I S A k = setF I' S A k
  | 0 => rfl
  | k + 1 => by
    show (if (setF I S A k).2.1 = 0 then setF I S A k else ((rndF I (setF I S A k).1 S).1, (rndF I (setF I S A k).1 S).2, (setF I S A k).2.2 + 1)) = (if (setF I' S A k).2.1 = 0 then setF I' S A k else ((rndF I' (setF I' S A k).1 S).1, (rndF I' (setF I' S A k).1 S).2, (setF I' S A k).2.2 + 1))
    rw [setF_c h A k, rndF_c h _ S (Nat.le_refl S)]
theorem RST_c {I I' : (Int → Int) → Int → Int → Int} {A : Int → Int} {S r : Int} (h : ∀ j : Int, 0 ≤ j → j < S → I A j = I' A j) (a : RST I A S r) : RST I' A S r := by
  have m : ∀ j : Int, 0 ≤ j → j < S → (MVX I A j ↔ MVX I' A j) := fun j j0 j1 => by unfold MVX; rw [h j j0 j1]
  rcases a with ⟨a1, a2⟩ | ⟨a1, a2, a3, a4⟩
  · exact Or.inl ⟨a1, fun j j0 j1 z => a2 j j0 j1 ((m j j0 j1).mpr z)⟩
  · exact Or.inr ⟨a1, a2, (m r a1 a2).mp a3, fun j j0 j1 z => a4 j j0 j1 ((m j j0 (by omega)).mpr z)⟩
/-- income -/
def IMR (g0 : List en_E) (x r : Int) : Prop := (¬ (0 ≤ x ∧ x < (eA g0 233 0).toInt) → r = -1) ∧ (0 ≤ x ∧ x < (eA g0 233 0).toInt → LOKM g0 → ∃ G, gA G 233 = gA g0 233 ∧ ASM g0 G ∧ r = INCM G (ASKM G) x (ASKM G x))
def AMR (g0 : List en_E) (x w r : Int) : Prop := (¬ ((0 ≤ x ∧ x < (eA g0 233 0).toInt) ∧ 0 ≤ w ∧ w ≤ 1) → r = -1) ∧ ((0 ≤ x ∧ x < (eA g0 233 0).toInt) ∧ 0 ≤ w ∧ w ≤ 1 → LOKM g0 → ∃ G, gA G 233 = gA g0 233 ∧ ASM g0 G ∧ r = if w = 0 then (amx (INCM G (ASKM G) x) 100).2 else (amx (INCM G (ASKM G) x) 100).1)
/-! ===== settle, rests: what stays settled ===== -/
section INZS
variable {g0 g g1 g' : List en_E} {x s k m r w : Int}
theorem FEEF_c (f4 : gA g 4 = gA g0 4) : FEEF g = FEEF g0 := funext (fun _ => eA_tq f4)
theorem FEEB_b (hF : FSX g0 g) (f4 : gA g 4 = gA g0 4) (h : FEEB g) : FEEB g0 := fun s s0 s1 => by
  rw [← hF.2.2.2.1] at s1
  have z := h s s0 s1
  rw [eA_tq f4] at z
  exact z
theorem VLD_b (hF : FSX g0 g) (h : VLD g) : VLD g0 := by
  refine ⟨by rw [← hF.2.2.2.1]; exact h.1, fun l l0 l1 => ?_⟩
  rw [← hF.2.2.2.2.1] at l1
  have z := h.2 l l0 l1
  rw [FLX_c hF, WLX_c hF] at z
  exact z
theorem FIN_c (hF : FSX g0 g) (f4 : gA g 4 = gA g0 4) : FIN g = FIN g0 := by
  unfold FIN
  rw [show INCX g = INCX g0 from funext (fun _ => funext (fun _ => INCX_f hF)), hF.2.2.2.1, FEEF_c f4]
theorem RDS_c (hF : FSX g0 g) (f4 : gA g 4 = gA g0 4) : RDS g = RDS g0 := by
  unfold RDS
  rw [FIN_c hF f4]
theorem SETX_c (hF : FSX g0 g) (f4 : gA g 4 = gA g0 4) (e10 : gI g 223 10 = gI g0 223 10) (e11 : gI g 223 11 = gI g0 223 11) (a : gA g 227 = gA g0 227) (h : SETX g0) : SETX g := fun z fb hV => by
  rw [e10] at z
  obtain ⟨q1, q2⟩ := h z (FEEB_b hF f4 fb) (VLD_b hF hV)
  refine ⟨by rw [e11, RDS_c hF f4]; exact q1, fun s s0 s1 => ?_⟩
  rw [hF.2.2.2.1] at s1
  rw [FIN_c hF f4, eA_tq a]
  exact q2 s s0 s1
theorem SETX_z (h : (gI g 223 10).toInt = 0) : SETX g := fun z => absurd h z
theorem SETX_fr {F : List (Nat × Nat)} {A : List Nat} (h : Fr F A g0 g) (hd : fsF F A = true) (h4 : memA A 4 = false) (h10 : memF F 223 10 = false) (h11 : memF F 223 11 = false) (ha : memA A 227 = false) (t : SETX g0) : SETX g := SETX_c (FSX_fr h hd) (h.2.1 _ h4) (h.1 _ _ h10) (h.1 _ _ h11) (h.2.1 _ ha) t
theorem SETX_s (a2 : gA g' 2 = gA g 2) (a3 : gA g' 3 = gA g 3) (a5 : gA g' 5 = gA g 5) (i0 : gI g' 1 0 = gI g 1 0) (i4 : gI g' 1 4 = gI g 1 4) (i9 : gI g' 1 9 = gI g 1 9) (s : LSM g g' (QFX g) (QFX g)) (f4 : gA g' 4 = gA g 4) (e10 : gI g' 223 10 = gI g 223 10) (e11 : gI g' 223 11 = gI g 223 11) (a : gA g' 227 = gA g 227) (t : SETX g) : SETX g' := SETX_c ⟨a2, a3, a5, i0, i4, i9, s⟩ f4 e10 e11 a t
theorem SEP_old (h : (gI g0 223 10).toInt ≠ 0) : SEP g0 g0 := fun t _ x => ⟨t, x h⟩
theorem SEP_mk (b : BGP g0 g1) (h : SEO g1 g k m) (hF : FSX g g') (e5 : gI g' 223 5 = gI g 223 5) (e6 : gI g' 223 6 = gI g 223 6) (ea : gA g' 226 = gA g 226) (e11 : (gI g' 223 11).toInt = r) (cp : gA g' 227 = gA g 224) (hk : 0 ≤ k ∧ k ≤ 50) (hm : m = 0 ∨ k = 50) (hr : (m = 0 ∧ r = k) ∨ (m ≠ 0 ∧ r = k + 1)) : SEP g0 g' := fun t l _ => ⟨(GOKX_c hF e5 e6 ea (h (b.1 t l)).1).2.1, fun fb hV => by
  have z := SET_fin b t l h hk hm hr (fun s => (eA g' 227 s).toInt) (fun s _ _ => eA_tq cp) fb hV
  exact ⟨e11.trans z.1, z.2⟩⟩
theorem SEP_x (hF : FSX g0 g) (f4 : gA g 4 = gA g0 4) (h : SETV g0 g) : SETV g g := fun fb hV => by
  obtain ⟨q1, q2⟩ := h (FEEB_b hF f4 fb) (VLD_b hF hV)
  refine ⟨by rw [RDS_c hF f4]; exact q1, fun s s0 s1 => ?_⟩
  rw [hF.2.2.2.1] at s1
  rw [FIN_c hF f4]
  exact q2 s s0 s1
/-- settled -/
def SEDP (g : List en_E) (w r : Int) : Prop := (0 ≤ w ∧ w < (gI g 1 0).toInt → r = (eA g 227 w).toInt) ∧ (¬ (0 ≤ w ∧ w < (gI g 1 0).toInt) → r = (gI g 223 11).toInt)
/-- rests -/
def RSQ (g0 g' : List en_E) (w r : Int) : Prop := (¬ (w = -1 ∨ (0 ≤ w ∧ w < (gI g0 1 0).toInt)) → r = -1 ∧ (TOLDX g0 → TOLDX g') ∧ (SETX g0 → SETX g')) ∧ (w = -1 ∨ (0 ≤ w ∧ w < (gI g0 1 0).toInt) → TOLDX g0 → LOKX g0 → SETX g0 → TOLDX g' ∧ SETX g' ∧ (FEEB g0 → VLD g0 → r = if w = -1 then RDS g0 else (FIN g0).1 w))
theorem RSQ_yes (h : SEP g0 g1) (hF : FSX g0 g1) (f4 : gA g1 4 = gA g0 4) (q : SEDP g1 w r) (k1 : TOLDX g1 → TOLDX g') (k2 : SETX g1 → SETX g') (hw : w = -1 ∨ (0 ≤ w ∧ w < (gI g0 1 0).toInt)) : RSQ g0 g' w r := ⟨fun z => absurd hw z, fun _ t l x => by
  obtain ⟨a, b⟩ := h t l x
  refine ⟨k1 a, k2 (fun _ => SEP_x hF f4 b), fun fb hV => ?_⟩
  obtain ⟨q1, q2⟩ := b fb hV
  rcases hw with e | e
  · rw [if_pos e]
    exact (q.2 (by omega)).trans q1
  · rw [if_neg (by omega)]
    exact (q.1 ⟨e.1, by rw [hF.2.2.2.1]; exact e.2⟩).trans (q2 w e.1 e.2)⟩
theorem IOQ_t (c : IOQ g g' x r) (t : TOLDX g) (k : LOKX g) : TOLDX g' := by
  by_cases h : 0 ≤ x ∧ x < (gI g 1 0).toInt
  · exact (c.2 h t k).1
  · exact (c.1 h).2 t
theorem AOQ_t (c : AOQ g g' x w r) (t : TOLDX g) (k : LOKX g) : TOLDX g' := by
  by_cases h : (0 ≤ x ∧ x < (gI g 1 0).toInt) ∧ 0 ≤ w ∧ w ≤ 1
  · exact (c.2 h t k).1
  · exact (c.1 h).2 t
theorem FRP_t (c : FRP g g' r) (t : TOLDX g) (k : LOKX g) : TOLDX g' := (c t k).1
theorem RSQ_t (c : RSQ g g' w r) (t : TOLDX g) (k : LOKX g) (x : SETX g) : TOLDX g' ∧ SETX g' := by
  by_cases h : w = -1 ∨ (0 ≤ w ∧ w < (gI g 1 0).toInt)
  · have z := c.2 h t k x
    exact ⟨z.1, z.2.1⟩
  · have z := (c.1 h).2
    exact ⟨z.1 t, z.2 x⟩
/-- the reference's rests -/
def RMR (g0 : List en_E) (w r : Int) : Prop := (¬ (w = -1 ∨ (0 ≤ w ∧ w < (eA g0 233 0).toInt)) → r = -1) ∧ (w = -1 ∨ (0 ≤ w ∧ w < (eA g0 233 0).toInt) → RSP g0 w r)
theorem RST_a {I : (Int → Int) → Int → Int → Int} {A A' : Int → Int} {S : Int} (h : ∀ j : Int, 0 ≤ j → j < S → I A' j = I A j ∧ A' j = A j) (a : RST I A S r) : RST I A' S r := by
  have mv : ∀ j : Int, 0 ≤ j → j < S → (MVX I A j ↔ MVX I A' j) := fun j j0 j1 => by
    unfold MVX
    rw [(h j j0 j1).1, (h j j0 j1).2]
  rcases a with ⟨a1, a2⟩ | ⟨a1, a2, a3, a4⟩
  · exact Or.inl ⟨a1, fun j j0 j1 z => a2 j j0 j1 ((mv j j0 j1).mpr z)⟩
  · exact Or.inr ⟨a1, a2, (mv r a1 a2).mp a3, fun j j0 j1 z => a4 j j0 j1 ((mv j j0 (by omega)).mpr z)⟩
end INZS
