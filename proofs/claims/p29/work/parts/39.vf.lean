/-! ===== what is got for a load, the class: told ahead or not ===== -/
def clp (x : Int) : Int := if x < 0 then 0 else if 999 < x then 999 else x
theorem clp_rg (x : Int) : 0 ≤ clp x ∧ clp x ≤ 999 := by
  unfold clp
  (repeat' split) <;> omega
theorem clp_id {x : Int} (h : 0 ≤ x ∧ x ≤ 999) : clp x = x := by
  unfold clp
  rw [if_neg (show ¬ x < 0 by omega), if_neg (show ¬ 999 < x by omega)]
theorem clp_e {x y z : Int} (h1 : y ≤ 999) (h2 : y ≤ x) (h3 : y = 999 ∨ y = x) (h4 : 0 ≤ z) (h5 : y ≤ z) (h6 : z = 0 ∨ z = y) : z = clp x := by
  unfold clp
  (repeat' split) <;> omega
/-- the law in force -/
def QFX (g : List en_E) : Nat := LATX (gI g 1 9).toInt
def LAWQ (q : Nat) : Prop := q = 7 ∨ ∃ k : Nat, k < 6 ∧ q = 16 + 7 * k
theorem LATX_in (k : Int) : LAWQ (LATX k) := by
  unfold LATX
  by_cases c0 : k = 0
  · rw [if_pos c0]; exact Or.inr ⟨0, by decide, rfl⟩
  rw [if_neg c0]
  by_cases c1 : k = 1
  · rw [if_pos c1]; exact Or.inr ⟨1, by decide, rfl⟩
  rw [if_neg c1]
  by_cases c2 : k = 2
  · rw [if_pos c2]; exact Or.inr ⟨2, by decide, rfl⟩
  rw [if_neg c2]
  by_cases c3 : k = 3
  · rw [if_pos c3]; exact Or.inr ⟨3, by decide, rfl⟩
  rw [if_neg c3]
  by_cases c4 : k = 4
  · rw [if_pos c4]; exact Or.inr ⟨4, by decide, rfl⟩
  rw [if_neg c4]
  by_cases c5 : k = 5
  · rw [if_pos c5]; exact Or.inr ⟨5, by decide, rfl⟩
  rw [if_neg c5]
  exact Or.inl rfl
theorem LATX_k {k : Nat} (h : k < 6) : LATX (k : Int) = 16 + 7 * k := by
  rcases (show k = 0 ∨ k = 1 ∨ k = 2 ∨ k = 3 ∨ k = 4 ∨ k = 5 by omega) with e | e | e | e | e | e <;> subst e <;> rfl
theorem LATX_n {k : Int} (h : k < 0) : LATX k = 7 := by
  unfold LATX
  rw [if_neg (show ¬ k = 0 by omega), if_neg (show ¬ k = 1 by omega), if_neg (show ¬ k = 2 by omega), if_neg (show ¬ k = 3 by omega), if_neg (show ¬ k = 4 by omega), if_neg (show ¬ k = 5 by omega)]
/-- what the fees hang on is the same in both heaps -/
def FSX (g g' : List en_E) : Prop := gA g' 2 = gA g 2 ∧ gA g' 3 = gA g 3 ∧ gA g' 5 = gA g 5 ∧ gI g' 1 0 = gI g 1 0 ∧ gI g' 1 4 = gI g 1 4 ∧ gI g' 1 9 = gI g 1 9 ∧ LSM g g' (QFX g) (QFX g)
theorem FSX_rf {g : List en_E} : FSX g g := ⟨rfl, rfl, rfl, rfl, rfl, rfl, LSM_rf⟩
theorem FSX_tr {g g1 g2 : List en_E} (h : FSX g g1) (k : FSX g1 g2) : FSX g g2 := by
  have e : QFX g1 = QFX g := by unfold QFX; rw [h.2.2.2.2.2.1]
  have z := k.2.2.2.2.2.2
  rw [e] at z
  exact ⟨k.1.trans h.1, k.2.1.trans h.2.1, k.2.2.1.trans h.2.2.1, k.2.2.2.1.trans h.2.2.2.1, k.2.2.2.2.1.trans h.2.2.2.2.1, k.2.2.2.2.2.1.trans h.2.2.2.2.2.1, LSM_tr h.2.2.2.2.2.2 z⟩
def fsF (F : List (Nat × Nat)) (A : List Nat) : Bool := !memF F 1 0 && !memF F 1 4 && !memF F 1 9 && !memA A 2 && !memA A 3 && !memA A 5 && lawF F A 7 && (List.range 6).all (fun k => lawF F A (16 + 7 * k))
theorem FSX_fr {F : List (Nat × Nat)} {A : List Nat} {g g' : List en_E} (h : Fr F A g g') (hd : fsF F A = true) : FSX g g' := by
  unfold fsF at hd
  simp only [Bool.and_eq_true, Bool.not_eq_true'] at hd
  obtain ⟨⟨⟨⟨⟨⟨⟨d0, d4⟩, d9⟩, a2⟩, a3⟩, a5⟩, l7⟩, lk⟩ := hd
  refine ⟨h.2.1 _ a2, h.2.1 _ a3, h.2.1 _ a5, h.1 1 0 d0, h.1 1 4 d4, h.1 1 9 d9, ?_⟩
  have hq : LAWQ (QFX g) := LATX_in _
  generalize QFX g = q at hq ⊢
  rcases hq with e | ⟨k, k6, e⟩
  · subst e
    exact LSM_fr h l7
  · subst e
    exact LSM_fr h (List.all_eq_true.mp lk k (List.mem_range.mpr k6))
section FEXS
variable {g g' : List en_E} {q : Nat} {W : Int → Int} {n l s f d : Int} {m : Nat}
theorem CLW_c (s : LSM g g' q q) : CLW g' q W = CLW g q W := by
  funext i
  show clO (FQW g' q W) (eA g' (q + 4) i).toInt (eA g' (q + 5) i).toInt (eA g' (q + 5) i).toInt (eA g' (q + 6) i).toInt = clO (FQW g q W) (eA g (q + 4) i).toInt (eA g (q + 5) i).toInt (eA g (q + 5) i).toInt (eA g (q + 6) i).toInt
  unfold FQW
  rw [LSM_e s 1 (by decide) (by decide), LSM_e s 2 (by decide) (by decide), eA_tq (s.1 4 (by decide) (by decide)), eA_tq (s.1 5 (by decide) (by decide)), eA_tq (s.1 6 (by decide) (by decide))]
theorem TLW_c (s : LSM g g' q q) : TLW g' q W m d = TLW g q W m d := by
  unfold TLW
  rw [LSM_e s 3 (by decide) (by decide), CLW_c s]
theorem LKW_c {a b : Int} (s : LSM g g' q q) (h : LKW g q W a b) : LKW g' q W a b := by
  unfold LKW FQW at *
  rw [LSM_e s 1 (by decide) (by decide), LSM_e s 2 (by decide) (by decide), OQX_c (s.1 1 (by decide) (by decide)) (s.1 2 (by decide) (by decide))]
  exact h
theorem LKL_c (s : LSM g g' q q) (h : LKL g q W n) : LKL g' q W n := by
  intro i i0 i1 ih
  rw [eA_tq (s.1 3 (by decide) (by decide))] at ih
  have z := h i i0 i1 ih
  unfold LKC at *
  rw [eA_tq (s.1 4 (by decide) (by decide)), eA_tq (s.1 5 (by decide) (by decide)), eA_tq (s.1 6 (by decide) (by decide))]
  exact ⟨LKW_c s z.1, z.2.imp_right (LKW_c s)⟩
theorem QFX_c (h : FSX g g') : QFX g' = QFX g := by
  unfold QFX
  rw [h.2.2.2.2.2.1]
theorem FSX_q (h : FSX g g') : LSM g g' (QFX g) (QFX g) := h.2.2.2.2.2.2
theorem ABV_c (h : FSX g g') : ABV g' l n = ABV g l n := by
  unfold ABV
  rw [h.2.2.2.2.1, eA_tq h.2.2.1]
theorem NX_cF (h : FSX g g') : NX g' s = NX g s := NX.c h.1 h.2.2.2.1
/-- the words when a fee is asked -/
def WGX (g : List en_E) (l s f : Int) : Int → Int := WWF l (ABV g l 0) (ABV g l 4) s (NX g s) 0 0 (eA g 3 s).toInt f
theorem WGX_c (h : FSX g g') : WGX g' l s f = WGX g l s f := by
  unfold WGX
  rw [ABV_c h, ABV_c h, NX_cF h, eA_tq h.2.1]
/-- what is got for a load at a stand by a fee -/
def GTX (g : List en_E) (l s f : Int) : Int := clp (TLW g (QFX g) (WGX g l s f) (gI g (QFX g) 3).toInt.toNat f)
theorem GTX_c (h : FSX g g') : GTX g' l s f = GTX g l s f := by
  unfold GTX
  rw [QFX_c h, WGX_c h, (FSX_q h).2.2.1, TLW_c (FSX_q h)]
/-- the law in force can be asked -/
def LOKX (g : List en_E) : Prop := (∀ W : Int → Int, LKL g (QFX g) W (gI g (QFX g) 3).toInt) ∧ (¬ hbI (gI g (QFX g) 4) 1 → ∀ i : Int, 0 ≤ i → i < (gI g (QFX g) 3).toInt → (eA g (QFX g + 3) i).toInt ≠ 1)
theorem LOKX_c (h : FSX g g') (k : LOKX g) : LOKX g' := by
  unfold LOKX at *
  rw [QFX_c h, (FSX_q h).2.2.1, (FSX_q h).2.2.2]
  exact ⟨fun W => LKL_c (FSX_q h) (k.1 W), fun hb i i0 i1 => by rw [eA_tq ((FSX_q h).1 3 (by decide) (by decide))]; exact k.2 hb i i0 i1⟩
/-- what is told ahead is right -/
def TOLDX (g : List en_E) : Prop := (gI g 223 5).toInt ≠ 0 → ((gI g 223 6).toInt ≠ 0 ↔ hbI (gI g (QFX g) 4) 1) ∧ ((gI g 223 6).toInt ≠ 0 → ∀ l s f : Int, 0 ≤ l → l < 8 → 0 ≤ s → s < 12 → 0 ≤ f → f < 100 → (eA g 226 (1200 * l + 100 * s + f)).toInt = -1 ∨ (eA g 226 (1200 * l + 100 * s + f)).toInt = GTX g l s f)
theorem TOLDX_c (h : FSX g g') (e5 : gI g' 223 5 = gI g 223 5) (e6 : gI g' 223 6 = gI g 223 6) (a : gA g' 226 = gA g 226) (t : TOLDX g) : TOLDX g' := by
  unfold TOLDX at *
  rw [e5, e6, QFX_c h, (FSX_q h).2.2.2]
  intro h5
  obtain ⟨t1, t2⟩ := t h5
  refine ⟨t1, fun h6 l s f l0 l1 s0 s1 f0 f1 => ?_⟩
  rw [eA_tq a, GTX_c h]
  exact t2 h6 l s f l0 l1 s0 s1 f0 f1
theorem TOLDX_z (h : (gI g 223 5).toInt = 0) : TOLDX g := fun h5 => absurd h h5
/-- behind begin -/
def GOKX (g : List en_E) : Prop := (gI g 223 5).toInt ≠ 0 ∧ TOLDX g ∧ LOKX g
theorem GOKX_c (h : FSX g g') (e5 : gI g' 223 5 = gI g 223 5) (e6 : gI g' 223 6 = gI g 223 6) (a : gA g' 226 = gA g 226) (t : GOKX g) : GOKX g' := ⟨by rw [e5]; exact t.1, TOLDX_c h e5 e6 a t.2.1, LOKX_c h t.2.2⟩
/-- what gets tells -/
def GETX (g g' : List en_E) (l s f r : Int) : Prop := GOKX g → GOKX g' ∧ (0 ≤ l → l < (gI g 1 4).toInt → 0 ≤ s → s < (gI g 1 0).toInt → 0 ≤ f → f < 100 → r = GTX g l s f)
/-- no fee told: his own -/
theorem GETX_no {r : Int} (h6 : (gI g 223 6).toInt = 0) (e : r = f) : GETX g g l s f r := fun k => ⟨k, fun _ _ _ _ f0 f1 => by
  have t := (k.2.1 k.1).1
  have hb : ¬ hbI (gI g (QFX g) 4) 1 := fun z => (t.mpr z) h6
  have z : TLW g (QFX g) (WGX g l s f) (gI g (QFX g) 3).toInt.toNat f = f := tlV_no _ (fun i i0 i1 => k.2.2.2 hb i i0 (by omega))
  unfold GTX
  rw [z, clp_id (by omega)]
  exact e⟩
theorem GETX_out {r : Int} (h : ¬ (0 ≤ l ∧ l < (gI g 1 4).toInt ∧ 0 ≤ s ∧ s < (gI g 1 0).toInt ∧ 0 ≤ f ∧ f < 100)) : GETX g g l s f r := fun k => ⟨k, fun l0 l1 s0 s1 f0 f1 => absurd ⟨l0, l1, s0, s1, f0, f1⟩ h⟩
/-- told ahead -/
theorem GETX_told {r i : Int} (h6 : (gI g 223 6).toInt ≠ 0) (hv : l < 8 ∧ s < 12) (hi : i = 1200 * l + 100 * s + f) (e : (eA g 226 i).toInt = r) (hr : r ≠ -1) : GETX g g l s f r := fun k => ⟨k, fun l0 l1 s0 s1 f0 f1 => by
  subst hi
  have t := (k.2.1 k.1).2 h6 l s f l0 hv.1 s0 hv.2 f0 f1
  rw [e] at t
  exact t.resolve_left hr⟩
/-- told now -/
theorem GETX_new {g1 : List en_E} {r i : Int} {v : Int32} {fe y z : Int} (hF : FSX g g1) (e5 : gI g1 223 5 = gI g 223 5) (e6 : gI g1 223 6 = gI g 223 6) (ea : gA g1 226 = gA g 226) (hS : Sh g1) (hx : TEL g (QFX g) 1 l s 0 0 (eA g 3 s).toInt f fe) (hy1 : y ≤ 999) (hy2 : y ≤ fe) (hy3 : y = 999 ∨ y = fe) (hz1 : 0 ≤ z) (hz2 : y ≤ z) (hz3 : z = 0 ∨ z = y) (hi : i = 1200 * l + 100 * s + f) (hv : v.toInt = z) (hr : r = z) (hq : 0 ≤ l ∧ l < 8 ∧ 0 ≤ s ∧ s < 12 ∧ 0 ≤ f ∧ f < 100) : GETX g (sA g1 226 i v) l s f r := fun k => by
  have w : z = GTX g l s f := (clp_e hy1 hy2 hy3 hz1 hz2 hz3).trans (congrArg clp (hx rfl (k.2.2.1 _)))
  have k1 := GOKX_c hF e5 e6 ea k
  have F2 : FSX g1 (sA g1 226 i v) := ⟨gA_sA_ne (by decide), gA_sA_ne (by decide), gA_sA_ne (by decide), gI_sW, gI_sW, gI_sW, by
    have hq : LAWQ (QFX g1) := LATX_in _
    generalize QFX g1 = q at hq ⊢
    exact ⟨fun k k1 k6 => gA_sA_ne (by rcases hq with e | ⟨j, j6, e⟩ <;> omega), gI_sW, gI_sW, gI_sW⟩⟩
  have sI : ∀ p b : Nat, gI (sA g1 226 i v) p b = gI g1 p b := fun _ _ => gI_sW
  refine ⟨⟨by rw [sI]; exact k1.1, fun h5 => ?_, LOKX_c F2 k1.2.2⟩, fun _ _ _ _ _ _ => hr.trans w⟩
  rw [sI] at h5
  obtain ⟨t1, t2⟩ := k1.2.1 h5
  rw [sI, QFX_c F2, sI]
  refine ⟨t1, fun h6 l' s' f' l0 l1 s0 s1 f0 f1 => ?_⟩
  rw [GTX_c F2]
  by_cases c : 1200 * l' + 100 * s' + f' = i
  · right
    have el : l' = l := by omega
    have es : s' = s := by omega
    have ef : f' = f := by omega
    rw [eA_sA_eq hS ka_226 c (by omega) (by omega), hv, el, es, ef, GTX_c hF]
    exact w
  · rw [eA_sA_ne hS ka_226 (by omega) (by omega) (by omega)]
    exact t2 h6 l' s' f' l0 l1 s0 s1 f0 f1
end FEXS
/-! ===== what a load costs: the sum of what is got on its way, one stand's aside ===== -/
/-- what all but x get on the first k stands of a way -/
def cbv (N G : Int → Int) (x f : Int) : Nat → Int
  | 0 => 0
  | k + 1 => cbv N G x f k + (if itv N k f = x then 0 else G (itv N k f))
def CBI (N G : Int → Int) (x k f : Int) : Int := cbv N G x f k.toNat
/-- whether x is one of the first k -/
def psv (N : Int → Int) (x f : Int) : Nat → Int
  | 0 => 0
  | k + 1 => if itv N k f = x then 1 else psv N x f k
def PSI (N : Int → Int) (x k f : Int) : Int := psv N x f k.toNat
theorem psv_01 (N : Int → Int) (x f : Int) : ∀ k : Nat, psv N x f k = 0 ∨ psv N x f k = 1
  | 0 => Or.inl rfl
  | k + 1 => by
    show (if itv N k f = x then 1 else psv N x f k) = 0 ∨ (if itv N k f = x then 1 else psv N x f k) = 1
    split
    · exact Or.inr rfl
    · exact psv_01 N x f k
section CBIS
variable {N G G' : Int → Int} {x f k k' a b s y : Int}
theorem CBI_z (h : k ≤ 0) : CBI N G x k f = 0 := by
  unfold CBI
  rw [show k.toNat = 0 by omega]
  rfl
theorem PSI_z (h : k ≤ 0) : PSI N x k f = 0 := by
  unfold PSI
  rw [show k.toNat = 0 by omega]
  rfl
theorem CBI_ne (h0 : 0 ≤ k) (e : k' = k + 1) (es : s = itI N k f) (hx : s ≠ x) : CBI N G x k' f = CBI N G x k f + G s := by
  subst e
  unfold CBI itI at *
  rw [show (k + 1).toNat = k.toNat + 1 by omega]
  show cbv N G x f k.toNat + (if itv N k.toNat f = x then 0 else G (itv N k.toNat f)) = _
  rw [if_neg (by rw [← es]; exact hx), ← es]
theorem CBI_eq (h0 : 0 ≤ k) (e : k' = k + 1) (es : s = itI N k f) (hx : s = x) : CBI N G x k' f = CBI N G x k f := by
  subst e
  unfold CBI itI at *
  rw [show (k + 1).toNat = k.toNat + 1 by omega]
  show cbv N G x f k.toNat + (if itv N k.toNat f = x then 0 else G (itv N k.toNat f)) = _
  rw [if_pos (by rw [← es]; exact hx), Int.add_zero]
theorem PSI_ne (h0 : 0 ≤ k) (e : k' = k + 1) (es : s = itI N k f) (hx : s ≠ x) : PSI N x k' f = PSI N x k f := by
  subst e
  unfold PSI itI at *
  rw [show (k + 1).toNat = k.toNat + 1 by omega]
  show (if itv N k.toNat f = x then 1 else psv N x f k.toNat) = _
  rw [if_neg (by rw [← es]; exact hx)]
theorem PSI_eq (h0 : 0 ≤ k) (e : k' = k + 1) (es : s = itI N k f) (hx : s = x) : PSI N x k' f = 1 := by
  subst e
  unfold PSI itI at *
  rw [show (k + 1).toNat = k.toNat + 1 by omega]
  show (if itv N k.toNat f = x then 1 else psv N x f k.toNat) = _
  rw [if_pos (by rw [← es]; exact hx)]
end CBIS
theorem cbv_c {N G G' : Int → Int} {x f : Int} : ∀ k : Nat, (∀ j : Nat, j < k → G (itv N j f) = G' (itv N j f)) → cbv N G x f k = cbv N G' x f k
  | 0, _ => rfl
  | k + 1, h => by
    show cbv N G x f k + (if itv N k f = x then 0 else G (itv N k f)) = cbv N G' x f k + (if itv N k f = x then 0 else G' (itv N k f))
    rw [cbv_c k (fun j hj => h j (by omega)), h k (by omega)]
/-- what a load costs beside one (x; -1: in all), if he hands it on -/
def CBS (N G : Int → Int) (B x f w r : Int) : Prop := ∃ n, WAYF N B f w n ∧ (n = -1 → r = -1) ∧ (0 ≤ n → r = if x = -1 ∨ PSI N x n f = 1 then CBI N G x n f else -1)
/-- the stands of a way -/
theorem WAYF_at {N : Int → Int} (h1 : N (-1) = -1) {M : Int} (hN : ∀ s, N s = -1 ∨ (0 ≤ N s ∧ N s < M)) {B f w n : Int} (hf : f = -1 ∨ (0 ≤ f ∧ f < M)) (hw : w ≠ -1) (a : WAYF N B f w n) {j : Nat} (hj : (j : Int) < n) : 0 ≤ itv N j f ∧ itv N j f < M := by
  have z : itv N j f = -1 ∨ (0 ≤ itv N j f ∧ itv N j f < M) := by
    cases j with
    | zero => exact hf
    | succ j => rw [itv_s]; exact hN _
  rcases z with z | z
  · exfalso
    have z2 := itI_e h1 (i := (j : Int)) (k := n) (s := f) (by unfold itI; rw [show ((j : Int)).toNat = j by omega]; exact z) (by omega)
    rcases a with ⟨q, q1, q2, q3, q4, q5⟩ | ⟨q1, q2⟩
    · rw [q5, q3] at z2
      exact hw z2
    · omega
  · exact z
theorem WAYF_rg {N : Int → Int} {B f w n : Int} (a : WAYF N B f w n) : -1 ≤ n ∧ n ≤ B ∨ n = -1 := by
  rcases a with ⟨q, q1, q2, q3, q4, q5⟩ | ⟨q1, q2⟩
  · omega
  · omega
theorem CBS_same {N G G' : Int → Int} (h1 : N (-1) = -1) {M : Int} (hM : M ≤ 12) (hN : ∀ s, N s = -1 ∨ (0 ≤ N s ∧ N s < M)) {B B' x f w r r' : Int} (hG : ∀ s, 0 ≤ s → s < M → G s = G' s) (hB : 11 ≤ B) (hB' : 11 ≤ B') (hf : f = -1 ∨ (0 ≤ f ∧ f < M)) (hw : w ≠ -1) (a : CBS N G B x f w r) (b : CBS N G' B' x f w r') : r = r' := by
  obtain ⟨n, a1, a2, a3⟩ := a
  obtain ⟨m, b1, b2, b3⟩ := b
  have e := WAYF.same h1 (fun s => (hN s).imp_right (fun z => ⟨z.1, by omega⟩)) hB hB' (hf.imp_right (fun z => ⟨z.1, by omega⟩)) hw a1 b1
  subst e
  by_cases c : n = -1
  · rw [a2 c, b2 c]
  · have r1 : 0 ≤ n := by rcases a1 with ⟨q, q1, q2, q3, q4, q5⟩ | ⟨q1, q2⟩ <;> omega
    rw [a3 r1, b3 r1]
    have z : CBI N G x n f = CBI N G' x n f := cbv_c _ (fun j hj => by
      have y := WAYF_at h1 hN hf hw a1 (j := j) (by omega)
      exact hG _ y.1 y.2)
    rw [z]
theorem CBS_c {N N' G : Int → Int} (h : ∀ s, N s = N' s) {B x f w r : Int} (a : CBS N G B x f w r) : CBS N' G B x f w r := by
  have e : N = N' := funext h
  rw [← e]
  exact a
/-! the class -/
/-- what is asked, of all fees -/
def ASKB (g : List en_E) : Prop := ∀ s : Int, 0 ≤ s → s < (gI g 1 0).toInt → 0 ≤ (eA g 224 s).toInt ∧ (eA g 224 s).toInt < 100
/-- what a load's hands get as they ask -/
def GAX (g : List en_E) (l s : Int) : Int := GTX g l s (eA g 224 s).toInt
/-- behind i of the hands -/
def CBL (g0 g : List en_E) (l x i f sum : Int) : Prop := GOKX g0 → GOKX g ∧ (ASKB g0 → 0 ≤ l → l < (gI g0 1 4).toInt → sum = CBI (NX g0) (GAX g0 l) x i f ∧ 0 ≤ sum ∧ sum ≤ 999 * i)
section CBLS
variable {g0 g g1 g2 : List en_E} {l x i i2 f s sum sum2 r a : Int} {u v w : Int32}
theorem CBL_z (hF : FSX g0 g) (e5 : gI g 223 5 = gI g0 223 5) (e6 : gI g 223 6 = gI g0 223 6) (ea : gA g 226 = gA g0 226) (hi : i = 0) (hs : sum = 0) : CBL g0 g l x i f sum := fun k => by
  subst hi hs
  exact ⟨GOKX_c hF e5 e6 ea k, fun _ _ _ => ⟨(CBI_z (by omega)).symm, by omega, by omega⟩⟩
/-- one more hand, his own aside -/
theorem CBL_eq (h : CBL g0 g l x i f sum) (hF : FSX g g2) (e5 : gI g2 223 5 = gI g 223 5) (e6 : gI g2 223 6 = gI g 223 6) (ea : gA g2 226 = gA g 226) (es : s = itI (NX g0) i f) (hx : s = x) (h0 : 0 ≤ i) (hi : i2 = i + 1) (hs : sum2 = sum) : CBL g0 g2 l x i2 f sum2 := fun k1 => by
  obtain ⟨a1, a0⟩ := h k1
  subst hs
  refine ⟨GOKX_c hF e5 e6 ea a1, fun k2 k3 k4 => ?_⟩
  obtain ⟨a2, a3, a4⟩ := a0 k2 k3 k4
  exact ⟨by rw [CBI_eq h0 hi es hx]; exact a2, a3, by omega⟩
/-- one more hand -/
theorem CBL_ne (h : CBL g0 g l x i f u.toInt) (hF0 : FSX g0 g) (q : GETX g g1 l s (eA g0 224 s).toInt w.toInt) (hF : FSX g1 g2) (e5 : gI g2 223 5 = gI g1 223 5) (e6 : gI g2 223 6 = gI g1 223 6) (ea : gA g2 226 = gA g1 226) (es : s = itI (NX g0) i f) (hx : s ≠ x) (hv : 0 ≤ s ∧ s < (gI g0 1 0).toInt) (h0 : 0 ≤ i) (h11 : i ≤ 1000) (hi : i2 = i + 1) (ho : v = u + w) : CBL g0 g2 l x i2 f v.toInt := fun k1 => by
  obtain ⟨a1, a0⟩ := h k1
  obtain ⟨b1, b2⟩ := q a1
  refine ⟨GOKX_c hF e5 e6 ea b1, fun k2 k3 k4 => ?_⟩
  obtain ⟨a2, a3, a4⟩ := a0 k2 k3 k4
  have b3 := k2 s hv.1 hv.2
  have b4 := b2 k3 (by rw [hF0.2.2.2.2.1]; exact k4) hv.1 (by rw [hF0.2.2.2.1]; exact hv.2) b3.1 b3.2
  rw [GTX_c hF0] at b4
  have b5 := clp_rg (TLW g0 (QFX g0) (WGX g0 l s (eA g0 224 s).toInt) (gI g0 (QFX g0) 3).toInt.toNat (eA g0 224 s).toInt)
  have b6 : w.toInt = clp (TLW g0 (QFX g0) (WGX g0 l s (eA g0 224 s).toInt) (gI g0 (QFX g0) 3).toInt.toNat (eA g0 224 s).toInt) := b4
  have e := iadd_e ho (by omega) (by omega)
  refine ⟨?_, by omega, by omega⟩
  rw [CBI_ne h0 hi es hx, e, a2, b4]
  rfl
end CBLS
/-- costBeside -/
def CBP (g0 g' : List en_E) (l x r : Int) : Prop := GOKX g0 → GOKX g' ∧ (ASKB g0 → 0 ≤ l → l < (gI g0 1 4).toInt → (eA g0 5 (6 * l + 2)).toInt ≠ -1 → CBS (NX g0) (GAX g0 l) 11 x (eA g0 5 (6 * l + 1)).toInt (eA g0 5 (6 * l + 2)).toInt r)
section CBPS
variable {g0 g : List en_E} {l x i F n r p sum s : Int}
theorem CBP_mk (hW : WAYX g0 l n) (hF : ABX g0 l 1 F) (h : CBL g0 g l x i F sum) (es : s = itI (NX g0) i F) (hs : n ≤ i ∨ ¬ (0 ≤ s ∧ s < (gI g0 1 0).toInt)) (hi : i ≤ n ∨ (i = 0 ∧ n = -1)) (h0 : 0 ≤ i) (hp : (x = -1 ∧ (n ≠ -1 → p ≠ 0) ∧ (n = -1 → p = 0)) ∨ (x ≠ -1 ∧ p = PSI (NX g0) x i F)) (hr : (p ≠ 0 ∧ r = sum) ∨ (p = 0 ∧ r = -1)) : CBP g0 g l x r := fun k1 => by
  obtain ⟨a1, a0⟩ := h k1
  refine ⟨a1, fun k2 k3 k4 k5 => ?_⟩
  obtain ⟨a2, a3, a4⟩ := a0 k2 k3 k4
  have w := hW ⟨k3, k4⟩ k5
  have eF := hF.1 ⟨k3, k4, by decide, by decide⟩
  rw [← eF] at w ⊢
  refine ⟨n, w, fun hn => ?_, fun hn => ?_⟩
  · rcases hp with hp | hp
    · rcases hr with hr | hr
      · exact absurd (hp.2.2 hn) hr.1
      · exact hr.2
    · rcases hr with hr | hr
      · exact absurd (hp.2.trans (PSI_z (by omega))) hr.1
      · exact hr.2
  · have ei : i = n := by
      rcases hs with hs | hs
      · omega
      · by_cases c : i < n
        · exact absurd (WAYF.stand w k5 h0 c es) hs
        · omega
    subst ei
    rcases hp with hp | hp
    · rw [if_pos (Or.inl hp.1)]
      rcases hr with hr | hr
      · exact hr.2.trans a2
      · exact absurd hr.1 (hp.2.1 (by omega))
    · by_cases c : PSI (NX g0) x i F = 1
      · rw [if_pos (Or.inr c)]
        rcases hr with hr | hr
        · exact hr.2.trans a2
        · omega
      · rw [if_neg (fun z => z.elim (fun z => hp.1 z) (fun z => c z))]
        have z := psv_01 (NX g0) x F i.toNat
        rcases hr with hr | hr
        · have z2 : PSI (NX g0) x i F = 0 := z.resolve_right c
          omega
        · exact hr.2
end CBPS
/-! ===== begin, costOf, cost, sent: the class ===== -/
def BGP (g0 g : List en_E) : Prop := (TOLDX g0 → LOKX g0 → GOKX g) ∧ gA g 224 = gA g0 4 ∧ FSX g0 g
section BGPS
variable {g0 g g1 : List en_E}
/-- told already -/
theorem BGP_old (hF : FSX g0 g) (h5 : (gI g0 223 5).toInt ≠ 0) (e5 : gI g 223 5 = gI g0 223 5) (e6 : gI g 223 6 = gI g0 223 6) (ea : gA g 226 = gA g0 226) (hc : gA g 224 = gA g0 4) : BGP g0 g := ⟨fun t l => GOKX_c hF e5 e6 ea ⟨h5, t, l⟩, hc, hF⟩
/-- told anew -/
theorem BGP_new (hF : FSX g0 g) (h5 : (gI g 223 5).toInt ≠ 0) (h6 : (gI g 223 6).toInt ≠ 0 ↔ hbI (gI g0 (QFX g0) 4) 1) (ht : (gI g 223 6).toInt = 0 ∨ ∀ j : Int, 0 ≤ j → j < 9600 → (eA g 226 j).toInt = -1) (hc : gA g 224 = gA g0 4) : BGP g0 g := ⟨fun _ l => ⟨h5, fun _ => ⟨by rw [QFX_c hF, (FSX_q hF).2.2.2]; exact h6, fun h l s f l0 l1 s0 s1 f0 f1 => by
  rcases ht with ht | ht
  · exact absurd ht h
  · exact Or.inl (ht _ (by omega) (by omega))⟩, LOKX_c hF l⟩, hc, hF⟩
theorem BGP_spk {q : Nat} {r : Int} (hF : FSX g0 g1) (e : q = QFX g0) (b : BL (hbI (gI g1 q 4) 1) r) : r ≠ 0 ↔ hbI (gI g0 (QFX g0) 4) 1 := by
  subst e
  rw [(FSX_q hF).2.2.2] at b
  rcases b with ⟨b1, b2⟩ | ⟨b1, b2⟩
  · exact ⟨fun _ => b2, fun _ => by omega⟩
  · exact ⟨fun z => absurd b1 z, fun z => absurd z b2⟩
theorem FLL_s {k k2 : Int} {v : Int32} (h : ∀ j : Int, 0 ≤ j → j < k → (eA g 226 j).toInt = -1) (hS : Sh g) (hv : v.toInt = -1) (h0 : 0 ≤ k) (h1 : k < 9600) (e : k2 = k + 1) : ∀ j : Int, 0 ≤ j → j < k2 → (eA (sA g 226 k v) 226 j).toInt = -1 := fun j j0 j1 => by
  by_cases c : j = k
  · rw [eA_sA_eq hS ka_226 c h0 (by omega)]
    exact hv
  · rw [eA_sA_ne hS ka_226 c h0 j0]
    exact h j j0 (by omega)
end BGPS
def FEEB (g : List en_E) : Prop := ∀ s : Int, 0 ≤ s → s < (gI g 1 0).toInt → 0 ≤ (eA g 4 s).toInt ∧ (eA g 4 s).toInt < 100
/-- costOf, all beside x -/
def CSP (g0 g' : List en_E) (l r : Int) : Prop := TOLDX g0 → LOKX g0 → TOLDX g' ∧ (FEEB g0 → 0 ≤ l → l < (gI g0 1 4).toInt → (eA g0 5 (6 * l + 2)).toInt ≠ -1 → CBS (NX g0) (fun s => GTX g0 l s (eA g0 4 s).toInt) 11 (-1) (eA g0 5 (6 * l + 1)).toInt (eA g0 5 (6 * l + 2)).toInt r)
section CSPS
variable {g0 g g1 g' : List en_E} {l r : Int}
theorem CSP_mk (b : BGP g0 g1) (c : CBP g1 g' l (-1) r) : CSP g0 g' l r := fun k1 k2 => by
  have F := b.2.2
  obtain ⟨c1, c2⟩ := c (b.1 k1 k2)
  refine ⟨c1.2.1, fun k3 k4 k5 k6 => ?_⟩
  have ask : ASKB g1 := fun s s0 s1 => by
    rw [F.2.2.2.1] at s1
    have z := k3 s s0 s1
    rw [eA_tq b.2.1]
    exact z
  have z2 := c2 ask k4 (by rw [F.2.2.2.2.1]; exact k5) (by rw [eA_tq F.2.2.1]; exact k6)
  rw [eA_tq (j := 6 * l + 1) F.2.2.1, eA_tq (j := 6 * l + 2) F.2.2.1, show NX g1 = NX g0 from funext (fun s => NX_cF F)] at z2
  have eG : GAX g1 l = fun s => GTX g0 l s (eA g0 4 s).toInt := by
    funext s
    show GTX g1 l s (eA g1 224 s).toInt = _
    rw [GTX_c F, eA_tq b.2.1]
  rw [eG] at z2
  exact z2
/-- nothing that the fees hang on changed, and nothing of what is told -/
theorem TOLDX_fr {F : List (Nat × Nat)} {A : List Nat} (h : Fr F A g0 g) (hd : fsF F A = true) (h5 : memF F 223 5 = false) (h6 : memF F 223 6 = false) (ha : memA A 226 = false) (t : TOLDX g0) : TOLDX g := TOLDX_c (FSX_fr h hd) (h.1 _ _ h5) (h.1 _ _ h6) (h.2.1 _ ha) t
end CSPS
theorem CSP_fr {g0 g g' : List en_E} {l r : Int} (h : CSP g0 g l r) (k : TOLDX g → TOLDX g') : CSP g0 g' l r := fun a b => ⟨k (h a b).1, (h a b).2⟩
/-- cost -/
def CSQ (g0 g' : List en_E) (l r : Int) : Prop := (¬ (0 ≤ l ∧ l < (gI g0 1 4).toInt) → r = -1 ∧ (TOLDX g0 → TOLDX g')) ∧ (0 ≤ l ∧ l < (gI g0 1 4).toInt → CSP g0 g' l r)
/-- whether it is sent -/
def SNV (c p : Int) : Int := if c ≠ -1 ∧ c ≤ p then 1 else 0
theorem SNV_mk {c p r : Int} (h : (c ≠ -1 ∧ c ≤ p ∧ r = 1) ∨ ((c = -1 ∨ p < c) ∧ r = 0)) : r = SNV c p := by
  unfold SNV
  rcases h with ⟨h1, h2, h3⟩ | ⟨h1, h2⟩
  · rw [if_pos ⟨h1, h2⟩]; exact h3
  · rw [if_neg (by omega)]; exact h2
def SNQ (g0 g' : List en_E) (l r : Int) : Prop := (¬ (0 ≤ l ∧ l < (gI g0 1 4).toInt) → r = -1 ∧ (TOLDX g0 → TOLDX g')) ∧ (0 ≤ l ∧ l < (gI g0 1 4).toInt → ∃ c, CSP g0 g' l c ∧ r = SNV c (eA g0 5 (6 * l + 5)).toInt)
/-! what the other fee methods leave of it -/
def GKP (g0 g : List en_E) : Prop := GOKX g0 → GOKX g
def TLK (g0 g : List en_E) : Prop := TOLDX g0 → LOKX g0 → TOLDX g
theorem GKP_rf {g : List en_E} : GKP g g := fun k => k
theorem GKP_tr {g0 g g1 : List en_E} (h : GKP g0 g) (k : GKP g g1) : GKP g0 g1 := fun z => k (h z)
theorem GKP_cb {g0 g g1 : List en_E} {l x r : Int} (h : GKP g0 g) (c : CBP g g1 l x r) : GKP g0 g1 := fun z => (c (h z)).1
theorem GKP_ge {g0 g g1 : List en_E} {l s f r : Int} (h : GKP g0 g) (c : GETX g g1 l s f r) : GKP g0 g1 := fun z => (c (h z)).1
theorem GKP_fs {g0 g g1 : List en_E} (h : GKP g0 g) (F : FSX g g1) (e5 : gI g1 223 5 = gI g 223 5) (e6 : gI g1 223 6 = gI g 223 6) (ea : gA g1 226 = gA g 226) : GKP g0 g1 := fun z => GOKX_c F e5 e6 ea (h z)
theorem FSX_I {g : List en_E} {p b : Nat} {v : Int32} (h : (p != 1) = true) (h7 : (p != 7 && p != 16 && p != 23 && p != 30 && p != 37 && p != 44 && p != 51) = true) : FSX g (sI g p b v) := by
  have n1 : p ≠ 1 := by intro e; subst e; cases h
  have nq : ∀ q : Nat, LAWQ q → p ≠ q := by
    intro q hq e
    subst e
    simp only [Bool.and_eq_true, bne_iff_ne, ne_eq] at h7
    rcases hq with e | ⟨k, k6, e⟩ <;> omega
  exact ⟨gA_sI, gA_sI, gA_sI, gI_sI_ne (fun z => n1 z.1), gI_sI_ne (fun z => n1 z.1), gI_sI_ne (fun z => n1 z.1), by
    have hq : LAWQ (QFX g) := LATX_in _
    generalize QFX g = q at hq ⊢
    exact ⟨fun k k1 k6 => gA_sI, gI_sI_ne (fun z => nq q hq z.1), gI_sI_ne (fun z => nq q hq z.1), gI_sI_ne (fun z => nq q hq z.1)⟩⟩
theorem FSX_W {g : List en_E} {p : Nat} {xs : List Int32} (h : ([2, 3, 5].all (fun q => p != q) && [7, 16, 23, 30, 37, 44, 51].all (fun q => p != q + 1 && p != q + 2 && p != q + 3 && p != q + 4 && p != q + 5 && p != q + 6)) = true) : FSX g (sW g p xs) := by
  simp only [List.all_cons, List.all_nil, Bool.and_eq_true, bne_iff_ne, ne_eq, Bool.and_true] at h
  refine ⟨gA_sW_ne (by omega), gA_sW_ne (by omega), gA_sW_ne (by omega), gI_sW, gI_sW, gI_sW, ?_⟩
  have hq : LAWQ (QFX g) := LATX_in _
  generalize QFX g = q at hq ⊢
  refine ⟨fun k k1 k6 => gA_sW_ne ?_, gI_sW, gI_sW, gI_sW⟩
  rcases hq with e | ⟨j, j6, e⟩ <;> omega
theorem FSX_A {g : List en_E} {p : Nat} {i : Int} {v : Int32} (h : ([2, 3, 5].all (fun q => p != q) && [7, 16, 23, 30, 37, 44, 51].all (fun q => p != q + 1 && p != q + 2 && p != q + 3 && p != q + 4 && p != q + 5 && p != q + 6)) = true) : FSX g (sA g p i v) := FSX_W h
/-! ===== what is got, what a load costs: the reference ===== -/
/-- as the fees stand in 247, the strengths in 246 -/
def GTM (g : List en_E) (l s : Int) : Int := clp (if (eA g 233 3).toInt < 0 then (eA g 247 s).toInt else TMW (RWM g (eA g 233 3).toInt) (WWM g l s 0 0) (RWM g (eA g 233 3).toInt 1).toNat (eA g 247 s).toInt)
def LOKM (g : List en_E) : Prop := 0 ≤ (eA g 233 3).toInt → ∀ W : Int → Int, LKM (RWM g (eA g 233 3).toInt) W (RWM g (eA g 233 3).toInt 1)
theorem RWM_c {g g' : List en_E} (h : gA g' 233 = gA g 233) (f : Int) : RWM g' f = RWM g f := by
  funext i
  unfold RWM
  rw [eA_tq h]
theorem LOKM_c {g g' : List en_E} (h : gA g' 233 = gA g 233) (k : LOKM g) : LOKM g' := by
  unfold LOKM at *
  rw [eA_tq h, RWM_c h]
  exact k
theorem GTM_c {g g' : List en_E} (h : gA g' 233 = gA g 233) (h6 : gA g' 246 = gA g 246) (h7 : gA g' 247 = gA g 247) {l s : Int} : GTM g' l s = GTM g l s := by
  unfold GTM WWM LDM
  rw [RWM_c h, NMo.c h, eA_tq (j := 3) h, eA_tq (j := 46 + 6 * l + 0) h, eA_tq (j := 46 + 6 * l + 4) h, eA_tq (j := s) h6, eA_tq (j := s) h7]
def FEM (g : List en_E) (l s r : Int) : Prop := LOKM g → r = GTM g l s
theorem clp_3 {t r : Int} (h : (t < 0 ∧ r = 0) ∨ (0 ≤ t ∧ 999 < t ∧ r = 999) ∨ (0 ≤ t ∧ t ≤ 999 ∧ r = t)) : r = clp t := by
  unfold clp
  (repeat' split) <;> omega
theorem FEM_mk {g : List en_E} {l s t d r : Int} (h : TEM g (eA g 233 3).toInt 1 l s 0 0 d t) (hd : d = (eA g 247 s).toInt) (hr : r = clp t) : FEM g l s r := fun k => by
  unfold GTM
  rw [hr]
  congr 1
  by_cases c : (eA g 233 3).toInt < 0
  · rw [if_pos c, h.1 c]
    exact hd
  · rw [if_neg c, h.2 (by omega) rfl (k (by omega) _), hd]
/-- behind k of the hands -/
def CML (g0 : List en_E) (G : Int → Int) (k f sum : Int) : Prop := LOKM g0 → sum = CBI (NMq g0) G (-1) k f ∧ 0 ≤ sum ∧ sum ≤ 999 * k
section CMLS
variable {g0 g g1 : List en_E} {l k k2 f s r : Int} {G : Int → Int} {u v w : Int32}
theorem CML_z {sum : Int} (hk : k = 0) (hs : sum = 0) : CML g0 G k f sum := fun _ => by
  subst hk hs
  exact ⟨(CBI_z (by omega)).symm, by omega, by omega⟩
theorem CML_s (h : CML g0 (GTM g0 l) k f u.toInt) (q : FEM g l s w.toInt) (h3 : gA g 233 = gA g0 233) (h6 : gA g 246 = gA g0 246) (h7 : gA g 247 = gA g0 247) (es : s = itI (NMq g0) k f) (hs : s ≠ -1) (h0 : 0 ≤ k) (hk : k ≤ 1000) (e : k2 = k + 1) (ho : v = u + w) : CML g0 (GTM g0 l) k2 f v.toInt := fun L => by
  obtain ⟨a1, a2, a3⟩ := h L
  have b := q (LOKM_c h3 L)
  rw [GTM_c h3 h6 h7] at b
  have c := clp_rg (if (eA g0 233 3).toInt < 0 then (eA g0 247 s).toInt else TMW (RWM g0 (eA g0 233 3).toInt) (WWM g0 l s 0 0) (RWM g0 (eA g0 233 3).toInt 1).toNat (eA g0 247 s).toInt)
  have b6 : w.toInt = clp (if (eA g0 233 3).toInt < 0 then (eA g0 247 s).toInt else TMW (RWM g0 (eA g0 233 3).toInt) (WWM g0 l s 0 0) (RWM g0 (eA g0 233 3).toInt 1).toNat (eA g0 247 s).toInt) := b
  have o := iadd_e ho (by omega) (by omega)
  refine ⟨?_, by omega, by omega⟩
  rw [CBI_ne h0 e es hs, o, a1, b]
end CMLS
/-- costOf -/
def CMP (g0 : List en_E) (l r : Int) : Prop := LOKM g0 → (eA g0 233 (46 + (6 * l + 2))).toInt ≠ -1 → CBS (NMq g0) (GTM g0 l) 12 (-1) (eA g0 233 (46 + (6 * l + 1))).toInt (eA g0 233 (46 + (6 * l + 2))).toInt r
theorem CMP_mk {g0 : List en_E} {l n k sum r : Int} (w : (eA g0 233 (46 + (6 * l + 2))).toInt ≠ -1 → WAYF (NMq g0) 12 (eA g0 233 (46 + (6 * l + 1))).toInt (eA g0 233 (46 + (6 * l + 2))).toInt n) (h : CML g0 (GTM g0 l) k (eA g0 233 (46 + (6 * l + 1))).toInt sum) (hk : n ≤ k) (hk2 : k ≤ n ∨ k = 0) (hr : (n = -1 ∧ r = -1) ∨ (n ≠ -1 ∧ r = sum)) : CMP g0 l r := fun L hw => by
  obtain ⟨a1, a2, a3⟩ := h L
  have w := w hw
  refine ⟨n, w, fun e => ?_, fun e => ?_⟩
  · omega
  · rw [if_pos (Or.inl rfl)]
    have e2 : k = n := by omega
    rw [← e2]
    omega
/-- strengths and fees as they are -/
def ASM (g0 g : List en_E) : Prop := ∀ s : Int, 0 ≤ s → s < 12 → (eA g 246 s).toInt = (eA g0 233 (10 + 3 * s + 1)).toInt ∧ (eA g 247 s).toInt = (eA g0 233 (10 + 3 * s + 2)).toInt
def ASL (g0 g : List en_E) (k : Int) : Prop := ∀ s : Int, 0 ≤ s → s < k → (eA g 246 s).toInt = (eA g0 233 (10 + 3 * s + 1)).toInt ∧ (eA g 247 s).toInt = (eA g0 233 (10 + 3 * s + 2)).toInt
theorem ASL_z {g0 g : List en_E} {k : Int} (h : k ≤ 0) : ASL g0 g k := fun s s0 s1 => absurd s1 (by omega)
theorem ASL_s {g0 g g1 g2 g3 : List en_E} {k k2 j1 j2 : Int} {v1 v2 : Int32} (h : ASL g0 g k) (hS : Sh g1) (hS2 : Sh g2) (q1 : g1 = g) (q2 : gA g2 246 = gA (sA g1 246 k v1) 246) (q3 : gA g2 247 = gA g1 247) (q4 : gA g3 246 = gA g2 246) (q5 : gA g3 247 = gA (sA g2 247 k v2) 247) (e1 : eA g0 233 j1 = v1) (e2 : eA g0 233 j2 = v2) (f1 : j1 = 10 + 3 * k + 1) (f2 : j2 = 10 + 3 * k + 2) (h0 : 0 ≤ k) (h12 : k < 12) (e : k2 = k + 1) : ASL g0 g3 k2 := fun s s0 s1 => by
  subst q1 f1 f2
  by_cases c : s = k
  · subst c
    rw [eA_tq q4, eA_tq q2, eA_tq q5, eA_sA_eq hS ka_246 rfl h0 h12, eA_sA_eq hS2 ka_247 rfl h0 h12, e1, e2]
    exact ⟨rfl, rfl⟩
  · rw [eA_tq q4, eA_tq q2, eA_tq q5, eA_sA_ne hS ka_246 c h0 s0, eA_sA_ne hS2 ka_247 c h0 s0, eA_tq q3]
    exact h s s0 (by omega)
/-- cost -/
def CMQ (g0 : List en_E) (l r : Int) : Prop := LOKM g0 → (eA g0 233 (46 + (6 * l + 2))).toInt ≠ -1 → ∃ g1, gA g1 233 = gA g0 233 ∧ ASM g0 g1 ∧ CBS (NMq g0) (GTM g1 l) 12 (-1) (eA g0 233 (46 + (6 * l + 1))).toInt (eA g0 233 (46 + (6 * l + 2))).toInt r
theorem CMQ_mk {g0 g : List en_E} {l r : Int} (h : gA g 233 = gA g0 233) (a : ASM g0 g) (c : CMP g l r) : CMQ g0 l r := fun L hw => by
  have z := c (LOKM_c h L) (by rw [eA_tq h]; exact hw)
  have e : NMq g = NMq g0 := funext (fun s => by unfold NMq; rw [NMo.c h])
  rw [e, eA_tq h, eA_tq h] at z
  exact ⟨g, h, a, z⟩
def CMR (g0 : List en_E) (l r : Int) : Prop := (¬ (0 ≤ l ∧ l < (eA g0 233 1).toInt) → r = -1) ∧ (0 ≤ l ∧ l < (eA g0 233 1).toInt → CMQ g0 l r)
/-- isSent -/
def ISM_ (g0 : List en_E) (l r : Int) : Prop := ∃ c, CMP g0 l c ∧ r = SNV c (eA g0 233 (46 + (6 * l + 5))).toInt
def SMR (g0 : List en_E) (l r : Int) : Prop := (¬ (0 ≤ l ∧ l < (eA g0 233 1).toInt) → r = -1) ∧ (0 ≤ l ∧ l < (eA g0 233 1).toInt → ∃ c, CMQ g0 l c ∧ r = SNV c (eA g0 233 (46 + (6 * l + 5))).toInt)
theorem SMR_mk {g0 g : List en_E} {l r : Int} (h : gA g 233 = gA g0 233) (a : ASM g0 g) (s : ISM_ g l r) : ∃ c, CMQ g0 l c ∧ r = SNV c (eA g0 233 (46 + (6 * l + 5))).toInt := by
  obtain ⟨c, c1, c2⟩ := s
  rw [eA_tq h] at c2
  exact ⟨c, CMQ_mk h a c1, c2⟩
