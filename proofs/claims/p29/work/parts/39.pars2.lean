/-! ===== the reference's parser: what its methods tell each other ===== -/
theorem HI.eqJ {g : List en_E} (_h : HI g) {b : Nat} {v : Int64} (e : gJ g 231 b = v) : (gJ g 231 b).toInt = v.toInt := congrArg Int64.toInt e
theorem l_zero {x : Int64} (h : x.toInt = 0) : x = 0 := Int64.toInt_inj.mp h
theorem l_mul {x y v : Int64} (h : v = x * y) : x.toInt = 0 → v.toInt = 0 := fun e => by
  rw [h, l_zero e, Int64.zero_mul]
  rfl
theorem l_add {x y v : Int64} (h : v = x + y) : x.toInt = 0 → v.toInt = y.toInt := fun e => by rw [h, l_zero e, Int64.zero_add]
theorem l_sub {x y v : Int64} (h : v = x - y) : -1000 ≤ x.toInt → x.toInt ≤ 1000 → -1000 ≤ y.toInt → y.toInt ≤ 1000 → v.toInt = x.toInt - y.toInt := fun a b c d => by
  rw [h, Int64.toInt_sub]
  exact Int.bmod_eq_of_le (by omega) (by omega)
def SETP (g g' : List en_E) (a : Int) : Prop := pI g' 23 ≤ pI g 23 ∧ pI g' 17 + pI g' 23 ≤ pI g 17 + pI g 23 ∧ (∀ (b : Int) (o0 a0 : Int → Int), PG g b 1 o0 a0 → PG g' b 1 o0 a0) ∧ (∀ j, pI g' 23 ≤ j → j < pI g 23 → pE g 240 j < 30) ∧ gA g' 240 = gA g 240 ∧ (pI g' 23 = 0 ∨ ((a = 1 → 30 ≤ pE g 240 (pI g' 23 - 1)) ∧ (a = 5 → 24 ≤ pE g 240 (pI g' 23 - 1))))
theorem INN.eq {g : List en_E} {k r r' : Int} (h : INN g k r) (e : r = r') : INN g k r' := e ▸ h
theorem SETP.close5 {g g' : List en_E} {b a r : Int} {o0 a0 : Int → Int} (h : SETP g g' a) (ha : a = 5) (hi : INN g (pI g 23) r) (hr : r = 31) (hP : PG g b 1 o0 a0) : 1 ≤ pI g' 23 ∧ 30 ≤ pE g' 240 (pI g' 23 - 1) := by
  obtain ⟨s1, s2, s3, s4, s5, s6⟩ := h
  have t1 := hi.top (by omega) s5 s1 s4
  refine ⟨t1, ?_⟩
  rw [pE_c s5]
  rcases s6 with s6 | s6
  · omega
  · exact (hi.eq hr).topS hP s1 s4 (s6.2 ha)
theorem SETP.close1 {g g' : List en_E} {a r : Int} (h : SETP g g' a) (ha : a = 1) (hi : INN g (pI g 23) r) (hr : r ≠ -1) : 1 ≤ pI g' 23 ∧ 30 ≤ pE g' 240 (pI g' 23 - 1) := by
  obtain ⟨s1, s2, s3, s4, s5, s6⟩ := h
  have t1 := hi.top hr s5 s1 s4
  refine ⟨t1, ?_⟩
  rw [pE_c s5]
  rcases s6 with s6 | s6
  · omega
  · exact s6.1 ha
theorem SETP.empty {g g' : List en_E} {a : Int} (h : SETP g g' a) (ha : a = 1) (hb : NBR g) (h0 : 0 ≤ pI g' 23) : pI g' 23 = 0 := by
  obtain ⟨s1, s2, s3, s4, s5, s6⟩ := h
  rcases s6 with s6 | s6
  · exact s6
  · by_cases c : pI g' 23 = 0
    · exact c
    · have h1 := s6.1 ha
      have h2 := hb (pI g' 23 - 1) (by omega) (by omega)
      omega
theorem PT.of01 {g : List en_E} {b : Int} {o0 a0 : Int → Int} (h : PT g b 0 o0 a0) : PT g b 1 o0 a0 := ⟨fun _ => h.1 (by decide), fun a => absurd a (by decide), fun a _ => absurd rfl a, fun a => absurd a (by decide)⟩
theorem PT.eq {g : List en_E} {b t t' : Int} {o0 a0 : Int → Int} (h : PT g b t o0 a0) (e : t = t') : PT g b t' o0 a0 := e ▸ h
theorem PT.mk {g : List en_E} {b t : Int} {o0 a0 : Int → Int} (h0 : t ≤ 1 → PG g b 0 o0 a0) (h1 : 2 ≤ t → PG g b 1 o0 a0) (hs : t ≠ 1 → t ≠ 3 → NSQ g) (hb : t = 4 → NBR g) : PT g b t o0 a0 := ⟨h0, h1, hs, hb⟩
def tw (t : Int) : Int := if t = 4 then 0 else t + 1
theorem tw_s (t : Int) : (t = 4 → tw t = 0) ∧ (t ≠ 4 → tw t = t + 1) := ⟨fun h => if_pos h, fun h => if_neg h⟩
def bw (t : Int) : Int := if t = 0 then 1 else 0
theorem bw_s (t : Int) : (t = 0 → bw t = 1) ∧ (t ≠ 0 → bw t = 0) := ⟨fun h => if_pos h, fun h => if_neg h⟩
/-- an expression was read: its code, from n on; what lies ahead is as it was -/
def EXPR (g g' : List en_E) : Prop := pI g 17 ≤ pI g' 17 ∧ WfCode (pE g' 238) (pE g' 239) (pI g 17) (pI g' 17) ∧ ∀ i, 0 ≤ i → i < pI g 17 → pE g' 238 i = pE g 238 i ∧ pE g' 239 i = pE g 239 i
theorem EXPR.of {g g1 g' : List en_E} {n a : Int} {o0 a0 : Int → Int} (hP : PG g1 n 1 o0 a0) (hb : NBR g1) (hS : SETP g1 g' a) (ha : a = 1) (h0 : 0 ≤ pI g' 23) (h4 : pI g' 17 ≤ 400) (hn : n = pI g 17) (ho : o0 = pE g 238) (hq : a0 = pE g 239) : pI g' 23 = 0 ∧ EXPR g g' := by
  have e := hS.empty ha hb h0
  have h := hS.2.2.1 _ _ _ hP
  subst hn ho hq
  refine ⟨e, ?_⟩
  unfold PG at h
  rw [e] at h
  exact ⟨h.2.1, h.fin h4, h.2.2.2.1⟩
theorem CLS.zero {g : List en_E} {n : Int} : CLS g 0 n := fun k k0 k1 => by omega
theorem CLS.cong {g g' : List en_E} {K n : Int} (h : CLS g K n) (_hI : HI g') (h1 : gA g' 238 = gA g 238) (h2 : gA g' 239 = gA g 239) (h3 : gA g' 237 = gA g 237) : CLS g' K n := by
  unfold CLS at *
  rw [pE_c h1, pE_c h2, pE_c h3]
  exact h
theorem CLS.step {g g' : List en_E} {K K' n1 n2 n3 : Int} (h : CLS g K n1) (hK : 0 ≤ K ∧ K' = K + 1) (hn : 0 ≤ n1 ∧ n1 ≤ n2 ∧ n2 ≤ n3) (h37 : ∀ i, 0 ≤ i → i < 8 * K → eA g' 237 i = eA g 237 i) (e3 : pE g' 237 (8 * K + 3) = n1) (e4 : pE g' 237 (8 * K + 4) = n2) (e5 : pE g' 237 (8 * K + 5) = n2) (e6 : pE g' 237 (8 * K + 6) = n3) (hs : ∀ i, 0 ≤ i → i < n1 → pE g' 238 i = pE g 238 i ∧ pE g' 239 i = pE g 239 i) (hA : WfCode (pE g' 238) (pE g' 239) n1 n2) (hB : WfCode (pE g' 238) (pE g' 239) n2 n3) : CLS g' K' n3 := by
  intro k k0 k1
  by_cases e : k = K
  · subst e
    rw [e3, e4, e5, e6]
    exact ⟨⟨hA, hn.2.2⟩, hB, Int.le_refl n3⟩
  · obtain ⟨⟨c1, c2⟩, c3, c4⟩ := h k k0 (by omega)
    have q : ∀ i, 0 ≤ i → i < 8 * K → pE g' 237 i = pE g 237 i := fun i a b => congrArg Int32.toInt (h37 i a b)
    rw [q (8 * k + 3) (by omega) (by omega), q (8 * k + 4) (by omega) (by omega), q (8 * k + 5) (by omega) (by omega), q (8 * k + 6) (by omega) (by omega)]
    have b1 := c1.1
    have b3 := c3.1
    exact ⟨⟨c1.congr (fun i a b => hs i (by omega) (by omega)), by omega⟩, c3.congr (fun i a b => hs i (by omega) (by omega)), by omega⟩
theorem HI.wfree {g : List en_E} (h : HI g) {j : Int} {v : Int32} (h0 : 110 + 900 * (eA g 233 2).toInt ≤ j ∧ j < 5510) : HI (sA g 233 j v) := by
  have hr := h.row
  have h2 := h.row.1.2.2.1
  dsimp only at h2
  have hne : ∀ i, i < 110 + 900 * (eA g 233 2).toInt → w_up (fun k => (eA g 233 k).toInt) j v.toInt i = (eA g 233 i).toInt := fun i hi => by
    unfold w_up
    rw [if_neg (by omega)]
  refine h.wR (by omega) ⟨?_, fun s s0 s1 => ?_, ⟨?_, fun l l0 l1 => ?_⟩, fun k k0 k1 => ?_, fun i i0 i1 => ?_⟩
  · unfold WfTop
    rw [hne 0 (by omega), hne 1 (by omega), hne 2 (by omega), hne 3 (by omega), hne 4 (by omega), hne 5 (by omega), hne 6 (by omega)]
    exact hr.1
  · rw [hne 0 (by omega), hne (10 + 3 * s) (by omega), hne (10 + 3 * s + 1) (by omega), hne (10 + 3 * s + 2) (by omega)]
    exact hr.2.1 s s0 s1
  · rw [hne 0 (by omega), hne 1 (by omega)]
    exact hr.2.2.1.1
  · rw [hne 0 (by omega), hne (46 + 6 * l) (by omega), hne (46 + 6 * l + 1) (by omega), hne (46 + 6 * l + 2) (by omega), hne (46 + 6 * l + 3) (by omega), hne (46 + 6 * l + 4) (by omega), hne (46 + 6 * l + 5) (by omega)]
    exact hr.2.2.1.2 l l0 l1
  · rw [hne (94 + 2 * k) (by omega), hne (94 + 2 * k + 1) (by omega)]
    exact hr.2.2.2.1 k k0 k1
  · rw [hne 2 (by omega)] at i1
    exact (hr.2.2.2.2 i i0 i1).cp (fun k a b => (hne (110 + 900 * i + k) (by omega)).symm)
theorem HI.wt2 {g : List en_E} (h : HI g) {v : Int32} (hv : v.toInt = (eA g 233 2).toInt + 1) (h6 : v.toInt ≤ 6) (hL : WfLaw (fun k => (eA g 233 (110 + 900 * (eA g 233 2).toInt + k)).toInt)) : HI (sA g 233 2 v) := by
  have hr := h.row
  have h2 := h.row.1.2.2.1
  dsimp only at h2
  have h3 := h.row.1.2.2.2.1
  dsimp only at h3
  have hne : ∀ i, i ≠ 2 → w_up (fun k => (eA g 233 k).toInt) 2 v.toInt i = (eA g 233 i).toInt := fun i hi => by
    unfold w_up
    rw [if_neg hi]
  have he : w_up (fun k => (eA g 233 k).toInt) 2 v.toInt 2 = v.toInt := by
    unfold w_up
    rw [if_pos rfl]
  refine h.wR (by omega) ⟨?_, fun s s0 s1 => ?_, ⟨?_, fun l l0 l1 => ?_⟩, fun k k0 k1 => ?_, fun i i0 i1 => ?_⟩
  · have t := hr.1
    unfold WfTop at t ⊢
    rw [hne 0 (by omega), hne 1 (by omega), he, hne 3 (by omega), hne 4 (by omega), hne 5 (by omega), hne 6 (by omega)]
    dsimp only at t
    omega
  · rw [hne 0 (by omega), hne (10 + 3 * s) (by omega), hne (10 + 3 * s + 1) (by omega), hne (10 + 3 * s + 2) (by omega)]
    exact hr.2.1 s s0 s1
  · rw [hne 0 (by omega), hne 1 (by omega)]
    exact hr.2.2.1.1
  · rw [hne 0 (by omega), hne (46 + 6 * l) (by omega), hne (46 + 6 * l + 1) (by omega), hne (46 + 6 * l + 2) (by omega), hne (46 + 6 * l + 3) (by omega), hne (46 + 6 * l + 4) (by omega), hne (46 + 6 * l + 5) (by omega)]
    exact hr.2.2.1.2 l l0 l1
  · rw [hne (94 + 2 * k) (by omega), hne (94 + 2 * k + 1) (by omega)]
    exact hr.2.2.2.1 k k0 k1
  · rw [he] at i1
    by_cases e : i = (eA g 233 2).toInt
    · rw [e]
      exact hL.cp (fun k a b => (hne (110 + 900 * (eA g 233 2).toInt + k) (by omega)).symm)
    · exact (hr.2.2.2.2 i i0 (by show i < (eA g 233 2).toInt; omega)).cp (fun k a b => (hne (110 + 900 * i + k) (by omega)).symm)
theorem LAW.mk {g g' : List en_E} {at_ K n : Int} (h : CLS g K n) (hK : 0 ≤ K ∧ K ≤ 12) (hn : n ≤ 400) (e1 : (eA g' 233 (at_ + 1)).toInt = K) (e2 : ∀ i, 0 ≤ i → i < 8 * K → (eA g' 233 (at_ + 2 + i)).toInt = pE g 237 i) (e3 : ∀ i, 0 ≤ i → i < n → (eA g' 233 (at_ + 98 + 2 * i)).toInt = pE g 238 i ∧ (eA g' 233 (at_ + 98 + 2 * i + 1)).toInt = pE g 239 i) : WfLaw (fun k => (eA g' 233 (at_ + k)).toInt) := by
  unfold WfLaw
  dsimp only
  rw [e1]
  refine ⟨hK.1, hK.2, fun k k0 k1 => ?_⟩
  obtain ⟨⟨c1, c2⟩, c3, c4⟩ := h k k0 k1
  have q : ∀ i, 0 ≤ i → i < 8 * K → (eA g' 233 (at_ + (2 + i))).toInt = pE g 237 i := fun i a b => by
    rw [show at_ + (2 + i) = at_ + 2 + i by omega]
    exact e2 i a b
  have q3 := q (8 * k + 3) (by omega) (by omega)
  have q4 := q (8 * k + 4) (by omega) (by omega)
  have q5 := q (8 * k + 5) (by omega) (by omega)
  have q6 := q (8 * k + 6) (by omega) (by omega)
  rw [show (2 : Int) + 8 * k + 3 = 2 + (8 * k + 3) by omega, show (2 : Int) + 8 * k + 4 = 2 + (8 * k + 4) by omega, show (2 : Int) + 8 * k + 5 = 2 + (8 * k + 5) by omega, show (2 : Int) + 8 * k + 6 = 2 + (8 * k + 6) by omega, q3, q4, q5, q6]
  have b1 := c1.1
  have b2 := c3.1
  have r : ∀ i, 0 ≤ i → i < n → (eA g' 233 (at_ + (98 + 2 * i))).toInt = pE g 238 i ∧ (eA g' 233 (at_ + (98 + 2 * i + 1))).toInt = pE g 239 i := fun i a b => by
    rw [show at_ + (98 + 2 * i) = at_ + 98 + 2 * i by omega, show at_ + (98 + 2 * i + 1) = at_ + 98 + 2 * i + 1 by omega]
    exact e3 i a b
  exact ⟨c1.congr (fun i a b => r i (by omega) (by omega)), c3.congr (fun i a b => r i (by omega) (by omega))⟩
theorem PG.start {g g' : List en_E} (_hI : HI g') (h1 : gA g' 238 = gA g 238) (h2 : gA g' 239 = gA g 239) (h5 : gI g' 231 17 = gI g 231 17) (h6 : pI g' 23 = 0) (h0 : 0 ≤ pI g 17) : PG g' (pI g 17) 0 (pE g 238) (pE g 239) := by
  unfold PG
  rw [pE_c h1, pE_c h2, h6, show pI g' 17 = pI g 17 from congrArg Int32.toInt h5]
  exact PS.start h0 (fun i _ _ => ⟨rfl, rfl⟩)
theorem NSQ.empty {g : List en_E} (h6 : pI g 23 = 0) : NSQ g := fun j j0 j1 => by omega
theorem PT.start {g g' : List en_E} {t : Int} (hI : HI g') (h1 : gA g' 238 = gA g 238) (h2 : gA g' 239 = gA g 239) (h5 : gI g' 231 17 = gI g 231 17) (h6 : pI g' 23 = 0) (h0 : 0 ≤ pI g 17) (ht : t ≤ 1) : PT g' (pI g 17) t (pE g 238) (pE g 239) :=
  PT.mk (fun _ => PG.start hI h1 h2 h5 h6 h0) (fun h => absurd h (by omega)) (fun _ _ => NSQ.empty h6) (fun h => absurd h (by omega))
def SAME (g g' : List en_E) (n : Int) : Prop := ∀ i, 0 ≤ i → i < n → pE g' 238 i = pE g 238 i ∧ pE g' 239 i = pE g 239 i
theorem SAME.c {g g' : List en_E} {n : Int} (_hI : HI g') (h1 : gA g' 238 = gA g 238) (h2 : gA g' 239 = gA g 239) : SAME g g' n := fun i _ _ => by rw [pE_c h1, pE_c h2]; exact ⟨rfl, rfl⟩
theorem SAME.tr {g g1 g2 : List en_E} {n m : Int} (h : SAME g g1 n) (h' : SAME g1 g2 m) (hn : n ≤ m) : SAME g g2 n := fun i a b => by
  have x := h i a b
  have y := h' i a (by omega)
  exact ⟨y.1.trans x.1, y.2.trans x.2⟩
theorem EXPR.same {g g' : List en_E} (h : EXPR g g') : SAME g g' (pI g 17) := h.2.2
theorem EXPR.code {g g' g2 : List en_E} {a c : Int} (h : EXPR g g') (hs : SAME g' g2 (pI g' 17)) (ha : a = pI g 17) (hc : c = pI g' 17) (h0 : 0 ≤ pI g 17) : WfCode (pE g2 238) (pE g2 239) a c := by
  subst ha hc
  exact h.2.1.congr (fun i x y => hs i (by omega) y)
theorem WfCode.nil' {op arg : Int → Int} {a c : Int} (e : a = c) (h0 : 0 ≤ a) (h1 : a ≤ 400) : WfCode op arg a c := by
  subst e
  exact WfCode.nil h0 h1
/-- settle: an operator or NOT goes from the pile into the code -/
theorem PG.settleO {g g' : List en_E} {b : Int} {o0 a0 : Int → Int} {g1 : List en_E} {o : Int} (h : PG g b 1 o0 a0) (h1 : gA g1 238 = gA g 238) (h2 : gA g1 239 = gA g 239) (h3 : gA g1 240 = gA g 240) (h4 : gA g1 241 = gA g 241) (h5 : gI g1 231 17 = gI g 231 17) (h6 : pI g1 23 = pI g 23 - 1) (h0 : 1 ≤ pI g 23) (hE : EMIT g1 g' o) (k3 : gA g' 240 = gA g1 240) (k4 : gA g' 241 = gA g1 241) (k6 : gI g' 231 23 = gI g1 231 23) (ho : pE g 240 (pI g 23 - 1) = o) (hr : o ≤ 27) : PG g' b 1 o0 a0 := by
  have h20 : 20 ≤ o := by
    obtain ⟨-, -, -, -, -, H, C, -, -, -, -, -, hpl, -⟩ := h
    have := (hpl (pI g 23 - 1) (by omega) (by omega)).1
    rw [← ho]
    exact this
  have hp : ∀ e', ((o ≤ 26 ∧ e' = 1 + 1) ∨ (26 < o ∧ e' = 1)) → PG g1 b e' o0 a0 := by
    intro e' he
    unfold PG at *
    rw [pE_c h1, pE_c h2, pE_c h3, pE_c h4, show pI g1 17 = pI g 17 from congrArg Int32.toInt h5, h6]
    rw [show pI g 23 = pI g 23 - 1 + 1 by omega] at h
    refine h.pop (by omega) ?_
    rw [ho]
    rcases he with he | he
    · exact Or.inl he
    · exact Or.inr ⟨he.1, he.2, by omega⟩
  by_cases c : o ≤ 26
  · exact (hp 2 (Or.inl ⟨c, rfl⟩)).emit hE k3 k4 k6 (Or.inr (Or.inl ⟨h20, c, rfl, by decide⟩))
  · exact (hp 1 (Or.inr ⟨by omega, rfl⟩)).emit hE k3 k4 k6 (Or.inr (Or.inr (Or.inl ⟨by omega, rfl, by decide⟩)))
theorem INN.eqk {g : List en_E} {k k' r : Int} (h : INN g k r) (e : k = k') : INN g k' r := e ▸ h
/-- a word of one letter is worth no more than 26 -/
def W26 (g : List en_E) : Prop := pI g 11 = 1 → pI g 10 ≤ pI g 9 + 1 → (gJ g 231 12).toInt ≤ 26
theorem W26.cong {g g' : List en_E} (h : W26 g) (_hI : HI g') (h1 : gI g' 231 9 = gI g 231 9) (h2 : gI g' 231 10 = gI g 231 10) (h3 : gI g' 231 11 = gI g 231 11) (h4 : gJ g' 231 12 = gJ g 231 12) : W26 g' := by
  unfold W26 pI at *
  rw [h1, h2, h3, h4]
  exact h
def ISW (g : List en_E) (r w : Int) : Prop := r ≠ 0 → pI g 11 = 1 ∧ (gJ g 231 12).toInt = w
theorem W26.two {g : List en_E} {r w : Int} (h : W26 g) (hw : ISW g r w) (hr : r ≠ 0) (h27 : 26 < w) : (gI g 231 9).toInt + 2 ≤ (gI g 231 10).toInt := by
  obtain ⟨h1, h2⟩ := hw hr
  have h3 := h h1
  by_cases c : pI g 10 ≤ pI g 9 + 1
  · have := h3 c
    omega
  · have c' : ¬ (gI g 231 10).toInt ≤ (gI g 231 9).toInt + 1 := c
    omega
def TURN (g : List en_E) (b r : Int) (o0 a0 : Int → Int) : Prop := (gI g 231 14).toInt = 0 → (gI g 231 17).toInt + (gI g 231 23).toInt ≤ (gI g 231 9).toInt ∧ PT g b r o0 a0
def PRG (bad f0 f1 r k : Int) : Prop := bad = 0 → f0 + 1 ≤ f1 ∨ r = 4 ∨ r = k
def XPR (g g' : List en_E) : Prop := (gI g' 231 14).toInt = 0 → (gI g' 231 17).toInt ≤ (gI g' 231 9).toInt ∧ EXPR g g'
def CLZ (g : List en_E) : Prop := (gI g 231 14).toInt = 0 → (gI g 231 17).toInt ≤ (gI g 231 9).toInt ∧ CLS g (gI g 231 15).toInt (gI g 231 17).toInt
theorem CLS.zero0 {g : List en_E} {K n : Int} (h : K = 0) : CLS g K n := fun k k0 k1 => by omega
theorem CLS.cong2 {g g' : List en_E} (h : CLS g (gI g 231 15).toInt (gI g 231 17).toInt) (_hI : HI g') (h1 : gA g' 238 = gA g 238) (h2 : gA g' 239 = gA g 239) (h3 : gA g' 237 = gA g 237) (h5 : gI g' 231 15 = gI g 231 15) (h6 : gI g' 231 17 = gI g 231 17) : CLS g' (gI g' 231 15).toInt (gI g' 231 17).toInt := by
  rw [h5, h6]
  unfold CLS at *
  rw [pE_c h1, pE_c h2, pE_c h3]
  exact h
