/-! ===== the reference's worth of a piece of code ===== -/
def WRM (g : List en_E) : Int → Int := fun i => if 1 ≤ i ∧ i ≤ 9 then (eK g 244 i).toInt else 0
/-- the law in force, as codes -/
def OQM (g : List en_E) : Int → Int := fun i => (eA g 233 ((gI g 231 27).toInt + 98 + 2 * i)).toInt
def AQM (g : List en_E) : Int → Int := fun i => (eA g 233 ((gI g 231 27).toInt + 98 + 2 * i + 1)).toInt
def FQM (g : List en_E) : EVF := exM (WRM g) (OQM g) (AQM g)
def LKN (g : List en_E) (a b : Int) : Prop := LKR (FQM g) (OQM g) a b ∧ 0 ≤ a ∧ b ≤ 400 ∧ a ≤ b ∧ ∀ i : Int, 1 ≤ i → i ≤ 9 → SMB (eK g 244 i)
def WQM (g0 g : List en_E) (a b at_ top : Int) : Prop := gK g 244 = gK g0 244 ∧ (LKN g0 a b → ((gI g 231 30).toInt = 0 ∧ ∃ n, WKI (FQM g0) a b (fK g 245) at_ top n) ∨ ((gI g 231 30).toInt ≠ 0 ∧ evV (FQM g0) b 401 (a, []) = none))
/-- what came of it: the value stands in 231, 31 -/
def WRN (g0 g : List en_E) (a b : Int) : Prop := gK g 244 = gK g0 244 ∧ (LKN g0 a b → evV (FQM g0) b 401 (a, []) = if (gI g 231 30).toInt = 0 then some (gJ g 231 31).toInt else none)
/-- what joins two -/
def JNM (g0 g' : List en_E) (o : Int) (a b r : Int64) : Prop := KSM g0 g' ∧ (SMB a → SMB b → 20 ≤ o → o ≤ 26 → (o = 23 ∧ b.toInt = 0 → (gI g' 231 30).toInt ≠ 0) ∧ (¬ (o = 23 ∧ b.toInt = 0) → r.toInt = opv o a.toInt b.toInt ∧ ((gI g0 231 30).toInt = 0 → (gI g' 231 30).toInt = 0)))
section EXM
variable {W O A : Int → Int} {p x y : Int} {R S : List Int}
theorem exM_num (h : O p = 0) : exM W O A (p, S) = some (p + 1, A p :: S) := by
  show exi W p (O p) (A p) S = _
  exact if_pos h
theorem exM_word (h : ¬ O p = 0) (h2 : O p < 20) : exM W O A (p, S) = some (p + 1, W (O p) :: S) := by
  show exi W p (O p) (A p) S = _
  exact (if_neg h).trans (if_pos h2)
theorem exM_not (h : O p = 27) : exM W O A (p, x :: R) = some (p + 1, (1 - x) :: R) := by
  show exi W p (O p) (A p) (x :: R) = _
  rw [h]
  exact exi.not
theorem exM_jmp (h : O p = 28 ∨ O p = 29) : exM W O A (p, x :: R) = if x = (if O p = 28 then 0 else 1) then some (A p, x :: R) else some (p + 1, R) := by
  show exi W p (O p) (A p) (x :: R) = _
  rw [exi.jmp (by omega)]
  rfl
theorem exM_bin (h : 20 ≤ O p ∧ O p ≤ 26) : exM W O A (p, y :: x :: R) = if opb (O p) x y then none else some (p + 1, opv (O p) x y :: R) := by
  show exi W p (O p) (A p) (y :: x :: R) = _
  exact exi.bin h
end EXM
section WQMS
variable {g0 g g' : List en_E} {a b at_ top at2 top2 j oo vv : Int} {v : Int64}
theorem WQM_z (s : gK g 244 = gK g0 244) (hb : (gI g 231 30).toInt = 0) (h : at_ = a) (ht : top = 0) : WQM g0 g a b at_ top := ⟨s, fun _ => Or.inl ⟨hb, 0, WKI_z h ht rfl⟩⟩
theorem WQM_go (w : WQM g0 g a b at_ top) (hb : (gI g 231 30).toInt = 0) (L : LKN g0 a b) : ∃ n, WKI (FQM g0) a b (fK g 245) at_ top n := (w.2 L).elim (fun z => z.2) (fun z => absurd hb z.1)
theorem WQM_num (w : WQM g0 g a b at_ top) (hb : (gI g 231 30).toInt = 0) (h : at_ < b) (hO : OQM g0 at_ = 0) (hA : AQM g0 at_ = vv) (u : KWR g g' 245 j v) (s : gK g' 244 = gK g 244) (hb' : (gI g' 231 30).toInt = 0) (hj : j = top) (hv : v.toInt = vv) (hl : -2147483648 ≤ vv ∧ vv ≤ 2147483648) (e1 : at2 = at_ + 1) (e2 : top2 = top + 1) : WQM g0 g' a b at2 top2 := ⟨s.trans w.1, fun L => by
  obtain ⟨n, w'⟩ := WQM_go w hb L
  exact Or.inl ⟨hb', n + 1, WK_push w' h (fun S => by rw [← hA]; exact exM_num hO) u hj hv hl e1 e2 rfl⟩⟩
theorem WQM_word (w : WQM g0 g a b at_ top) (hb : (gI g 231 30).toInt = 0) (h : at_ < b) (hO : OQM g0 at_ = oo) (ho : 1 ≤ oo ∧ oo ≤ 9) (u : KWR g g' 245 j v) (s : gK g' 244 = gK g 244) (hb' : (gI g' 231 30).toInt = 0) (hj : j = top) (hv : v = eK g 244 oo) (e1 : at2 = at_ + 1) (e2 : top2 = top + 1) : WQM g0 g' a b at2 top2 := ⟨s.trans w.1, fun L => by
  obtain ⟨n, w'⟩ := WQM_go w hb L
  refine Or.inl ⟨hb', n + 1, WK_push (x := v.toInt) w' h (fun S => ?_) u hj rfl (by rw [hv, eK_c w.1]; exact L.2.2.2.2 oo ho.1 ho.2) e1 e2 rfl⟩
  have z := exM_word (W := WRM g0) (O := OQM g0) (A := AQM g0) (p := at_) (S := S) (by rw [hO]; omega) (by rw [hO]; omega)
  rw [hO, show WRM g0 oo = v.toInt from by
    show (if 1 ≤ oo ∧ oo ≤ 9 then (eK g0 244 oo).toInt else 0) = v.toInt
    rw [if_pos ho, hv, eK_c w.1]] at z
  exact z⟩
theorem WQM_not (w : WQM g0 g a b at_ top) (hb : (gI g 231 30).toInt = 0) (h : at_ < b) (hO : OQM g0 at_ = 27) (u : KWR g g' 245 j v) (s : gK g' 244 = gK g 244) (hb' : (gI g' 231 30).toInt = 0) (hj : j = top - 1) (hv : ∀ x : Int64, x = eK g 245 (top - 1) → SMB x → v.toInt = 1 - x.toInt) (ht : 1 ≤ top) (e1 : at2 = at_ + 1) (e2 : top2 = top) : WQM g0 g' a b at2 top2 := ⟨s.trans w.1, fun L => by
  obtain ⟨n, w'⟩ := WQM_go w hb L
  exact Or.inl ⟨hb', n + 1, WK_not w' L.1 h (by rw [hO]; decide) (fun x R => exM_not hO) u hj (hv _ rfl (WK_sm w' (top - 1) (by omega) (by omega))) e1 e2 rfl⟩⟩
theorem WQM_jmp {x : Int64} (w : WQM g0 g a b at_ top) (hb : (gI g 231 30).toInt = 0) (h : at_ < b) (hO : OQM g0 at_ = oo) (hA : AQM g0 at_ = vv) (hx : x = eK g 245 (top - 1)) (hc : (oo = 28 ∧ x.toInt = 0) ∨ (oo = 29 ∧ x.toInt = 1)) (e1 : at2 = vv) (e2 : top2 = top) : WQM g0 g a b at2 top2 := ⟨w.1, fun L => by
  obtain ⟨n, w'⟩ := WQM_go w hb L
  have hc' : (eK g 245 (top - 1)).toInt = if oo = 28 then 0 else 1 := by
    rw [← hx]
    by_cases c : oo = 28
    · rw [if_pos c]; omega
    · rw [if_neg c]; omega
  exact Or.inl ⟨hb, n + 1, (WK_jmp (t := vv) (c := if oo = 28 then 0 else 1) w' L.1 h (by rw [hO]; omega) (fun x R => by
    have y := exM_jmp (W := WRM g0) (O := OQM g0) (A := AQM g0) (p := at_) (x := x) (R := R) (by rw [hO]; omega)
    rw [hO, hA] at y
    exact y) hc' rfl e1 e2 rfl).2⟩⟩
theorem WQM_pop {x : Int64} (w : WQM g0 g a b at_ top) (hb : (gI g 231 30).toInt = 0) (h : at_ < b) (hO : OQM g0 at_ = oo) (hx : x = eK g 245 (top - 1)) (hc : (oo = 28 ∧ x.toInt ≠ 0) ∨ (oo = 29 ∧ x.toInt ≠ 1)) (e1 : at2 = at_ + 1) (e2 : top2 = top - 1) : WQM g0 g a b at2 top2 := ⟨w.1, fun L => by
  obtain ⟨n, w'⟩ := WQM_go w hb L
  have hc' : (eK g 245 (top - 1)).toInt ≠ if oo = 28 then 0 else 1 := by
    rw [← hx]
    by_cases c : oo = 28
    · rw [if_pos c]; omega
    · rw [if_neg c]; omega
  exact Or.inl ⟨hb, n + 1, WK_pop (t := AQM g0 at_) (c := if oo = 28 then 0 else 1) w' L.1 h (by rw [hO]; omega) (fun x R => by
    have y := exM_jmp (W := WRM g0) (O := OQM g0) (A := AQM g0) (p := at_) (x := x) (R := R) (by rw [hO]; omega)
    rw [hO] at y
    exact y) hc' rfl e1 e2 rfl⟩⟩
theorem WQM_bin {g1 : List en_E} {x y : Int64} (w : WQM g0 g a b at_ top) (hb : (gI g 231 30).toInt = 0) (h : at_ < b) (hO : OQM g0 at_ = oo) (ho : 20 ≤ oo ∧ oo ≤ 26) (ht : 2 ≤ top) (hx : x = eK g 245 (top - 2)) (hy : y = eK g 245 (top - 1)) (hJ : JNM g g1 oo x y v) (u : KWR g1 g' 245 j v) (s : gK g' 244 = gK g1 244) (hj : j = top - 2) (hfin : ((gI g' 231 30).toInt = 0 ∧ (gI g1 231 30).toInt = 0 ∧ -1000000000 ≤ v.toInt ∧ v.toInt ≤ 1000000000) ∨ ((gI g' 231 30).toInt ≠ 0 ∧ ((gI g1 231 30).toInt ≠ 0 ∨ v.toInt < -1000000000 ∨ 1000000000 < v.toInt))) (e1 : at2 = at_ + 1) (e2 : top2 = top - 1) : WQM g0 g' a b at2 top2 := ⟨(s.trans (hJ.1 244)).trans w.1, fun L => by
  obtain ⟨n, w'⟩ := WQM_go w hb L
  have J := hJ.2 (by rw [hx]; exact WK_sm w' _ (by omega) (by omega)) (by rw [hy]; exact WK_sm w' _ (by omega) (by omega)) ho.1 ho.2
  rw [hx, hy] at J
  have hF : ∀ x y R, FQM g0 (at_, y :: x :: R) = if opb oo x y then none else some (at_ + 1, opv oo x y :: R) := fun x y R => by
    have z := exM_bin (W := WRM g0) (O := OQM g0) (A := AQM g0) (p := at_) (x := x) (y := y) (R := R) (by rw [hO]; exact ho)
    rw [hO] at z
    exact z
  have ho' : 20 ≤ OQM g0 at_ ∧ OQM g0 at_ ≤ 26 := by rw [hO]; exact ho
  by_cases z : oo = 23 ∧ (eK g 245 (top - 1)).toInt = 0
  · have k := J.1 z
    rcases hfin with f | f
    · exact absurd f.2.1 k
    · exact Or.inr ⟨f.1, WK_brk w' L.1 h ho' hF (Or.inl z) (by have l1 := L.2.1; have l2 := L.2.2.1; omega)⟩
  · obtain ⟨k1, k2⟩ := J.2 z
    have k3 := k2 hb
    rcases hfin with f | f
    · have f3 := f.2.2
      rw [k1] at f3
      refine Or.inl ⟨f.1, n + 1, WK_bin w' L.1 h ho' hF (fun q => ?_) (KWR_l (hJ.1 245) u) hj k1 e1 e2 rfl⟩
      rcases q with q | q | q
      · exact z q
      · exact absurd q (by omega)
      · exact absurd q (by omega)
    · have f3 := f.2.resolve_left (fun q => q k3)
      rw [k1] at f3
      exact Or.inr ⟨f.1, WK_brk w' L.1 h ho' hF (Or.inr f3) (by have l1 := L.2.1; have l2 := L.2.2.1; omega)⟩⟩
theorem WKI_one {F : EVF} {o : Int → Int} {n : Int} {S : List Int} (h1 : itr F n.toNat (a, []) = some (at_, S)) (h4 : ∀ m : Nat, m < n.toNat → ∃ y, itr F m (a, []) = some y ∧ y.1 < b) (r : LKR F o a b) (h : b ≤ at_) : S.length = 1 := by
  rcases r with ⟨v, k, k1, k2, k3⟩ | ⟨k, k1, k2, k3⟩
  · have hk : n.toNat = k := by
      rcases Nat.lt_trichotomy n.toNat k with c | c | c
      · obtain ⟨y, y1, y2, y3, _⟩ := k3 _ c
        rw [h1] at y1
        have e : at_ = y.1 := congrArg Prod.fst (Option.some.inj y1)
        omega
      · exact c
      · obtain ⟨y, y1, y2⟩ := h4 k c
        rw [k1] at y1
        have e : b = y.1 := congrArg Prod.fst (Option.some.inj y1)
        omega
    rw [hk, k1] at h1
    have e : [v] = S := congrArg Prod.snd (Option.some.inj h1)
    rw [← e]
    rfl
  · exfalso
    rcases Nat.lt_trichotomy n.toNat (k + 1) with c | c | c
    · obtain ⟨y, y1, y2, y3, _⟩ := k3 _ c
      rw [h1] at y1
      have e : at_ = y.1 := congrArg Prod.fst (Option.some.inj y1)
      omega
    · rw [c, k1] at h1
      cases h1
    · obtain ⟨y, y1, y2⟩ := h4 (k + 1) c
      rw [k1] at y1
      cases y1
theorem WQM_out {r : Int64} (w : WQM g0 g a b at_ top) (hx : b ≤ at_ ∨ (gI g 231 30).toInt ≠ 0) (s : gK g' 244 = gK g 244) (hb : gI g' 231 30 = gI g 231 30) (hr : gJ g' 231 31 = r) (h0 : 0 < top → r = eK g 245 0) : WRN g0 g' a b := ⟨s.trans w.1, fun L => by
  have l1 := L.2.1
  have l2 := L.2.2.1
  rw [hb, hr]
  rcases w.2 L with z | z
  · obtain ⟨z1, n, z2⟩ := z
    have hx' := hx.resolve_right (fun q => q z1)
    have t1 : top = 1 := by
      obtain ⟨q0, S, q1, q2, q3, q4⟩ := z2
      have e := WKI_one q1 q4 L.1 hx'
      omega
    rw [if_pos z1, h0 (by omega)]
    exact WK_end z2 L.1 hx' (by omega)
  · rw [if_neg z.1]
    exact z.2⟩
end WQMS
/-! ===== what the law in force tells, the reference ===== -/
def SMM (g : List en_E) : Prop := ∀ i : Int, 1 ≤ i → i ≤ 9 → SMB (eK g 244 i)
def MCX (g : List en_E) (R W : Int → Int) : Prop := WRM g = W ∧ SMM g ∧ OQM g = ORW R ∧ AQM g = ARW R
theorem MCX_c {g g' : List en_E} {R W : Int → Int} (h : MCX g R W) (k : gK g' 244 = gK g 244) (a : gA g' 233 = gA g 233) (i : gI g' 231 27 = gI g 231 27) : MCX g' R W := by
  obtain ⟨h1, h2, h3, h4⟩ := h
  refine ⟨?_, fun j j0 j1 => ?_, ?_, ?_⟩
  · rw [← h1]
    funext j
    unfold WRM
    rw [eK_c k]
  · rw [eK_c k]
    exact h2 j j0 j1
  · rw [← h3]
    funext j
    unfold OQM
    rw [i, eA_tq a]
  · rw [← h4]
    funext j
    unfold AQM
    rw [i, eA_tq a]
/-- the row of the law f -/
def RWM (g : List en_E) (f : Int) : Int → Int := fun i => (eA g 233 (110 + 900 * f + i)).toInt
theorem OQM_e {g g' : List en_E} {f : Int} (h : (gI g' 231 27).toInt = 110 + 900 * f) (a : gA g' 233 = gA g 233) : OQM g' = ORW (RWM g f) ∧ AQM g' = ARW (RWM g f) := by
  constructor
  · funext i
    show (eA g' 233 ((gI g' 231 27).toInt + 98 + 2 * i)).toInt = (eA g 233 (110 + 900 * f + (98 + 2 * i))).toInt
    rw [h, eA_tq a, show 110 + 900 * f + 98 + 2 * i = 110 + 900 * f + (98 + 2 * i) by omega]
  · funext i
    show (eA g' 233 ((gI g' 231 27).toInt + 98 + 2 * i + 1)).toInt = (eA g 233 (110 + 900 * f + (98 + 2 * i + 1))).toInt
    rw [h, eA_tq a, show 110 + 900 * f + 98 + 2 * i + 1 = 110 + 900 * f + (98 + 2 * i + 1) by omega]
def LKP (R W : Int → Int) (a b : Int) : Prop := LKR (exM W (ORW R) (ARW R)) (ORW R) a b ∧ 0 ≤ a ∧ a ≤ b ∧ b ≤ 400
theorem WRN_w {g g1 : List en_E} {R W : Int → Int} {a b : Int} (w : WRN g g1 a b) (m : MCX g R W) (L : LKP R W a b) : evV (exM W (ORW R) (ARW R)) b 401 (a, []) = if (gI g1 231 30).toInt = 0 then some (gJ g1 231 31).toInt else none := by
  obtain ⟨h1, h2, h3, h4⟩ := m
  have e : FQM g = exM W (ORW R) (ARW R) := by
    unfold FQM
    rw [h1, h3, h4]
  have z := w.2 ⟨by rw [e, h3]; exact L.1, L.2.1, L.2.2.2, L.2.2.1, h2⟩
  rw [e] at z
  exact z
/-- from below: what the first c clauses told -/
def TMI (g : List en_E) (R W : Int → Int) (u n c d told : Int) : Prop := MCX g R W ∧ (u = 1 → LKM R W n → told = TMW R W c.toNat d)
section TMIS
variable {g g' g1 : List en_E} {R W : Int → Int} {u n c c2 d told told2 : Int}
theorem TMI_z (m : MCX g R W) (h : c = 0) (e : told = d) : TMI g R W u n c d told := ⟨m, fun _ _ => by
  rw [h]
  exact e⟩
theorem TMW_s (h : c2 = c + 1) (h0 : 0 ≤ c) : TMW R W c2.toNat d = if R (2 + 8 * c) = 1 then (CMW R W c).getD (TMW R W c.toNat d) else TMW R W c.toNat d := by
  have e : c2.toNat = c.toNat + 1 := by omega
  have e2 : ((c.toNat : Nat) : Int) = c := Int.toNat_of_nonneg h0
  unfold TMW
  rw [e, tlV_s, e2]
theorem TMI_skip (t : TMI g R W u n c d told) (m : MCX g' R W) (h : c2 = c + 1) (h0 : 0 ≤ c) (hh : u = 1 → R (2 + 8 * c) ≠ 1) : TMI g' R W u n c2 d told := ⟨m, fun h1 L => by
  rw [TMW_s h h0, if_neg (hh h1)]
  exact t.2 h1 L⟩
def LKQ (R W : Int → Int) (c : Int) : Prop := LKP R W (R (2 + 8 * c + 3)) (R (2 + 8 * c + 4)) ∧ (R (2 + 8 * c + 5) = R (2 + 8 * c + 6) ∨ (R (2 + 8 * c + 5) < R (2 + 8 * c + 6) ∧ LKP R W (R (2 + 8 * c + 5)) (R (2 + 8 * c + 6))))
theorem LKM_q (L : LKM R W n) (h0 : 0 ≤ c) (h1 : c < n) (hh : R (2 + 8 * c) = 1) : LKQ R W c := by
  obtain ⟨p, q⟩ := L c h0 h1 hh
  refine ⟨p, ?_⟩
  rcases q with q | q
  · exact Or.inl q
  · exact Or.inr ⟨q.2.2.1, q.1, q.2.1, Int.le_of_lt q.2.2.1, q.2.2.2⟩
theorem TMI_none (t : TMI g R W u n c d told) (m : MCX g' R W) (h : c2 = c + 1) (h0 : 0 ≤ c) (hn : c < n) (hc : u = 1 → LKQ R W c → CMW R W c = none) : TMI g' R W u n c2 d told := ⟨m, fun h1 L => by
  rw [TMW_s h h0]
  by_cases hh : R (2 + 8 * c) = 1
  · rw [if_pos hh, hc h1 (LKM_q L h0 hn hh)]
    exact t.2 h1 L
  · rw [if_neg hh]
    exact t.2 h1 L⟩
theorem TMI_some (m : MCX g' R W) (h : c2 = c + 1) (h0 : 0 ≤ c) (hn : c < n) (hh : u = 1 → R (2 + 8 * c) = 1) (hc : u = 1 → LKQ R W c → CMW R W c = some told2) : TMI g' R W u n c2 d told2 := ⟨m, fun h1 L => by
  rw [TMW_s h h0, if_pos (hh h1), hc h1 (LKM_q L h0 hn (hh h1))]
  rfl⟩
theorem CMW_no {v : Int} (hl : R (2 + 8 * c + 5) < R (2 + 8 * c + 6)) (w : WRN g g1 (R (2 + 8 * c + 5)) (R (2 + 8 * c + 6))) (m : MCX g R W) (hv : (gJ g1 231 31).toInt = v) (hr : (gI g1 231 30).toInt ≠ 0 ∨ v = 0) (L : LKQ R W c) : CMW R W c = none := by
  have e := WRN_w w m (L.2.resolve_left (fun z => absurd z (by omega))).2
  have x : tsO (exM W (ORW R) (ARW R)) (R (2 + 8 * c + 5)) (R (2 + 8 * c + 6)) = false := by
    unfold tsO
    rw [if_neg (by omega), e]
    by_cases b : (gI g1 231 30).toInt = 0
    · rw [if_pos b, hv, hr.resolve_left (fun z => z b)]
      rfl
    · rw [if_neg b]
      rfl
  unfold CMW clO
  rw [x]
  rfl
theorem CMW_yes {v : Int} (hl : R (2 + 8 * c + 5) < R (2 + 8 * c + 6)) (w : WRN g g1 (R (2 + 8 * c + 5)) (R (2 + 8 * c + 6))) (m : MCX g R W) (hv : (gJ g1 231 31).toInt = v) (hb : (gI g1 231 30).toInt = 0) (hr : v ≠ 0) (L : LKQ R W c) : CMW R W c = evV (exM W (ORW R) (ARW R)) (R (2 + 8 * c + 4)) 401 (R (2 + 8 * c + 3), []) := by
  have e := WRN_w w m (L.2.resolve_left (fun z => absurd z (by omega))).2
  have x : tsO (exM W (ORW R) (ARW R)) (R (2 + 8 * c + 5)) (R (2 + 8 * c + 6)) = true := by
    unfold tsO
    rw [if_neg (by omega), e, if_pos hb, hv]
    exact decide_eq_true hr
  unfold CMW clO
  rw [x]
  rfl
theorem CMW_bare (hl : ¬ R (2 + 8 * c + 5) < R (2 + 8 * c + 6)) (L : LKQ R W c) : CMW R W c = evV (exM W (ORW R) (ARW R)) (R (2 + 8 * c + 4)) 401 (R (2 + 8 * c + 3), []) := by
  have h5 : R (2 + 8 * c + 5) = R (2 + 8 * c + 6) := L.2.resolve_right (fun z => hl z.1)
  have x : tsO (exM W (ORW R) (ARW R)) (R (2 + 8 * c + 5)) (R (2 + 8 * c + 6)) = true := by
    unfold tsO
    rw [if_pos h5]
  unfold CMW clO
  rw [x]
  rfl
theorem EVM_none {a b : Int} (w : WRN g g1 a b) (m : MCX g R W) (hb : (gI g1 231 30).toInt ≠ 0) (L : LKP R W a b) : evV (exM W (ORW R) (ARW R)) b 401 (a, []) = none := by
  rw [WRN_w w m L, if_neg hb]
theorem EVM_some {a b v : Int} (w : WRN g g1 a b) (m : MCX g R W) (hb : (gI g1 231 30).toInt = 0) (hv : (gJ g1 231 31).toInt = v) (L : LKP R W a b) : evV (exM W (ORW R) (ARW R)) b 401 (a, []) = some v := by
  rw [WRN_w w m L, if_pos hb, hv]
theorem WRN_e {a b a' b' : Int} (w : WRN g g1 a b) (ea : a' = a) (eb : b' = b) : WRN g g1 a' b' := by
  rw [ea, eb]
  exact w
end TMIS
/-- what is told: a law in force or none -/
def LDM (g : List en_E) (l k : Int) : Int := (eA g 233 (46 + 6 * l + k)).toInt
def WWM (g : List en_E) (l s m w : Int) : Int → Int := WWF l (LDM g l 0) (LDM g l 4) s (NMo g s) m w (eA g 246 s).toInt (eA g 247 s).toInt
def TEM (g : List en_E) (f u l s m w d r : Int) : Prop := (f < 0 → r = d) ∧ (0 ≤ f → u = 1 → LKM (RWM g f) (WWM g l s m w) (RWM g f 1) → r = TMW (RWM g f) (WWM g l s m w) (RWM g f 1).toNat d)
theorem TMI_end {g0 g : List en_E} {f u l s m w d r c : Int} (t : TMI g (RWM g0 f) (WWM g0 l s m w) u (RWM g0 f 1) c d r) (h : RWM g0 f 1 ≤ c) (h2 : c ≤ RWM g0 f 1) (hf : 0 ≤ f) : TEM g0 f u l s m w d r := ⟨fun z => absurd z (by omega), fun _ h1 L => by
  have e : c = RWM g0 f 1 := by omega
  rw [e] at t
  exact t.2 h1 L⟩
theorem WRM_mk {gg : List en_E} {a b c d e f g h i : Int} (h1 : (eK gg 244 1).toInt = a) (h2 : (eK gg 244 2).toInt = b) (h3 : (eK gg 244 3).toInt = c) (h4 : (eK gg 244 4).toInt = d) (h5 : (eK gg 244 5).toInt = e) (h6 : (eK gg 244 6).toInt = f) (h7 : (eK gg 244 7).toInt = g) (h8 : (eK gg 244 8).toInt = h) (h9 : (eK gg 244 9).toInt = i) : WRM gg = WWF a b c d e f g h i := by
  funext k
  unfold WRM WWF
  by_cases c0 : 1 ≤ k ∧ k ≤ 9
  · rw [if_pos c0]
    rcases (show k = 1 ∨ k = 2 ∨ k = 3 ∨ k = 4 ∨ k = 5 ∨ k = 6 ∨ k = 7 ∨ k = 8 ∨ k = 9 by omega) with z | z | z | z | z | z | z | z | z
    · rw [z, h1, if_pos rfl]
    · rw [z, h2, if_neg (show ¬ (2 : Int) = 1 by omega), if_pos rfl]
    · rw [z, h3, if_neg (show ¬ (3 : Int) = 1 by omega), if_neg (show ¬ (3 : Int) = 2 by omega), if_pos rfl]
    · rw [z, h4, if_neg (show ¬ (4 : Int) = 1 by omega), if_neg (show ¬ (4 : Int) = 2 by omega), if_neg (show ¬ (4 : Int) = 3 by omega), if_pos rfl]
    · rw [z, h5, if_neg (show ¬ (5 : Int) = 1 by omega), if_neg (show ¬ (5 : Int) = 2 by omega), if_neg (show ¬ (5 : Int) = 3 by omega), if_neg (show ¬ (5 : Int) = 4 by omega), if_pos rfl]
    · rw [z, h6, if_neg (show ¬ (6 : Int) = 1 by omega), if_neg (show ¬ (6 : Int) = 2 by omega), if_neg (show ¬ (6 : Int) = 3 by omega), if_neg (show ¬ (6 : Int) = 4 by omega), if_neg (show ¬ (6 : Int) = 5 by omega), if_pos rfl]
    · rw [z, h7, if_neg (show ¬ (7 : Int) = 1 by omega), if_neg (show ¬ (7 : Int) = 2 by omega), if_neg (show ¬ (7 : Int) = 3 by omega), if_neg (show ¬ (7 : Int) = 4 by omega), if_neg (show ¬ (7 : Int) = 5 by omega), if_neg (show ¬ (7 : Int) = 6 by omega), if_pos rfl]
    · rw [z, h8, if_neg (show ¬ (8 : Int) = 1 by omega), if_neg (show ¬ (8 : Int) = 2 by omega), if_neg (show ¬ (8 : Int) = 3 by omega), if_neg (show ¬ (8 : Int) = 4 by omega), if_neg (show ¬ (8 : Int) = 5 by omega), if_neg (show ¬ (8 : Int) = 6 by omega), if_neg (show ¬ (8 : Int) = 7 by omega), if_pos rfl]
    · rw [z, h9, if_neg (show ¬ (9 : Int) = 1 by omega), if_neg (show ¬ (9 : Int) = 2 by omega), if_neg (show ¬ (9 : Int) = 3 by omega), if_neg (show ¬ (9 : Int) = 4 by omega), if_neg (show ¬ (9 : Int) = 5 by omega), if_neg (show ¬ (9 : Int) = 6 by omega), if_neg (show ¬ (9 : Int) = 7 by omega), if_neg (show ¬ (9 : Int) = 8 by omega), if_pos rfl]
  · rw [if_neg c0, if_neg (show ¬ k = 1 by omega), if_neg (show ¬ k = 2 by omega), if_neg (show ¬ k = 3 by omega), if_neg (show ¬ k = 4 by omega), if_neg (show ¬ k = 5 by omega), if_neg (show ¬ k = 6 by omega), if_neg (show ¬ k = 7 by omega), if_neg (show ¬ k = 8 by omega), if_neg (show ¬ k = 9 by omega)]
theorem SMM_mk {gg : List en_E} {a b c d e f g h i : Int} (h1 : (eK gg 244 1).toInt = a) (h2 : (eK gg 244 2).toInt = b) (h3 : (eK gg 244 3).toInt = c) (h4 : (eK gg 244 4).toInt = d) (h5 : (eK gg 244 5).toInt = e) (h6 : (eK gg 244 6).toInt = f) (h7 : (eK gg 244 7).toInt = g) (h8 : (eK gg 244 8).toInt = h) (h9 : (eK gg 244 9).toInt = i) (bb : (-2147483648 ≤ a ∧ a ≤ 2147483648) ∧ (-2147483648 ≤ b ∧ b ≤ 2147483648) ∧ (-2147483648 ≤ c ∧ c ≤ 2147483648) ∧ (-2147483648 ≤ d ∧ d ≤ 2147483648) ∧ (-2147483648 ≤ e ∧ e ≤ 2147483648) ∧ (-2147483648 ≤ f ∧ f ≤ 2147483648) ∧ (-2147483648 ≤ g ∧ g ≤ 2147483648) ∧ (-2147483648 ≤ h ∧ h ≤ 2147483648) ∧ (-2147483648 ≤ i ∧ i ≤ 2147483648)) : SMM gg := by
  intro k k0 k1
  unfold SMB
  rcases (show k = 1 ∨ k = 2 ∨ k = 3 ∨ k = 4 ∨ k = 5 ∨ k = 6 ∨ k = 7 ∨ k = 8 ∨ k = 9 by omega) with z | z | z | z | z | z | z | z | z
  · rw [z, h1]; omega
  · rw [z, h2]; omega
  · rw [z, h3]; omega
  · rw [z, h4]; omega
  · rw [z, h5]; omega
  · rw [z, h6]; omega
  · rw [z, h7]; omega
  · rw [z, h8]; omega
  · rw [z, h9]; omega
theorem q_b32 (v : Int32) : -2147483648 ≤ v.toInt ∧ v.toInt ≤ 2147483648 := by
  have b := q_bnd v
  omega
theorem NMo_b (g : List en_E) (s : Int) : -2147483648 ≤ NMo g s ∧ NMo g s ≤ 2147483648 := by
  unfold NMo
  split
  · exact q_b32 _
  · omega
