/-! ===== a law asked: piles of numbers in arrays against the runs of cor ===== -/
theorem gK_sXq {g : List en_E} {p n : Nat} (h : Sh g) (k : kK p n) (xs : List Int64) : gK (sX g p xs) p = xs := by
  have h1 := (h.lar k).1
  have hp := (List.getElem?_eq_some_iff.mp h1).1
  unfold sX
  rw [h1]
  unfold gK
  dsimp only
  rw [List.getElem?_set, if_pos rfl, if_pos hp]
theorem eK_eqT {g : List en_E} {p n : Nat} (h : Sh g) (k : kK p n) {j i : Int} {v : Int64} (e : i = j) (h0 : 0 ≤ j) (h1 : j < n) : eK (sK g p j v) p i = v := by
  subst e
  unfold eK sK
  rw [gK_sXq h k, List.getD_eq_getElem?_getD, List.getElem?_set, if_pos rfl, if_pos (by rw [(h.lar k).2]; omega)]
  rfl
theorem eK_neT {g : List en_E} {p n : Nat} (h : Sh g) (k : kK p n) {j i : Int} {v : Int64} (e : i ≠ j) (h0 : 0 ≤ j) (h1 : 0 ≤ i) : eK (sK g p j v) p i = eK g p i := by
  unfold eK sK
  rw [gK_sXq h k, List.getD_eq_getElem?_getD, List.getElem?_set, if_neg (by omega), ← List.getD_eq_getElem?_getD]
/-- a pile in a row: the latest on top -/
def stk (f : Nat → Int) : List Int → Prop
  | [] => True
  | x :: R => f R.length = x ∧ (-2147483648 ≤ x ∧ x ≤ 2147483648) ∧ stk f R
theorem stk_c {f f' : Nat → Int} : ∀ S : List Int, (∀ i : Nat, i < S.length → f i = f' i) → stk f S → stk f' S
  | [], _, _ => trivial
  | x :: R, e, h => ⟨(e R.length (by rw [List.length_cons]; omega)).symm.trans h.1, h.2.1, stk_c R (fun i hi => e i (by rw [List.length_cons]; omega)) h.2.2⟩
/-- one more on top -/
theorem stk_push {f f' : Nat → Int} {S : List Int} {v : Int} (h : stk f S) (e : ∀ i : Nat, i < S.length → f' i = f i) (hv : f' S.length = v) (hb : -2147483648 ≤ v ∧ v ≤ 2147483648) : stk f' (v :: S) := ⟨hv, hb, stk_c S (fun i hi => (e i hi).symm) h⟩
/-- so many steps of a run are done -/
def WKI (F : EVF) (a b : Int) (f : Nat → Int) (at_ top n : Int) : Prop := 0 ≤ n ∧ ∃ S, itr F n.toNat (a, []) = some (at_, S) ∧ top = (S.length : Int) ∧ stk f S ∧ ∀ m : Nat, m < n.toNat → ∃ y, itr F m (a, []) = some y ∧ y.1 < b
/-- the whole run: to a number, or BROKEN -/
def LKR (F : EVF) (o : Int → Int) (a b : Int) : Prop := (∃ v, GO F o a b [] [v]) ∨ GB F o a b []
section WKIS
variable {F : EVF} {o : Int → Int} {a b at_ top n at2 top2 n2 : Int} {f f' : Nat → Int} {S S' : List Int}
theorem WKI_z (h : at_ = a) (ht : top = 0) (hn : n = 0) : WKI F a b f at_ top n := by
  subst h ht hn
  exact ⟨Int.le_refl 0, [], rfl, rfl, trivial, fun m hm => absurd hm (by omega)⟩
theorem WKI_c (w : WKI F a b f at_ top n) (e : ∀ i : Nat, (i : Int) < top → f' i = f i) : WKI F a b f' at_ top n := by
  obtain ⟨h0, S, h1, h2, h3, h4⟩ := w
  exact ⟨h0, S, h1, h2, stk_c S (fun i hi => (e i (by omega)).symm) h3, h4⟩
theorem WKI_in (h1 : itr F n.toNat (a, []) = some (at_, S)) (h4 : ∀ m : Nat, m < n.toNat → ∃ y, itr F m (a, []) = some y ∧ y.1 < b) (h0 : 0 ≤ n) (r : LKR F o a b) (h : at_ < b) : n + 1 ≤ b - a ∧ WFI (o at_) S ∧ (∀ w, F (at_, S) = some w → at_ < w.1) ∧ a ≤ at_ := by
  rcases r with ⟨v, k, k1, k2, k3⟩ | ⟨k, k1, k2, k3⟩
  · have hk : n.toNat < k := by
      rcases Nat.lt_trichotomy n.toNat k with c | c | c
      · exact c
      · rw [c, k1] at h1
        have e := congrArg Prod.fst (Option.some.inj h1)
        have e' : b = at_ := e
        omega
      · obtain ⟨y, y1, y2⟩ := h4 k c
        rw [k1] at y1
        have e : b = y.1 := congrArg Prod.fst (Option.some.inj y1)
        omega
    obtain ⟨y, y1, y2, y3, y4, y5⟩ := k3 _ hk
    rw [h1] at y1
    have e := Option.some.inj y1
    subst e
    exact ⟨by omega, y4, y5, y2⟩
  · have hk : n.toNat < k + 1 := by
      rcases Nat.lt_trichotomy n.toNat (k + 1) with c | c | c
      · exact c
      · rw [c, k1] at h1
        cases h1
      · obtain ⟨y, y1, y2⟩ := h4 (k + 1) c
        rw [k1] at y1
        cases y1
    obtain ⟨y, y1, y2, y3, y4, y5⟩ := k3 _ hk
    rw [h1] at y1
    have e := Option.some.inj y1
    subst e
    exact ⟨by omega, y4, y5, y2⟩
theorem WKI_st (h1 : itr F n.toNat (a, []) = some (at_, S)) (h4 : ∀ m : Nat, m < n.toNat → ∃ y, itr F m (a, []) = some y ∧ y.1 < b) (h0 : 0 ≤ n) (h : at_ < b) (hF : F (at_, S) = some (at2, S')) (ht : top2 = (S'.length : Int)) (hs : stk f' S') (hn : n2 = n + 1) : WKI F a b f' at2 top2 n2 := by
  have e : n2.toNat = n.toNat + 1 := by omega
  refine ⟨by omega, S', ?_, ht, hs, fun m hm => ?_⟩
  · rw [e]
    exact (itr.add F n.toNat 1 h1).trans (by show (F (at_, S)).bind (itr F 0) = _; rw [hF]; rfl)
  · by_cases c : m = n.toNat
    · exact ⟨(at_, S), by rw [c]; exact h1, h⟩
    · exact h4 m (by omega)
/-- what comes out -/
theorem WKI_end (h1 : itr F n.toNat (a, []) = some (at_, S)) (h4 : ∀ m : Nat, m < n.toNat → ∃ y, itr F m (a, []) = some y ∧ y.1 < b) (hs : stk f S) (r : LKR F o a b) (h : b ≤ at_) (l : b - a ≤ 400) : evV F b 401 (a, []) = some (f 0) := by
  rcases r with ⟨v, g⟩ | g
  · rw [GO_ev g l]
    obtain ⟨k, k1, k2, k3⟩ := g
    have hk : n.toNat = k := by
      rcases Nat.lt_trichotomy n.toNat k with c | c | c
      · obtain ⟨y, y1, y2, y3, _⟩ := k3 _ c
        rw [h1] at y1
        have e : at_ = y.1 := congrArg Prod.fst (Option.some.inj y1)
        omega
      · exact c
      · obtain ⟨y, y1, y2⟩ := h4 k c
        rw [k1] at y1
        have e : b = y.1 := congrArg Prod.fst (Option.some.inj y1)
        omega
    rw [hk, k1] at h1
    have e : [v] = S := congrArg Prod.snd (Option.some.inj h1)
    rw [← e] at hs
    exact congrArg some hs.1.symm
  · obtain ⟨k, k1, k2, k3⟩ := g
    exfalso
    rcases Nat.lt_trichotomy n.toNat (k + 1) with c | c | c
    · obtain ⟨y, y1, y2, y3, _⟩ := k3 _ c
      rw [h1] at y1
      have e : at_ = y.1 := congrArg Prod.fst (Option.some.inj y1)
      omega
    · rw [c, k1] at h1
      cases h1
    · obtain ⟨y, y1, y2⟩ := h4 (k + 1) c
      rw [k1] at y1
      cases y1
theorem WKI_no (h1 : itr F n.toNat (a, []) = some (at_, S)) (r : LKR F o a b) (h : at_ < b) (h4 : ∀ m : Nat, m < n.toNat → ∃ y, itr F m (a, []) = some y ∧ y.1 < b) (h0 : 0 ≤ n) (hF : F (at_, S) = none) (l : b - a ≤ 400) : evV F b 401 (a, []) = none := by
  have hi := WKI_in h1 h4 h0 r h
  have e1 : itr F (n.toNat + 1) (a, []) = none := (itr.add F n.toNat 1 h1).trans (by show (F (at_, S)).bind (itr F 0) = _; rw [hF]; rfl)
  exact evV_gb F n.toNat 401 (by omega) e1 (fun m hm => by
    by_cases c : m = n.toNat
    · exact ⟨(at_, S), by rw [c]; exact h1, h⟩
    · exact h4 m (by omega))
end WKIS
/-! one instruction of the class -/
section EXS
variable {W K V : Int → Int} {p x y : Int} {R S : List Int}
theorem exX_num (h : K p = 0) : exX W K V (p, S) = some (p + 1, V p :: S) := by
  show exi W p (kop (K p) (V p)) (V p) S = _
  rw [show kop (K p) (V p) = 0 from if_pos h]
  exact if_pos rfl
theorem exX_word (h : K p = 1) (h0 : 0 ≤ V p ∧ V p ≤ 8) : exX W K V (p, S) = some (p + 1, W (V p + 1) :: S) := by
  show exi W p (kop (K p) (V p)) (V p) S = _
  rw [show kop (K p) (V p) = V p + 1 from (if_neg (show ¬ K p = 0 from by omega)).trans (if_pos h)]
  exact (if_neg (show ¬ V p + 1 = 0 from by omega)).trans (if_pos (show V p + 1 < 20 from by omega))
theorem exX_not (h : K p = 9) : exX W K V (p, x :: R) = some (p + 1, (1 - x) :: R) := by
  show exi W p (kop (K p) (V p)) (V p) (x :: R) = _
  rw [kop.op (by omega), show K p + 18 = 27 by omega]
  exact exi.not
theorem exX_jmp (h : K p = 10 ∨ K p = 11) : exX W K V (p, x :: R) = if x = (if K p = 10 then 0 else 1) then some (V p, x :: R) else some (p + 1, R) := by
  show exi W p (kop (K p) (V p)) (V p) (x :: R) = _
  rw [kop.op (by omega), exi.jmp (by omega)]
  have e : jmv (K p + 18) = (if K p = 10 then 0 else 1) := by
    unfold jmv
    rcases h with h | h
    · rw [if_pos (by omega), if_pos h]
    · rw [if_neg (by omega), if_neg (by omega)]
  rw [e]
theorem exX_bin (h : 2 ≤ K p ∧ K p ≤ 8) : exX W K V (p, y :: x :: R) = if opb (K p + 18) x y then none else some (p + 1, opv (K p + 18) x y :: R) := by
  show exi W p (kop (K p) (V p)) (V p) (y :: x :: R) = _
  rw [kop.op h.1]
  exact exi.bin (by omega)
end EXS
/-- longs that stay small: what they come to -/
theorem ldiv_e {x y v : Int64} (h : v = x / y) (h1 : -2147483648 ≤ x.toInt) (h2 : x.toInt ≤ 2147483648) : v.toInt = Int.tdiv x.toInt y.toInt := by
  rw [h, Int64.toInt_div]
  have a1 : (Int.tdiv x.toInt y.toInt).natAbs ≤ x.toInt.natAbs := by
    rw [Int.natAbs_tdiv]
    exact Nat.div_le_self _ _
  exact Int.bmod_eq_of_le (by omega) (by omega)
theorem lmul_b {x y v : Int64} (h : v = x * y) (h1 : -2147483648 ≤ x.toInt) (h2 : x.toInt ≤ 2147483648) (h3 : -2147483648 ≤ y.toInt) (h4 : y.toInt ≤ 2147483648) : v.toInt = x.toInt * y.toInt := by
  have a1 : (x.toInt * y.toInt).natAbs ≤ 2147483648 * 2147483648 := by
    rw [Int.natAbs_mul]
    exact Nat.mul_le_mul (by omega) (by omega)
  rw [h, Int64.toInt_mul]
  exact Int.bmod_eq_of_le (by omega) (by omega)
/-- what joins two numbers: the number, or BROKEN -/
def JNP (k a b r br : Int) : Prop := (opb (k + 18) a b → br ≠ 0) ∧ (¬ opb (k + 18) a b → br = 0 ∧ r = opv (k + 18) a b)
/-! ===== piles of longs from heap to heap ===== -/
/-- no pile of longs is touched -/
def KSM (g g' : List en_E) : Prop := ∀ p : Nat, gK g' p = gK g p
theorem KSM_rf {g : List en_E} : KSM g g := fun _ => rfl
theorem KSM_tr {g g1 g2 : List en_E} (h : KSM g g1) (k : KSM g1 g2) : KSM g g2 := fun p => (k p).trans (h p)
theorem KSM_I {g g1 : List en_E} {p b : Nat} {v : Int32} (h : KSM g g1) : KSM g (sI g1 p b v) := fun q => gK_sI.trans (h q)
theorem KSM_J {g g1 : List en_E} {p b : Nat} {v : Int64} (h : KSM g g1) : KSM g (sJ g1 p b v) := fun q => gK_sJ.trans (h q)
theorem KSM_A {g g1 : List en_E} {p : Nat} {j : Int} {v : Int32} (h : KSM g g1) : KSM g (sA g1 p j v) := fun q => (show gK (sW g1 p _) q = _ from gK_sW).trans (h q)
/-- one place of one pile is written -/
def KWR (g g' : List en_E) (p : Nat) (j : Int) (v : Int64) : Prop := ∀ i : Int, 0 ≤ i → eK g' p i = if i = j then v else eK g p i
theorem eK_c {g g' : List en_E} {p : Nat} (h : gK g' p = gK g p) (i : Int) : eK g' p i = eK g p i := by
  unfold eK
  rw [h]
theorem KWR_mk {g : List en_E} {p n : Nat} {j : Int} {v : Int64} (h : Sh g) (k : kK p n) (h0 : 0 ≤ j) (h1 : j < n) : KWR g (sK g p j v) p j v := fun i i0 => by
  by_cases c : i = j
  · rw [if_pos c]
    exact eK_eqT h k c h0 h1
  · rw [if_neg c]
    exact eK_neT h k c h0 i0
theorem KWR_l {g g1 g' : List en_E} {p : Nat} {j : Int} {v : Int64} (s : gK g1 p = gK g p) (w : KWR g1 g' p j v) : KWR g g' p j v := fun i i0 => by
  rw [w i i0, eK_c s]
theorem KWR_r {g g1 g' : List en_E} {p : Nat} {j : Int} {v : Int64} (w : KWR g g1 p j v) (s : gK g' p = gK g1 p) : KWR g g' p j v := fun i i0 => (eK_c s i).trans (w i i0)
/-- a pile as numbers -/
def fK (g : List en_E) (p : Nat) : Nat → Int := fun i => (eK g p (i : Int)).toInt
section WKS
variable {F : EVF} {o : Int → Int} {a b at_ top n at2 top2 n2 j x k c t : Int} {g g' : List en_E} {p : Nat} {v : Int64}
theorem WK_same (w : WKI F a b (fK g p) at_ top n) (s : gK g' p = gK g p) : WKI F a b (fK g' p) at_ top n := WKI_c w (fun i _ => congrArg Int64.toInt (eK_c s (i : Int)))
theorem WK_n (w : WKI F a b (fK g p) at_ top n) (r : LKR F o a b) (h : at_ < b) : n + 1 ≤ b - a := by
  obtain ⟨h0, S, h1, h2, h3, h4⟩ := w
  exact (WKI_in h1 h4 h0 r h).1
theorem WK_a (w : WKI F a b (fK g p) at_ top n) (r : LKR F o a b) (h : at_ < b) : a ≤ at_ := by
  obtain ⟨h0, S, h1, h2, h3, h4⟩ := w
  exact (WKI_in h1 h4 h0 r h).2.2.2
theorem WK_room (w : WKI F a b (fK g p) at_ top n) (r : LKR F o a b) (h : at_ < b) (ho : o at_ < 20) : top ≤ 63 := by
  obtain ⟨h0, S, h1, h2, h3, h4⟩ := w
  have z := (WKI_in h1 h4 h0 r h).2.1.1 ho
  omega
theorem WK_two (w : WKI F a b (fK g p) at_ top n) (r : LKR F o a b) (h : at_ < b) (ho : 20 ≤ o at_ ∧ o at_ ≤ 26) : 2 ≤ top := by
  obtain ⟨h0, S, h1, h2, h3, h4⟩ := w
  have z := (WKI_in h1 h4 h0 r h).2.1.2.1 ho
  omega
theorem WK_one (w : WKI F a b (fK g p) at_ top n) (r : LKR F o a b) (h : at_ < b) (ho : 27 ≤ o at_) : 1 ≤ top ∧ ((eK g p (top - 1)).toInt = 0 ∨ (eK g p (top - 1)).toInt = 1) := by
  obtain ⟨h0, S, h1, h2, h3, h4⟩ := w
  have z := (WKI_in h1 h4 h0 r h).2.1.2.2 ho
  cases S with
  | nil => exact absurd z.1 (by decide)
  | cons y R =>
    rw [List.length_cons] at h2
    have e : (eK g p (R.length : Int)).toInt = y := h3.1
    rw [show top - 1 = (R.length : Int) by omega, e]
    exact ⟨by omega, z.2⟩
/-- the two on top are small -/
theorem WK_sm (w : WKI F a b (fK g p) at_ top n) (i : Int) (i0 : 0 ≤ i) (i1 : i < top) : -2147483648 ≤ (eK g p i).toInt ∧ (eK g p i).toInt ≤ 2147483648 := by
  obtain ⟨h0, S, h1, h2, h3, h4⟩ := w
  have G : ∀ S : List Int, stk (fK g p) S → ∀ m : Nat, m < S.length → -2147483648 ≤ fK g p m ∧ fK g p m ≤ 2147483648 := by
    intro S
    induction S with
    | nil => intro _ m hm; exact absurd hm (Nat.not_lt_zero m)
    | cons y R ih =>
      intro hs m hm
      by_cases e : m = R.length
      · rw [e, hs.1]
        exact hs.2.1
      · exact ih hs.2.2 m (by rw [List.length_cons] at hm; omega)
  have z := G S h3 i.toNat (by omega)
  have e : ((i.toNat : Nat) : Int) = i := Int.toNat_of_nonneg i0
  unfold fK at z
  rw [e] at z
  exact z
/-- a number on top -/
theorem WK_push (w : WKI F a b (fK g p) at_ top n) (h : at_ < b) (hF : ∀ S, F (at_, S) = some (at_ + 1, x :: S)) (u : KWR g g' p j v) (hj : j = top) (hv : v.toInt = x) (hb : -2147483648 ≤ x ∧ x ≤ 2147483648) (e1 : at2 = at_ + 1) (e2 : top2 = top + 1) (e3 : n2 = n + 1) : WKI F a b (fK g' p) at2 top2 n2 := by
  obtain ⟨h0, S, h1, h2, h3, h4⟩ := w
  refine WKI_st h1 h4 h0 h (by rw [e1]; exact hF S) (by rw [List.length_cons]; omega) (stk_push h3 (fun i hi => ?_) ?_ hb) e3
  · show (eK g' p (i : Int)).toInt = (eK g p (i : Int)).toInt
    rw [u _ (by omega), if_neg (by omega)]
  · show (eK g' p (S.length : Int)).toInt = x
    rw [u _ (by omega), if_pos (by omega)]
    exact hv
theorem WK_not (w : WKI F a b (fK g p) at_ top n) (r : LKR F o a b) (h : at_ < b) (ho : 27 ≤ o at_) (hF : ∀ x R, F (at_, x :: R) = some (at_ + 1, (1 - x) :: R)) (u : KWR g g' p j v) (hj : j = top - 1) (hv : v.toInt = 1 - (eK g p (top - 1)).toInt) (e1 : at2 = at_ + 1) (e2 : top2 = top) (e3 : n2 = n + 1) : WKI F a b (fK g' p) at2 top2 n2 := by
  have z := WK_one w r h ho
  obtain ⟨h0, S, h1, h2, h3, h4⟩ := w
  cases S with
  | nil => exact absurd h2 (by rw [List.length_nil]; omega)
  | cons y R =>
    rw [List.length_cons] at h2
    have e : (eK g p (R.length : Int)).toInt = y := h3.1
    rw [show top - 1 = (R.length : Int) by omega, e] at z hv
    refine WKI_st h1 h4 h0 h (by rw [e1]; exact hF y R) (by rw [List.length_cons]; omega) (stk_push h3.2.2 (fun i hi => ?_) ?_ (by omega)) e3
    · show (eK g' p (i : Int)).toInt = (eK g p (i : Int)).toInt
      rw [u _ (by omega), if_neg (by omega)]
    · show (eK g' p (R.length : Int)).toInt = 1 - y
      rw [u _ (by omega), if_pos (by omega)]
      exact hv
/-- AND, OR: over the rest, or the rest -/
theorem WK_jmp (w : WKI F a b (fK g p) at_ top n) (r : LKR F o a b) (h : at_ < b) (ho : 27 ≤ o at_) (hF : ∀ x R, F (at_, x :: R) = if x = c then some (t, x :: R) else some (at_ + 1, R)) (hc : (eK g p (top - 1)).toInt = c) (s : gK g' p = gK g p) (e1 : at2 = t) (e2 : top2 = top) (e3 : n2 = n + 1) : at_ < t ∧ WKI F a b (fK g' p) at2 top2 n2 := by
  have z := WK_one w r h ho
  obtain ⟨h0, S, h1, h2, h3, h4⟩ := w
  have y := (WKI_in h1 h4 h0 r h).2.2.1
  cases S with
  | nil => exact absurd h2 (by rw [List.length_nil]; omega)
  | cons y0 R =>
    rw [List.length_cons] at h2
    have e : (eK g p (R.length : Int)).toInt = y0 := h3.1
    rw [show top - 1 = (R.length : Int) by omega, e] at hc
    have hF' := hF y0 R
    rw [if_pos hc] at hF'
    exact ⟨y _ hF', WKI_st h1 h4 h0 h (by rw [e1]; exact hF') (by rw [List.length_cons]; omega) (stk_c _ (fun i _ => congrArg Int64.toInt (eK_c s (i : Int)).symm) h3) e3⟩
theorem WK_pop (w : WKI F a b (fK g p) at_ top n) (r : LKR F o a b) (h : at_ < b) (ho : 27 ≤ o at_) (hF : ∀ x R, F (at_, x :: R) = if x = c then some (t, x :: R) else some (at_ + 1, R)) (hc : (eK g p (top - 1)).toInt ≠ c) (s : gK g' p = gK g p) (e1 : at2 = at_ + 1) (e2 : top2 = top - 1) (e3 : n2 = n + 1) : WKI F a b (fK g' p) at2 top2 n2 := by
  have z := WK_one w r h ho
  obtain ⟨h0, S, h1, h2, h3, h4⟩ := w
  cases S with
  | nil => exact absurd h2 (by rw [List.length_nil]; omega)
  | cons y0 R =>
    rw [List.length_cons] at h2
    have e : (eK g p (R.length : Int)).toInt = y0 := h3.1
    rw [show top - 1 = (R.length : Int) by omega, e] at hc
    have hF' := hF y0 R
    rw [if_neg hc] at hF'
    exact WKI_st h1 h4 h0 h (by rw [e1]; exact hF') (by omega) (stk_c R (fun i _ => congrArg Int64.toInt (eK_c s (i : Int)).symm) h3.2.2) e3
theorem WK_pair {S : List Int} (h2 : top = (S.length : Int)) (h3 : stk (fK g p) S) (z : 2 ≤ top) : ∃ R, S = (eK g p (top - 1)).toInt :: (eK g p (top - 2)).toInt :: R ∧ top = (R.length : Int) + 2 ∧ stk (fK g p) R := by
  cases S with
  | nil => exact absurd h2 (by rw [List.length_nil]; omega)
  | cons y R =>
    cases R with
    | nil => exact absurd h2 (by rw [List.length_cons, List.length_nil]; omega)
    | cons x R =>
      have e : (eK g p ((x :: R).length : Int)).toInt = y := h3.1
      have e' : (eK g p (R.length : Int)).toInt = x := h3.2.2.1
      rw [List.length_cons] at e
      rw [List.length_cons, List.length_cons] at h2
      refine ⟨R, ?_, by omega, h3.2.2.2.2⟩
      rw [show top - 1 = ((R.length + 1 : Nat) : Int) by omega, show top - 2 = (R.length : Int) by omega, e, e']
/-- two are joined -/
theorem WK_bin (w : WKI F a b (fK g p) at_ top n) (r : LKR F o a b) (h : at_ < b) (ho : 20 ≤ o at_ ∧ o at_ ≤ 26) (hF : ∀ x y R, F (at_, y :: x :: R) = if opb k x y then none else some (at_ + 1, opv k x y :: R)) (hn : ¬ opb k (eK g p (top - 2)).toInt (eK g p (top - 1)).toInt) (u : KWR g g' p j v) (hj : j = top - 2) (hv : v.toInt = opv k (eK g p (top - 2)).toInt (eK g p (top - 1)).toInt) (e1 : at2 = at_ + 1) (e2 : top2 = top - 1) (e3 : n2 = n + 1) : WKI F a b (fK g' p) at2 top2 n2 := by
  have z := WK_two w r h ho
  obtain ⟨h0, S, h1, h2, h3, h4⟩ := w
  obtain ⟨R, e, hR, hs⟩ := WK_pair h2 h3 z
  have hF' := hF (eK g p (top - 2)).toInt (eK g p (top - 1)).toInt R
  rw [if_neg hn] at hF'
  have hb : -2147483648 ≤ opv k (eK g p (top - 2)).toInt (eK g p (top - 1)).toInt ∧ opv k (eK g p (top - 2)).toInt (eK g p (top - 1)).toInt ≤ 2147483648 := by
    have n1 : ¬ opv k (eK g p (top - 2)).toInt (eK g p (top - 1)).toInt < -1000000000 := fun q => hn (Or.inr (Or.inl q))
    have n2 : ¬ 1000000000 < opv k (eK g p (top - 2)).toInt (eK g p (top - 1)).toInt := fun q => hn (Or.inr (Or.inr q))
    omega
  refine WKI_st h1 h4 h0 h (by rw [e1, e]; exact hF') (by rw [List.length_cons]; omega) (stk_push hs (fun i hi => ?_) ?_ hb) e3
  · show (eK g' p (i : Int)).toInt = (eK g p (i : Int)).toInt
    rw [u _ (by omega), if_neg (by omega)]
  · show (eK g' p (R.length : Int)).toInt = _
    rw [u _ (by omega), if_pos (by omega)]
    exact hv
/-- .. to BROKEN -/
theorem WK_brk (w : WKI F a b (fK g p) at_ top n) (r : LKR F o a b) (h : at_ < b) (ho : 20 ≤ o at_ ∧ o at_ ≤ 26) (hF : ∀ x y R, F (at_, y :: x :: R) = if opb k x y then none else some (at_ + 1, opv k x y :: R)) (hn : opb k (eK g p (top - 2)).toInt (eK g p (top - 1)).toInt) (l : b - a ≤ 400) : evV F b 401 (a, []) = none := by
  have z := WK_two w r h ho
  obtain ⟨h0, S, h1, h2, h3, h4⟩ := w
  obtain ⟨R, e, hR, hs⟩ := WK_pair h2 h3 z
  have hF' := hF (eK g p (top - 2)).toInt (eK g p (top - 1)).toInt R
  rw [if_pos hn, ← e] at hF'
  exact WKI_no h1 r h h4 h0 hF' l
theorem WK_end (w : WKI F a b (fK g p) at_ top n) (r : LKR F o a b) (h : b ≤ at_) (l : b - a ≤ 400) : evV F b 401 (a, []) = some (eK g p 0).toInt := by
  obtain ⟨h0, S, h1, h2, h3, h4⟩ := w
  exact WKI_end h1 h4 h3 r h l
end WKS
/-! ===== the class's worth of a piece of code ===== -/
theorem opv_20 {x y : Int} : opv 20 x y = x + y := if_pos rfl
theorem opv_21 {x y : Int} : opv 21 x y = x - y := (if_neg (by decide)).trans (if_pos rfl)
theorem opv_22 {x y : Int} : opv 22 x y = x * y := (if_neg (by decide)).trans ((if_neg (by decide)).trans (if_pos rfl))
theorem opv_23 {x y : Int} : opv 23 x y = Int.tdiv x y := (if_neg (by decide)).trans ((if_neg (by decide)).trans ((if_neg (by decide)).trans (if_pos rfl)))
theorem opv_24 {x y : Int} : opv 24 x y = if x < y then 1 else 0 := (if_neg (by decide)).trans ((if_neg (by decide)).trans ((if_neg (by decide)).trans ((if_neg (by decide)).trans (if_pos rfl))))
theorem opv_25 {x y : Int} : opv 25 x y = if y < x then 1 else 0 := (if_neg (by decide)).trans ((if_neg (by decide)).trans ((if_neg (by decide)).trans ((if_neg (by decide)).trans ((if_neg (by decide)).trans (if_pos rfl)))))
theorem opv_26 {x y : Int} : opv 26 x y = if x = y then 1 else 0 := (if_neg (by decide)).trans ((if_neg (by decide)).trans ((if_neg (by decide)).trans ((if_neg (by decide)).trans ((if_neg (by decide)).trans (if_neg (by decide))))))
theorem ladd_b {x y v : Int64} (h : v = x + y) (h1 : -2147483648 ≤ x.toInt) (h2 : x.toInt ≤ 2147483648) (h3 : -2147483648 ≤ y.toInt) (h4 : y.toInt ≤ 2147483648) : v.toInt = x.toInt + y.toInt := by
  rw [h, Int64.toInt_add]
  exact Int.bmod_eq_of_le (by omega) (by omega)
theorem lsub_b {x y v : Int64} (h : v = x - y) (h1 : -2147483648 ≤ x.toInt) (h2 : x.toInt ≤ 2147483648) (h3 : -2147483648 ≤ y.toInt) (h4 : y.toInt ≤ 2147483648) : v.toInt = x.toInt - y.toInt := by
  rw [h, Int64.toInt_sub]
  exact Int.bmod_eq_of_le (by omega) (by omega)
def SMB (a : Int64) : Prop := -2147483648 ≤ a.toInt ∧ a.toInt ≤ 2147483648
/-- what joins two -/
def JNQ (g0 g' : List en_E) (k : Int) (a b r : Int64) : Prop := KSM g0 g' ∧ ((gI g0 185 3).toInt = 0 → SMB a → SMB b → 2 ≤ k → k ≤ 8 → JNP k a.toInt b.toInt r.toInt (gI g' 185 3).toInt)
section JNS
variable {k : Int} {a b r v : Int64} {br : Int}
theorem lnot_b {x y : Int64} (h : v = 1 - y) (e : y = x) (s : SMB x) : v.toInt = 1 - x.toInt := by
  subst e
  have z := lsub_b h (by decide) (by decide) s.1 s.2
  rw [show (1 : Int64).toInt = 1 from rfl] at z
  exact z
theorem JNP_in (hv : r.toInt = opv (k + 18) a.toInt b.toInt) (hz : ¬ (k = 5 ∧ b.toInt = 0)) (lo : -1000000000 ≤ r.toInt) (hi : r.toInt ≤ 1000000000) (e : br = 0) : JNP k a.toInt b.toInt r.toInt br := ⟨fun q => by
  rcases q with q | q | q
  · exact absurd ⟨by omega, q.2⟩ hz
  · exact absurd q (by omega)
  · exact absurd q (by omega), fun _ => ⟨e, hv⟩⟩
theorem JNP_out (hv : r.toInt = opv (k + 18) a.toInt b.toInt) (ho : r.toInt < -1000000000 ∨ 1000000000 < r.toInt) (e : br ≠ 0) : JNP k a.toInt b.toInt r.toInt br := ⟨fun _ => e, fun q => by
  refine absurd ?_ q
  rw [hv] at ho
  exact Or.inr ho⟩
theorem JNP_zero (hk : k = 5) (hb : b.toInt = 0) (e : br ≠ 0) : JNP k a.toInt b.toInt r.toInt br := ⟨fun _ => e, fun q => absurd (Or.inl ⟨by omega, hb⟩) q⟩
theorem JV_add (hk : k = 2) (h : v = a + b) (ha : SMB a) (hb : SMB b) : v.toInt = opv (k + 18) a.toInt b.toInt := by
  rw [show k + 18 = 20 by omega, opv_20]
  exact ladd_b h ha.1 ha.2 hb.1 hb.2
theorem JV_sub (hk : k = 3) (h : v = a - b) (ha : SMB a) (hb : SMB b) : v.toInt = opv (k + 18) a.toInt b.toInt := by
  rw [show k + 18 = 21 by omega, opv_21]
  exact lsub_b h ha.1 ha.2 hb.1 hb.2
theorem JV_mul (hk : k = 4) (h : v = a * b) (ha : SMB a) (hb : SMB b) : v.toInt = opv (k + 18) a.toInt b.toInt := by
  rw [show k + 18 = 22 by omega, opv_22]
  exact lmul_b h ha.1 ha.2 hb.1 hb.2
theorem JV_div (hk : k = 5) (h : v = a / b) (ha : SMB a) : v.toInt = opv (k + 18) a.toInt b.toInt := by
  rw [show k + 18 = 23 by omega, opv_23]
  exact ldiv_e h ha.1 ha.2
theorem JV_lt (hk : k = 6) (h : (a.toInt < b.toInt ∧ v.toInt = 1) ∨ (¬ a.toInt < b.toInt ∧ v.toInt = 0)) : v.toInt = opv (k + 18) a.toInt b.toInt := by
  rw [show k + 18 = 24 by omega, opv_24]
  rcases h with h | h
  · rw [if_pos h.1]; exact h.2
  · rw [if_neg h.1]; exact h.2
theorem JV_gt (hk : k = 7) (h : (b.toInt < a.toInt ∧ v.toInt = 1) ∨ (¬ b.toInt < a.toInt ∧ v.toInt = 0)) : v.toInt = opv (k + 18) a.toInt b.toInt := by
  rw [show k + 18 = 25 by omega, opv_25]
  rcases h with h | h
  · rw [if_pos h.1]; exact h.2
  · rw [if_neg h.1]; exact h.2
theorem JV_eq (hk : k = 8) (h : (a.toInt = b.toInt ∧ v.toInt = 1) ∨ (¬ a.toInt = b.toInt ∧ v.toInt = 0)) : v.toInt = opv (k + 18) a.toInt b.toInt := by
  rw [show k + 18 = 26 by omega, opv_26]
  rcases h with h | h
  · rw [if_pos h.1]; exact h.2
  · rw [if_neg h.1]; exact h.2
end JNS
/-- the words as they stand -/
def WRX (g : List en_E) : Int → Int := fun i => if 1 ≤ i ∧ i ≤ 9 then (eK g 186 (i - 1)).toInt else 0
def FQX (g : List en_E) (q : Nat) : EVF := exX (WRX g) (fun i => (eA g (q + 1) i).toInt) (fun i => (eA g (q + 2) i).toInt)
def OQX (g : List en_E) (q : Nat) : Int → Int := fun i => kop (eA g (q + 1) i).toInt (eA g (q + 2) i).toInt
/-- the codes are those there are -/
def KOK (K V : Int → Int) (a b : Int) : Prop := ∀ i : Int, a ≤ i → i < b → (0 ≤ K i ∧ K i ≤ 11) ∧ (K i = 1 → 0 ≤ V i ∧ V i ≤ 8)
def LKX (g : List en_E) (q : Nat) (a b : Int) : Prop := LKR (FQX g q) (OQX g q) a b ∧ 0 ≤ a ∧ b ≤ 400 ∧ a ≤ b ∧ KOK (fun i => (eA g (q + 1) i).toInt) (fun i => (eA g (q + 2) i).toInt) a b ∧ ∀ i : Int, 0 ≤ i → i ≤ 8 → SMB (eK g 186 i)
/-- so many steps are done, or it is BROKEN -/
def WQX (g0 g : List en_E) (q : Nat) (a b at_ top n : Int) : Prop := gK g 186 = gK g0 186 ∧ (LKX g0 q a b → ((gI g 185 3).toInt = 0 ∧ WKI (FQX g0 q) a b (fK g 187) at_ top n) ∨ ((gI g 185 3).toInt ≠ 0 ∧ evV (FQX g0 q) b 401 (a, []) = none))
def WRS (g0 g : List en_E) (q : Nat) (a b r : Int) : Prop := gK g 186 = gK g0 186 ∧ (LKX g0 q a b → evV (FQX g0 q) b 401 (a, []) = if (gI g 185 3).toInt = 0 then some r else none)
section WQXS
variable {g0 g g' : List en_E} {q : Nat} {a b at_ top n at2 top2 n2 j kk vv : Int} {v : Int64}
theorem WQX_z (s : gK g 186 = gK g0 186) (hb : (gI g 185 3).toInt = 0) (h : 0 ≤ a → at_ = a) (ht : top = 0) (hn : n = 0) : WQX g0 g q a b at_ top n := ⟨s, fun L => Or.inl ⟨hb, WKI_z (h L.2.1) ht hn⟩⟩
theorem WQX_go (w : WQX g0 g q a b at_ top n) (hb : (gI g 185 3).toInt = 0) (L : LKX g0 q a b) : WKI (FQX g0 q) a b (fK g 187) at_ top n := (w.2 L).elim (fun z => z.2) (fun z => absurd hb z.1)
/-- a step that can't be -/
theorem WQX_no (w : WQX g0 g q a b at_ top n) (s : gK g' 186 = gK g 186) (hf : LKX g0 q a b → False) : WQX g0 g' q a b at2 top2 n2 := ⟨s.trans w.1, fun L => (hf L).elim⟩
theorem WQX_room (w : WQX g0 g q a b at_ top n) (hb : (gI g 185 3).toInt = 0) (h : b ≤ 400 → at_ < b) (ho : OQX g0 q at_ < 20) (hc : 63 < top) (L : LKX g0 q a b) : False := absurd (WK_room (WQX_go w hb L) L.1 (h L.2.2.1) ho) (by omega)
theorem WQX_two (w : WQX g0 g q a b at_ top n) (hb : (gI g 185 3).toInt = 0) (h : b ≤ 400 → at_ < b) (ho : 20 ≤ OQX g0 q at_ ∧ OQX g0 q at_ ≤ 26) (hc : top < 2) (L : LKX g0 q a b) : False := absurd (WK_two (WQX_go w hb L) L.1 (h L.2.2.1) ho) (by omega)
theorem WQX_one (w : WQX g0 g q a b at_ top n) (hb : (gI g 185 3).toInt = 0) (h : b ≤ 400 → at_ < b) (ho : 27 ≤ OQX g0 q at_) (hc : top < 1) (L : LKX g0 q a b) : False := absurd (WK_one (WQX_go w hb L) L.1 (h L.2.2.1) ho).1 (by omega)
theorem WQX_kk (w : WQX g0 g q a b at_ top n) (hb : (gI g 185 3).toInt = 0) (h : b ≤ 400 → at_ < b) (hK : (eA g0 (q + 1) at_).toInt = kk) (L : LKX g0 q a b) : 0 ≤ kk ∧ kk ≤ 11 := by
  rw [← hK]
  exact (L.2.2.2.2.1 at_ (WK_a (WQX_go w hb L) L.1 (h L.2.2.1)) (h L.2.2.1)).1
theorem WQX_vv (w : WQX g0 g q a b at_ top n) (hb : (gI g 185 3).toInt = 0) (h : b ≤ 400 → at_ < b) (hK : (eA g0 (q + 1) at_).toInt = kk) (hk : kk = 1) (hV : (eA g0 (q + 2) at_).toInt = vv) (L : LKX g0 q a b) : 0 ≤ vv ∧ vv ≤ 8 := by
  rw [← hV]
  exact (L.2.2.2.2.1 at_ (WK_a (WQX_go w hb L) L.1 (h L.2.2.1)) (h L.2.2.1)).2 (hK.trans hk)
theorem OQX_e (hK : (eA g0 (q + 1) at_).toInt = kk) (hV : (eA g0 (q + 2) at_).toInt = vv) : OQX g0 q at_ = kop kk vv := by
  show kop _ _ = _
  rw [hK, hV]
theorem kop_0 (h : kk = 0) : kop kk vv = 0 := if_pos h
theorem kop_1 (h : kk = 1) : kop kk vv = vv + 1 := (if_neg (show ¬ kk = 0 by omega)).trans (if_pos h)
/-- a number -/
theorem WQX_num (w : WQX g0 g q a b at_ top n) (hb : (gI g 185 3).toInt = 0) (h : b ≤ 400 → at_ < b) (hK : (eA g0 (q + 1) at_).toInt = kk) (hk : kk = 0) (hV : (eA g0 (q + 2) at_).toInt = vv) (u : KWR g g' 187 j v) (s : gK g' 186 = gK g 186) (hb' : (gI g' 185 3).toInt = 0) (hj : j = top) (hv : v.toInt = vv) (hl : -2147483648 ≤ vv ∧ vv ≤ 2147483648) (e1 : at2 = at_ + 1) (e2 : top2 = top + 1) (e3 : n2 = n + 1) : WQX g0 g' q a b at2 top2 n2 := ⟨s.trans w.1, fun L => Or.inl ⟨hb', WK_push (WQX_go w hb L) (h L.2.2.1) (fun S => by rw [← hV]; exact exX_num (hK.trans hk)) u hj hv hl e1 e2 e3⟩⟩
theorem exX_wrd {W K V : Int → Int} {p : Int} {S : List Int} (h : K p = 1) (h0 : V p < 19) (h1 : W (V p + 1) = vv) (hn : V p ≠ -1) : exX W K V (p, S) = some (p + 1, vv :: S) := by
  show exi W p (kop (K p) (V p)) (V p) S = _
  rw [show kop (K p) (V p) = V p + 1 from (if_neg (show ¬ K p = 0 from by omega)).trans (if_pos h), ← h1]
  exact (if_neg (show ¬ V p + 1 = 0 from by omega)).trans (if_pos (show V p + 1 < 20 from by omega))
/-- a word -/
theorem WQX_word (w : WQX g0 g q a b at_ top n) (hb : (gI g 185 3).toInt = 0) (h : b ≤ 400 → at_ < b) (hK : (eA g0 (q + 1) at_).toInt = kk) (hk : kk = 1) (hV : (eA g0 (q + 2) at_).toInt = vv) (hr : 0 ≤ vv ∧ vv ≤ 8) (u : KWR g g' 187 j v) (s : gK g' 186 = gK g 186) (hb' : (gI g' 185 3).toInt = 0) (hj : j = top) (hv : v = eK g 186 vv) (e1 : at2 = at_ + 1) (e2 : top2 = top + 1) (e3 : n2 = n + 1) : WQX g0 g' q a b at2 top2 n2 := ⟨s.trans w.1, fun L => Or.inl ⟨hb', WK_push (x := v.toInt) (WQX_go w hb L) (h L.2.2.1) (fun S => exX_wrd (hK.trans hk) (by rw [hV]; omega) (by
  rw [hV]
  show (if 1 ≤ vv + 1 ∧ vv + 1 ≤ 9 then (eK g0 186 (vv + 1 - 1)).toInt else 0) = v.toInt
  rw [if_pos (by omega), show vv + 1 - 1 = vv by omega, hv, eK_c w.1]) (by rw [hV]; omega)) u hj rfl (by rw [hv, eK_c w.1]; exact L.2.2.2.2.2 vv hr.1 hr.2) e1 e2 e3⟩⟩
theorem WQX_not (w : WQX g0 g q a b at_ top n) (hb : (gI g 185 3).toInt = 0) (h : b ≤ 400 → at_ < b) (hK : (eA g0 (q + 1) at_).toInt = kk) (hk : kk = 9) (u : KWR g g' 187 j v) (s : gK g' 186 = gK g 186) (hb' : (gI g' 185 3).toInt = 0) (hj : j = top - 1) (hv : ∀ x : Int64, x = eK g 187 (top - 1) → SMB x → v.toInt = 1 - x.toInt) (ht : 1 ≤ top) (e1 : at2 = at_ + 1) (e2 : top2 = top) (e3 : n2 = n + 1) : WQX g0 g' q a b at2 top2 n2 := ⟨s.trans w.1, fun L => Or.inl ⟨hb', WK_not (WQX_go w hb L) L.1 (h L.2.2.1) (show 27 ≤ kop _ _ from by rw [hK, kop.op (by omega)]; omega) (fun x R => exX_not (hK.trans hk)) u hj (hv _ rfl (WK_sm (WQX_go w hb L) (top - 1) (by omega) (by omega))) e1 e2 e3⟩⟩
theorem kop_jm (h : kk = 10 ∨ kk = 11) : 27 ≤ kop kk vv := by
  rw [kop.op (by omega)]
  omega
theorem WQX_jmp {x : Int64} (w : WQX g0 g q a b at_ top n) (hb : (gI g 185 3).toInt = 0) (h : b ≤ 400 → at_ < b) (hK : (eA g0 (q + 1) at_).toInt = kk) (hV : (eA g0 (q + 2) at_).toInt = vv) (hx : x = eK g 187 (top - 1)) (hc : (kk = 10 ∧ x.toInt = 0) ∨ (kk = 11 ∧ x.toInt ≠ 0)) (e1 : at_ < vv → at2 = vv) (e2 : top2 = top) (e3 : n2 = n + 1) : WQX g0 g q a b at2 top2 n2 := ⟨w.1, fun L => Or.inl ⟨hb, by
  have ho : 27 ≤ OQX g0 q at_ := show 27 ≤ kop _ _ from by rw [hK]; exact kop_jm (by omega)
  have o1 := WK_one (WQX_go w hb L) L.1 (h L.2.2.1) ho
  rw [← hx] at o1
  have hc' : (eK g 187 (top - 1)).toInt = if kk = 10 then 0 else 1 := by
    rw [← hx]
    by_cases c : kk = 10
    · rw [if_pos c]; omega
    · rw [if_neg c]; omega
  have z := WK_jmp (t := vv) (at2 := vv) (c := if kk = 10 then 0 else 1) (WQX_go w hb L) L.1 (h L.2.2.1) ho (fun x R => by
    have y := exX_jmp (W := WRX g0) (K := fun i => (eA g0 (q + 1) i).toInt) (V := fun i => (eA g0 (q + 2) i).toInt) (p := at_) (x := x) (R := R) (by rw [hK]; omega)
    rw [hK, hV] at y
    exact y) hc' rfl rfl e2 e3
  rw [e1 z.1]
  exact z.2⟩⟩
theorem WQX_pop {x : Int64} (w : WQX g0 g q a b at_ top n) (hb : (gI g 185 3).toInt = 0) (h : b ≤ 400 → at_ < b) (hK : (eA g0 (q + 1) at_).toInt = kk) (hx : x = eK g 187 (top - 1)) (hc : (kk = 10 ∧ x.toInt ≠ 0) ∨ (kk = 11 ∧ x.toInt = 0)) (e1 : at2 = at_ + 1) (e2 : 1 ≤ top → top2 = top - 1) (e3 : n2 = n + 1) : WQX g0 g q a b at2 top2 n2 := ⟨w.1, fun L => Or.inl ⟨hb, by
  have ho : 27 ≤ OQX g0 q at_ := show 27 ≤ kop _ _ from by rw [hK]; exact kop_jm (by omega)
  have o1 := WK_one (WQX_go w hb L) L.1 (h L.2.2.1) ho
  have hc' : (eK g 187 (top - 1)).toInt ≠ if kk = 10 then 0 else 1 := by
    rw [← hx]
    by_cases c : kk = 10
    · rw [if_pos c]; omega
    · rw [if_neg c]; omega
  exact WK_pop (t := (eA g0 (q + 2) at_).toInt) (c := if kk = 10 then 0 else 1) (WQX_go w hb L) L.1 (h L.2.2.1) ho (fun x R => by
    have y := exX_jmp (W := WRX g0) (K := fun i => (eA g0 (q + 1) i).toInt) (V := fun i => (eA g0 (q + 2) i).toInt) (p := at_) (x := x) (R := R) (by rw [hK]; omega)
    rw [hK] at y
    exact y) hc' rfl e1 (e2 o1.1) e3⟩⟩
theorem kop_bin (h : 2 ≤ kk ∧ kk ≤ 8) : 20 ≤ kop kk vv ∧ kop kk vv ≤ 26 := by
  rw [kop.op h.1]
  omega
theorem WQX_bin {g1 : List en_E} {x y : Int64} (w : WQX g0 g q a b at_ top n) (hb : (gI g 185 3).toInt = 0) (h : b ≤ 400 → at_ < b) (hK : (eA g0 (q + 1) at_).toInt = kk) (hk' : 0 ≤ kk ∧ kk ≤ 11 → 2 ≤ kk ∧ kk ≤ 8) (ht : 2 ≤ top) (hx : x = eK g 187 (top - 2)) (hy : y = eK g 187 (top - 1)) (hJ : JNQ g g1 kk x y v) (u : KWR g1 g' 187 j v) (s : gK g' 186 = gK g1 186) (hb' : gI g' 185 3 = gI g1 185 3) (hj : j = top - 2) (e1 : at2 = at_ + 1) (e2 : top2 = top - 1) (e3 : n2 = n + 1) : WQX g0 g' q a b at2 top2 n2 := ⟨(s.trans (hJ.1 186)).trans w.1, fun L => by
  have w' := WQX_go w hb L
  have hk := hk' (WQX_kk w hb h hK L)
  have J := hJ.2 hb (by rw [hx]; exact WK_sm w' _ (by omega) (by omega)) (by rw [hy]; exact WK_sm w' _ (by omega) (by omega)) hk.1 hk.2
  rw [hx, hy] at J
  have ho : 20 ≤ OQX g0 q at_ ∧ OQX g0 q at_ ≤ 26 := by
    show 20 ≤ kop _ _ ∧ kop _ _ ≤ 26
    rw [hK]
    exact kop_bin hk
  have hF : ∀ x y R, FQX g0 q (at_, y :: x :: R) = if opb (kk + 18) x y then none else some (at_ + 1, opv (kk + 18) x y :: R) := fun x y R => by
    have z := exX_bin (W := WRX g0) (K := fun i => (eA g0 (q + 1) i).toInt) (V := fun i => (eA g0 (q + 2) i).toInt) (p := at_) (x := x) (y := y) (R := R) (by rw [hK]; exact hk)
    rw [hK] at z
    exact z
  by_cases c : opb (kk + 18) (eK g 187 (top - 2)).toInt (eK g 187 (top - 1)).toInt
  · exact Or.inr ⟨by rw [hb']; exact J.1 c, WK_brk w' L.1 (h L.2.2.1) ho hF c (by have l1 := L.2.1; have l2 := L.2.2.1; omega)⟩
  · exact Or.inl ⟨by rw [hb']; exact (J.2 c).1, WK_bin w' L.1 (h L.2.2.1) ho hF c (KWR_l (hJ.1 187) u) hj (J.2 c).2 e1 e2 e3⟩⟩
theorem WQX_d0 (w : WQX g0 g q a b at_ top n) (hb : (gI g 185 3).toInt = 0) (h : b ≤ 400 → at_ < b) (hK : (eA g0 (q + 1) at_).toInt = kk) (hV : (eA g0 (q + 2) at_).toInt = vv) (hk : kk = 0 ∨ kk = 1) (hc : 63 < top) (L : LKX g0 q a b) : False := by
  refine WQX_room w hb h ?_ hc L
  rw [OQX_e hK hV]
  rcases hk with e | e
  · rw [kop_0 e]; decide
  · have z := WQX_vv w hb h hK e hV L
    rw [kop_1 e]; omega
theorem WQX_d9 (w : WQX g0 g q a b at_ top n) (hb : (gI g 185 3).toInt = 0) (h : b ≤ 400 → at_ < b) (hK : (eA g0 (q + 1) at_).toInt = kk) (hV : (eA g0 (q + 2) at_).toInt = vv) (hk : 9 ≤ kk) (hc : top < 1) (L : LKX g0 q a b) : False := by
  refine WQX_one w hb h ?_ hc L
  rw [OQX_e hK hV, kop.op (by omega)]
  omega
theorem WQX_d2 (w : WQX g0 g q a b at_ top n) (hb : (gI g 185 3).toInt = 0) (h : b ≤ 400 → at_ < b) (hK : (eA g0 (q + 1) at_).toInt = kk) (hV : (eA g0 (q + 2) at_).toInt = vv) (hk : 0 ≤ kk ∧ kk ≤ 11 → 2 ≤ kk ∧ kk ≤ 8) (hc : top < 2) (L : LKX g0 q a b) : False := by
  refine WQX_two w hb h ?_ hc L
  rw [OQX_e hK hV]
  exact kop_bin (hk (WQX_kk w hb h hK L))
/-- what comes out -/
theorem WQX_out {r : Int64} (w : WQX g0 g q a b at_ top n) (hx : 400 ≤ n ∨ (b ≤ 400 → b ≤ at_) ∨ (gI g 185 3).toInt ≠ 0) (hr : r = eK g 187 0) : WRS g0 g q a b r.toInt := ⟨w.1, fun L => by
  have l1 := L.2.1
  have l2 := L.2.2.1
  rcases w.2 L with z | z
  · rw [if_pos z.1, hr]
    refine WK_end z.2 L.1 ?_ (by omega)
    rcases hx with hx | hx | hx
    · by_cases c : at_ < b
      · exact absurd (WK_n z.2 L.1 c) (by omega)
      · omega
    · exact hx l2
    · exact absurd z.1 hx
  · rw [if_neg z.1]
    exact z.2⟩
end WQXS
/-- a value's worth has the codes there are -/
theorem cor.kok {K V O A : Int → Int} : ∀ (f : Nat) {y a b a' b' : Int}, cor K V O A f y a b a' b' → KOK K V a b
  | 0, y, a, b, a', b', h => False.elim h
  | f + 1, y, a, b, a', b', h => by
    intro m m0 m1
    rcases h with ⟨h0, h1, h2, h3⟩ | ⟨i, i', ⟨x, j, j', h1, h2, h3, h4, h5, h6⟩ | ⟨h0, h1, ⟨h2, h3, h4, h5⟩ | ⟨h2, h3, h4, h5⟩ | ⟨h2, h3, h4, h5⟩⟩⟩
    · obtain rfl : m = a := by omega
      rcases h3 with e | e
      · exact ⟨by omega, fun z => absurd z (by omega)⟩
      · exact ⟨by omega, fun _ => ⟨e.2.1, e.2.2.1⟩⟩
    · have z := cor.le f h1
      have w := cor.le f h2
      by_cases c : m < i
      · exact cor.kok f h1 m m0 c
      · by_cases c2 : m < j
        · exact cor.kok f h2 m (by omega) c2
        · obtain rfl : m = j := by omega
          have h5' : 2 ≤ K m ∧ K m ≤ 8 := by
            rcases h5 with e | e <;> omega
          exact ⟨by omega, fun z => absurd z (by omega)⟩
    · have z := cor.le f h1
      by_cases c : m < i
      · exact cor.kok f h1 m m0 c
      · obtain rfl : m = i := by omega
        exact ⟨by omega, fun z => absurd z (by omega)⟩
    · have z := cor.le f h1
      exact cor.kok f h1 m m0 (by omega)
    · have z := cor.le f h1
      have w := cor.le f h2
      by_cases c : m < i
      · exact cor.kok f h1 m m0 c
      · by_cases c2 : m = i
        · obtain rfl : m = i := c2
          have h3' : K m = 10 ∨ K m = 11 := by
            rcases h3 with e | e
            · exact Or.inl e.1
            · exact Or.inr e.1
          exact ⟨by omega, fun z => absurd z (by omega)⟩
        · exact cor.kok f h2 m (by omega) m1
