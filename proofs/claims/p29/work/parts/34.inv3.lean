/-! ===== writes to the reference's row ===== -/
def w_up (f : Int → Int) (j v : Int) (i : Int) : Int := if i = j then v else f i
theorem WfCode.cp {op op' arg arg' : Int → Int} {a b : Int} (h : WfCode op arg a b) (h1 : ∀ i, 0 ≤ i → i < 400 → op i = op' i) (h2 : ∀ i, 0 ≤ i → i < 400 → arg i = arg' i) : WfCode op' arg' a b := by
  obtain ⟨c1, c2, c3, H, c4, c5, c6⟩ := h
  exact ⟨c1, c2, c3, H, c4, c5, fun i i0 i1 => by rw [← h1 i (by omega) (by omega), ← h2 i (by omega) (by omega)]; exact c6 i i0 i1⟩
theorem WfLaw.cp {f f' : Int → Int} (h : WfLaw f) (e : ∀ k, 0 ≤ k → k < 900 → f k = f' k) : WfLaw f' := by
  obtain ⟨h1, h2, h3⟩ := h
  have e1 := e 1 (by decide) (by decide)
  refine ⟨by rw [← e1]; exact h1, by rw [← e1]; exact h2, fun k k0 k1 => ?_⟩
  have h4 := h3 k k0 (by rw [e1]; exact k1)
  have k2 : k < 12 := by omega
  rw [← e (2 + 8 * k + 3) (by omega) (by omega), ← e (2 + 8 * k + 4) (by omega) (by omega), ← e (2 + 8 * k + 5) (by omega) (by omega), ← e (2 + 8 * k + 6) (by omega) (by omega)]
  exact ⟨h4.1.cp (fun i hi h2 => e _ (by omega) (by omega)) (fun i hi h2 => e _ (by omega) (by omega)), h4.2.cp (fun i hi h2 => e _ (by omega) (by omega)) (fun i hi h2 => e _ (by omega) (by omega))⟩
theorem WfRow.cp {f f' : Int → Int} (h : WfRow f) (e : ∀ k, 0 ≤ k → k < 5510 → f k = f' k) : WfRow f' := by
  obtain ⟨h1, h2, h3, h4, h5⟩ := h
  have e0 := e 0 (by decide) (by decide)
  have e1 := e 1 (by decide) (by decide)
  have e2 := e 2 (by decide) (by decide)
  refine ⟨?_, fun s s0 s1 => ?_, ⟨by rw [← e0, ← e1]; exact h3.1, fun l l0 l1 => ?_⟩, fun k k0 k1 => ?_, fun j j0 j1 => ?_⟩
  · unfold WfTop at h1 ⊢
    rw [← e0, ← e1, ← e2, ← e 3 (by decide) (by decide), ← e 4 (by decide) (by decide), ← e 5 (by decide) (by decide), ← e 6 (by decide) (by decide)]
    exact h1
  · rw [← e0, ← e (10 + 3 * s) (by omega) (by omega), ← e (10 + 3 * s + 1) (by omega) (by omega), ← e (10 + 3 * s + 2) (by omega) (by omega)]
    exact h2 s s0 s1
  · rw [← e0, ← e (46 + 6 * l) (by omega) (by omega), ← e (46 + 6 * l + 1) (by omega) (by omega), ← e (46 + 6 * l + 2) (by omega) (by omega), ← e (46 + 6 * l + 3) (by omega) (by omega), ← e (46 + 6 * l + 4) (by omega) (by omega), ← e (46 + 6 * l + 5) (by omega) (by omega)]
    exact h3.2 l l0 l1
  · rw [← e (94 + 2 * k) (by omega) (by omega), ← e (94 + 2 * k + 1) (by omega) (by omega)]
    exact h4 k k0 k1
  · have j2 : j < f 2 := by rw [e2]; exact j1
    have h6 := h1.2.2.1
    exact (h5 j j0 j2).cp (fun k k0 k1 => e _ (by omega) (by omega))
theorem WfRow.u {f : Int → Int} {j v : Int} (h : WfRow f) (hj : j < 110) (ht : WfTop (w_up f j v)) (hs : WfStand (w_up f j v)) (hl : WfLoad (w_up f j v)) (hg : WfSign (w_up f j v)) (h2 : w_up f j v 2 ≤ f 2) : WfRow (w_up f j v) :=
  ⟨ht, hs, hl, hg, fun k k0 k1 => (h.2.2.2.2 k k0 (by omega)).cp (fun i i0 _ => by unfold w_up; rw [if_neg (by omega)])⟩
theorem w_up_ne {f : Int → Int} {j v i : Int} (h : i ≠ j) : w_up f j v i = f i := if_neg h
theorem WfTop.u {f : Int → Int} {j v : Int} (h : WfTop f) (hj : 10 ≤ j) : WfTop (w_up f j v) := by
  unfold WfTop at *
  rw [w_up_ne (by omega), w_up_ne (by omega), w_up_ne (by omega), w_up_ne (by omega), w_up_ne (by omega), w_up_ne (by omega), w_up_ne (by omega)]
  exact h
theorem WfStand.u {f : Int → Int} {j v : Int} (h : WfStand f) (hj : 46 ≤ j ∨ (1 ≤ j ∧ j < 10)) : WfStand (w_up f j v) := fun s s0 s1 => by
  rw [w_up_ne (by omega), w_up_ne (by omega), w_up_ne (by omega), w_up_ne (by omega)]
  exact h s s0 s1
theorem WfLoad.u {f : Int → Int} {j v : Int} (h : WfLoad f) (hj : 94 ≤ j ∨ (2 ≤ j ∧ j < 46)) : WfLoad (w_up f j v) := by
  refine ⟨by rw [w_up_ne (by omega), w_up_ne (by omega)]; exact h.1, fun s s0 s1 => ?_⟩
  rw [w_up_ne (by omega), w_up_ne (by omega), w_up_ne (by omega), w_up_ne (by omega), w_up_ne (by omega), w_up_ne (by omega), w_up_ne (by omega)]
  exact h.2 s s0 s1
theorem WfSign.u {f : Int → Int} {j v : Int} (h : WfSign f) (hj : 110 ≤ j ∨ j < 94) : WfSign (w_up f j v) := fun s s0 s1 => by
  rw [w_up_ne (by omega), w_up_ne (by omega)]
  exact h s s0 s1
theorem WfRow.us {f : Int → Int} {j v : Int} (s : Int) (h : WfRow f) (h0 : 0 ≤ s ∧ s < 12) (k : Int) (hk : 0 ≤ k ∧ k ≤ 2) (hj : j = 10 + 3 * s + k) (hv : (k = 0 → -1 ≤ v ∧ v ≤ 11) ∧ (k = 1 → 1 ≤ v ∧ v ≤ 9) ∧ (k = 2 → 0 ≤ v ∧ v ≤ 99)) : WfRow (w_up f j v) := by
  refine h.u (by omega) (h.1.u (by omega)) (fun t t0 t1 => ?_) (h.2.2.1.u (by omega)) (h.2.2.2.1.u (by omega)) (by rw [w_up_ne (by omega)]; omega)
  have h1 := h.2.1 t t0 t1
  rw [w_up_ne (i := 0) (by omega)]
  unfold w_up
  refine ⟨?_, ?_, ?_, ?_⟩ <;> split <;> omega
theorem WfRow.ul {f : Int → Int} {j v : Int} (l : Int) (h : WfRow f) (h0 : 0 ≤ l ∧ l < 8) (k : Int) (hk : 0 ≤ k ∧ k ≤ 5) (hj : j = 46 + 6 * l + k) (hv : (k = 0 → 0 ≤ v ∧ v ≤ 9) ∧ ((k = 1 ∨ k = 2) → 0 ≤ v ∧ v ≤ 11 ∧ (v < f 0 ∨ v = 0)) ∧ (k = 3 → 0 ≤ v ∧ v ≤ 99) ∧ (k = 4 → 0 ≤ v ∧ v ≤ 9) ∧ (k = 5 → 0 ≤ v ∧ v ≤ 9999)) : WfRow (w_up f j v) := by
  refine h.u (by omega) (h.1.u (by omega)) (h.2.1.u (by omega)) ⟨by rw [w_up_ne (by omega), w_up_ne (by omega)]; exact h.2.2.1.1, fun t t0 t1 => ?_⟩ (h.2.2.2.1.u (by omega)) (by rw [w_up_ne (by omega)]; omega)
  have h1 := h.2.2.1.2 t t0 t1
  rw [w_up_ne (i := 0) (by omega)]
  unfold w_up
  refine ⟨?_, ?_, ?_, ?_, ?_, ?_⟩ <;> split <;> omega
theorem WfRow.ug {f : Int → Int} {j v : Int} (s : Int) (h : WfRow f) (h0 : 0 ≤ s ∧ s < 8) (k : Int) (hk : 0 ≤ k ∧ k ≤ 1) (hj : j = 94 + 2 * s + k) (hv : (k = 0 → 0 ≤ v ∧ v ≤ 11) ∧ (k = 1 → 0 ≤ v ∧ v ≤ 99)) : WfRow (w_up f j v) := by
  refine h.u (by omega) (h.1.u (by omega)) (h.2.1.u (by omega)) (h.2.2.1.u (by omega)) (fun t t0 t1 => ?_) (by rw [w_up_ne (by omega)]; omega)
  have h1 := h.2.2.2.1 t t0 t1
  unfold w_up
  refine ⟨?_, ?_⟩ <;> split <;> omega
theorem WfRow.ut {f : Int → Int} {j v : Int} (h : WfRow f) (hj : j = 1 ∨ j = 3 ∨ j = 4 ∨ j = 5 ∨ j = 6) (hv : (j = 1 → 0 ≤ v ∧ v ≤ 8 ∧ (0 < v → 0 < f 0)) ∧ (j = 3 → -1 ≤ v ∧ v < f 2) ∧ (j = 4 → 0 ≤ v ∧ v ≤ 8) ∧ (j = 5 → 0 ≤ v ∧ v ≤ 99) ∧ (j = 6 → 1 ≤ v ∧ v ≤ 4)) : WfRow (w_up f j v) := by
  have hl : WfLoad (w_up f j v) := by
    refine ⟨?_, fun s s0 s1 => ?_⟩
    · rw [w_up_ne (i := 0) (by omega)]
      have h1 := h.2.2.1.1
      unfold w_up
      split <;> omega
    · rw [w_up_ne (by omega), w_up_ne (by omega), w_up_ne (by omega), w_up_ne (by omega), w_up_ne (by omega), w_up_ne (by omega), w_up_ne (by omega)]
      exact h.2.2.1.2 s s0 s1
  refine h.u (by omega) ?_ (h.2.1.u (by omega)) hl (h.2.2.2.1.u (by omega)) (by rw [w_up_ne (by omega)]; omega)
  have h1 := h.1
  unfold WfTop at *
  rw [w_up_ne (i := 0) (by omega), w_up_ne (i := 2) (by omega)]
  unfold w_up
  refine ⟨?_, ?_, ?_, ?_, ?_, ?_, ?_⟩ <;> (try split) <;> omega
theorem WfRow.u0 {f : Int → Int} {v : Int} (h : WfRow f) (hv : v = f 0 + 1) (h12 : v ≤ 12) (hs : 1 ≤ f (10 + 3 * f 0 + 1)) : WfRow (w_up f 0 v) := by
  have t := h.1
  refine h.u (by omega) ?_ (fun s s0 s1 => ?_) ⟨?_, fun s s0 s1 => ?_⟩ (h.2.2.2.1.u (by omega)) (by rw [w_up_ne (by omega)]; omega)
  · unfold WfTop at *
    rw [w_up_ne (i := 1) (by omega), w_up_ne (i := 2) (by omega), w_up_ne (i := 3) (by omega), w_up_ne (i := 4) (by omega), w_up_ne (i := 5) (by omega), w_up_ne (i := 6) (by omega)]
    unfold w_up
    rw [if_pos rfl]
    omega
  · have h1 := h.2.1 s s0 s1
    rw [w_up_ne (i := 10 + 3 * s) (by omega), w_up_ne (i := 10 + 3 * s + 1) (by omega), w_up_ne (i := 10 + 3 * s + 2) (by omega)]
    refine ⟨h1.1, h1.2.1, h1.2.2.1, fun q => ?_⟩
    unfold w_up at q
    rw [if_pos rfl] at q
    by_cases e : s = f 0
    · rw [e]; exact hs
    · exact h1.2.2.2 (by omega)
  · unfold w_up
    rw [if_pos rfl]
    have := t.1.1
    omega
  · have h1 := h.2.2.1.2 s s0 s1
    have t0 := t.1.1
    rw [w_up_ne (i := 46 + 6 * s) (by omega), w_up_ne (i := 46 + 6 * s + 1) (by omega), w_up_ne (i := 46 + 6 * s + 2) (by omega), w_up_ne (i := 46 + 6 * s + 3) (by omega), w_up_ne (i := 46 + 6 * s + 4) (by omega), w_up_ne (i := 46 + 6 * s + 5) (by omega)]
    unfold w_up
    rw [if_pos rfl]
    omega
theorem rd_set {xs : List Int32} {j : Int} {v : Int32} (h0 : 0 ≤ j) (h1 : j < xs.length) (i : Int) (hi : 0 ≤ i) : (rd (xs.set j.toNat v) i).toInt = w_up (fun k => (rd xs k).toInt) j v.toInt i := by
  unfold w_up rd
  rw [List.getD_eq_getElem?_getD, List.getElem?_set]
  by_cases e : i = j
  · subst e
    rw [if_pos rfl, if_pos rfl, if_pos (by omega)]
    rfl
  · rw [if_neg (by omega), if_neg e, ← List.getD_eq_getElem?_getD]
section HW
variable {g : List en_E}
theorem HI.wR (h : HI g) {j : Int} {v : Int32} (h0 : 0 ≤ j ∧ j < 5510) (hw : WfRow (w_up (fun k => (eA g 233 k).toInt) j v.toInt)) : HI (sA g 233 j v) := by
  have k233 := ka_233
  have hl := (h.1.arr k233).2
  refine ⟨h.1.wA k233 j v, h.2.1.c (fun q c => gI_sW) (fun q => gK_sW), fun q r hq => ?_, ?_⟩
  · rw [gA_sA_ne (fun e => by rw [← e, show rgA 233 = none from rfl] at hq; cases hq)]
    exact h.2.2.1 q r hq
  · rw [gA_sA_ne (q := 234) (by decide), gA_sA_ne (q := 235) (by decide), show gA (sA g 233 j v) 233 = (gA g 233).set j.toNat v from gA_sW_eq h.1 k233 _]
    exact ⟨hw.cp (fun i i0 _ => (rd_set h0.1 (by omega) i i0).symm), h.2.2.2.2⟩
theorem HI.ws (h : HI g) {j : Int} {v : Int32} (s k : Int) (h0 : 0 ≤ s ∧ s < 12) (hk : 0 ≤ k ∧ k ≤ 2) (hj : j = 10 + 3 * s + k) (hv : (k = 0 → -1 ≤ v.toInt ∧ v.toInt ≤ 11) ∧ (k = 1 → 1 ≤ v.toInt ∧ v.toInt ≤ 9) ∧ (k = 2 → 0 ≤ v.toInt ∧ v.toInt ≤ 99)) : HI (sA g 233 j v) := h.wR (by omega) (h.row.us s h0 k hk hj hv)
theorem HI.wl (h : HI g) {j : Int} {v : Int32} (l k : Int) (h0 : 0 ≤ l ∧ l < 8) (hk : 0 ≤ k ∧ k ≤ 5) (hj : j = 46 + 6 * l + k) (hv : (k = 0 → 0 ≤ v.toInt ∧ v.toInt ≤ 9) ∧ ((k = 1 ∨ k = 2) → 0 ≤ v.toInt ∧ v.toInt ≤ 11 ∧ (v.toInt < (eA g 233 0).toInt ∨ v.toInt = 0)) ∧ (k = 3 → 0 ≤ v.toInt ∧ v.toInt ≤ 99) ∧ (k = 4 → 0 ≤ v.toInt ∧ v.toInt ≤ 9) ∧ (k = 5 → 0 ≤ v.toInt ∧ v.toInt ≤ 9999)) : HI (sA g 233 j v) := h.wR (by omega) (h.row.ul l h0 k hk hj hv)
theorem HI.wg (h : HI g) {j : Int} {v : Int32} (s k : Int) (h0 : 0 ≤ s ∧ s < 8) (hk : 0 ≤ k ∧ k ≤ 1) (hj : j = 94 + 2 * s + k) (hv : (k = 0 → 0 ≤ v.toInt ∧ v.toInt ≤ 11) ∧ (k = 1 → 0 ≤ v.toInt ∧ v.toInt ≤ 99)) : HI (sA g 233 j v) := h.wR (by omega) (h.row.ug s h0 k hk hj hv)
theorem HI.wt (h : HI g) {j : Int} {v : Int32} (hj : j = 1 ∨ j = 3 ∨ j = 4 ∨ j = 5 ∨ j = 6) (hv : (j = 1 → 0 ≤ v.toInt ∧ v.toInt ≤ 8 ∧ (0 < v.toInt → 0 < (eA g 233 0).toInt)) ∧ (j = 3 → -1 ≤ v.toInt ∧ v.toInt < (eA g 233 2).toInt) ∧ (j = 4 → 0 ≤ v.toInt ∧ v.toInt ≤ 8) ∧ (j = 5 → 0 ≤ v.toInt ∧ v.toInt ≤ 99) ∧ (j = 6 → 1 ≤ v.toInt ∧ v.toInt ≤ 4)) : HI (sA g 233 j v) := h.wR (by omega) (h.row.ut hj hv)
theorem HI.wt0 (h : HI g) {v : Int32} (hv : v.toInt = (eA g 233 0).toInt + 1) (h12 : v.toInt ≤ 12) {i : Int} (hi : i = 10 + 3 * (eA g 233 0).toInt + 1) (hs : 1 ≤ (eA g 233 i).toInt) : HI (sA g 233 0 v) := h.wR (by decide) (h.row.u0 hv h12 (by subst hi; exact hs))
theorem HI.wcp (h : HI g) {k i : Int} {v : Int32} (h0 : 46 ≤ k ∧ k < 88) (hi : i = k + 6) (hv : eA g 233 i = v) : HI (sA g 233 k v) := by
  subst hi hv
  have hk : k = 46 + 6 * ((k - 46) / 6) + (k - 46) % 6 := by omega
  have h1 := h.row.2.2.1.2 ((k - 46) / 6 + 1) (by omega) (by omega)
  refine h.wl ((k - 46) / 6) ((k - 46) % 6) (by omega) (by omega) hk ?_
  refine ⟨fun e => ?_, fun e => ?_, fun e => ?_, fun e => ?_, fun e => ?_⟩
  · rw [show k + 6 = 46 + 6 * ((k - 46) / 6 + 1) by omega]; exact h1.1
  · rcases e with e | e
    · rw [show k + 6 = 46 + 6 * ((k - 46) / 6 + 1) + 1 by omega]; exact h1.2.1
    · rw [show k + 6 = 46 + 6 * ((k - 46) / 6 + 1) + 2 by omega]; exact h1.2.2.1
  · rw [show k + 6 = 46 + 6 * ((k - 46) / 6 + 1) + 3 by omega]; exact h1.2.2.2.1
  · rw [show k + 6 = 46 + 6 * ((k - 46) / 6 + 1) + 4 by omega]; exact h1.2.2.2.2.1
  · rw [show k + 6 = 46 + 6 * ((k - 46) / 6 + 1) + 5 by omega]; exact h1.2.2.2.2.2
theorem HI.s12 (h : HI g) {j : Int} (s k : Int) (h0 : 0 ≤ s ∧ s < 12) (hk : 1 ≤ k ∧ k ≤ 2) (hj : j = 10 + 3 * s + k) : (k = 1 → 0 ≤ (eA g 233 j).toInt ∧ (eA g 233 j).toInt ≤ 9 ∧ (s < (eA g 233 0).toInt → 1 ≤ (eA g 233 j).toInt)) ∧ (k = 2 → 0 ≤ (eA g 233 j).toInt ∧ (eA g 233 j).toInt ≤ 99) := by
  subst hj
  have h1 := h.row.2.1 s h0.1 h0.2
  refine ⟨fun e => ?_, fun e => ?_⟩
  · subst e; exact ⟨h1.2.1.1, h1.2.1.2, h1.2.2.2⟩
  · subst e; exact h1.2.2.1
end HW
theorem HI.lt {g : List en_E} (h : HI g) : 0 < (eA g 233 1).toInt → 0 < (eA g 233 0).toInt := h.row.2.2.1.1
theorem HI.eqA {g : List en_E} (h : HI g) {p : Nat} {j : Int} {v : Int32} (e : eA g p j = v) : (eA g p j).toInt = v.toInt := congrArg Int32.toInt e
theorem HI.eqI {g : List en_E} (h : HI g) {p b : Nat} {v : Int32} (e : gI g p b = v) : (gI g p b).toInt = v.toInt := congrArg Int32.toInt e
