/-! ===== images of the reference ===== -/
theorem sW_id {g : List en_E} {p t n : Nat} (h : Sh g) (k : kA p t n) : sW g p (gA g p) = g := by
  have h1 := (h.arr k).1
  unfold sW
  rw [h1]
  exact (en_sg h1).symm
theorem sW_sW {g : List en_E} {p t n : Nat} (h : Sh g) (k : kA p t n) (xs ys : List Int32) : sW (sW g p xs) p ys = sW g p ys := by
  have h1 := (h.arr k).1
  have hp := (List.getElem?_eq_some_iff.mp h1).1
  unfold sW
  rw [h1]
  dsimp only
  rw [List.getElem?_set, if_pos rfl, if_pos hp]
  dsimp only
  rw [List.set_set]
theorem rd_s {ys : List Int32} {j : Int} {v : Int32} (h0 : 0 ≤ j ∧ j < ys.length) (i : Int) (hi : 0 ≤ i) : rd (ys.set j.toNat v) i = if i = j then v else rd ys i := by
  unfold rd
  rw [List.getD_eq_getElem?_getD, List.getElem?_set]
  by_cases e : i = j
  · subst e
    rw [if_pos rfl, if_pos rfl, if_pos (by omega)]
    rfl
  · rw [if_neg (by omega), if_neg e, ← List.getD_eq_getElem?_getD]
section IMG
variable {d N : Nat} {g : List en_E} {k : Int32} {Ph : Option Value → en_H → Prop}
theorem zi_loop (hI : HI g) (hk : 0 ≤ k.toInt ∧ k.toInt ≤ 1) {l : en_L} (e0 : en_get 0 l = some (.ref 231)) (e1 : en_get 1 l = some (.int k)) (e2 : en_get 2 l = some (.int 0)) (K : ∀ (ys : List Int32) (l' : en_L), ys.length = 11020 → (∀ j : Int, 0 ≤ j → j < 5510 → rd ys (5510 * k.toInt + j) = rd (gA g 233) j) → (∀ j : Int, 0 ≤ j → (j < 5510 * k.toInt ∨ 5510 * k.toInt + 5510 ≤ j) → rd ys j = rd (gA g 234) j) → en_get 0 l' = some (.ref 231) → en_get 1 l' = some (.int k) → At d none (some .int) bs_X11_image (54, l', [], (sW g 234 ys, N)) Ph) : At d none (some .int) bs_X11_image (23, l, [], (g, N)) Ph := by
  refine At.hp (sW_id hI.1 ka_234).symm ?_
  have z : (5510 : Int32).toInt = 5510 := rfl
  refine w_loopI (fun n l' g' => ∃ (x : Int32) (ys : List Int32), n = 5510 - x.toInt ∧ g' = sW g 234 ys ∧ ys.length = 11020 ∧ (0 ≤ x.toInt ∧ x.toInt ≤ 5510) ∧ (∀ j : Int, 0 ≤ j → j < x.toInt → rd ys (5510 * k.toInt + j) = rd (gA g 233) j) ∧ (∀ j : Int, 0 ≤ j → (j < 5510 * k.toInt ∨ 5510 * k.toInt + 5510 ≤ j) → rd ys j = rd (gA g 234) j) ∧ en_get 0 l' = some (.ref 231) ∧ en_get 1 l' = some (.int k) ∧ en_get 2 l' = some (.int x)) ?_ 5510 ⟨0, gA g 234, rfl, rfl, (hI.1.arr ka_234).2, by decide, fun j h0 h1 => absurd h1 (by have : (0 : Int32).toInt = 0 := rfl; omega), fun j _ _ => rfl, e0, e1, e2⟩
  rintro n l' g' ⟨x, ys, hn, rfl, hl, hx, hc, hf, g0, g1, g2⟩ ih
  have hS := hI.1.wW ka_234 hl
  refine At.enter rfl ?_
  refine r_iload_n g2 ?_
  refine r_sipush 5510 rfl ?_
  refine r_ics 30 rfl (fun c => ?_) (fun c => ?_)
  · have c_ := en_i_ge_t c
    exact K ys l' hl (fun j a b => hc j a (by omega)) hf g0 g1
  · have c_ := en_i_ge_f c
    refine At.enter rfl ?_
    refine r_aload_n g0 ?_
    refine q_getR (Sh.ref hS kx_231 rfl) ?_
    refine r_sipush 5510 rfl ?_
    refine r_iload_n g1 ?_
    refine q_imul (5510 * k.toInt) rfl (by omega) (fun v1 h1 => ?_)
    refine r_iload_n g2 ?_
    refine q_iadd (v1.toInt + x.toInt) rfl (by omega) (fun v2 h2 => ?_)
    refine r_aload_n g0 ?_
    refine q_getR (Sh.ref hS kx_231 rfl) ?_
    refine r_iload_n g2 ?_
    refine q_iald (Sh.arr hS ka_233) x.toInt rfl (by omega) (eA g 233 x.toInt) (eA_c (gA_sW_ne (by decide))) ?_
    refine q_iast (Sh.arr hS ka_234) (5510 * k.toInt + x.toInt) (by omega) (by omega) ?_
    refine q_iinc g2 (x.toInt + 1) rfl (by omega) (fun v3 h3 => ?_)
    refine r_goto ?_
    refine At.hp (G := sW g 234 (ys.set (5510 * k.toInt + x.toInt).toNat (eA g 233 x.toInt))) (by unfold sA; rw [gA_sW_eq hI.1 ka_234, sW_sW hI.1 ka_234]) ?_
    refine ih (5510 - v3.toInt) _ _ ⟨v3, _, rfl, rfl, by rw [List.length_set]; exact hl, by omega, fun j a b => ?_, fun j a b => ?_, w_p1 (by decide) (Or.inr rfl) g0, w_p1 (by decide) (Or.inr rfl) g1, w_e1 _ _ _⟩ ⟨by omega, by omega⟩
    · rw [rd_s (by omega) _ (by omega)]
      split
      · rw [show j = x.toInt by omega]; rfl
      · exact hc j a (by omega)
    · rw [rd_s (by omega) _ a, if_neg (by omega)]
      exact hf j a b
theorem zb_loop (hI : HI g) (hk : 0 ≤ k.toInt ∧ k.toInt ≤ 1) {l : en_L} (e0 : en_get 0 l = some (.ref 231)) (e1 : en_get 1 l = some (.int k)) (e2 : en_get 2 l = some (.int 0)) (K : ∀ (ys : List Int32) (l' : en_L), ys.length = 5510 → (∀ j : Int, 0 ≤ j → j < 5510 → rd ys j = rd (gA g 234) (5510 * k.toInt + j)) → en_get 0 l' = some (.ref 231) → en_get 1 l' = some (.int k) → At d none (some .int) bs_X11_back (70, l', [], (sW g 233 ys, N)) Ph) : At d none (some .int) bs_X11_back (39, l, [], (g, N)) Ph := by
  refine At.hp (sW_id hI.1 ka_233).symm ?_
  have z : (5510 : Int32).toInt = 5510 := rfl
  refine w_loopI (fun n l' g' => ∃ (x : Int32) (ys : List Int32), n = 5510 - x.toInt ∧ g' = sW g 233 ys ∧ ys.length = 5510 ∧ (0 ≤ x.toInt ∧ x.toInt ≤ 5510) ∧ (∀ j : Int, 0 ≤ j → j < x.toInt → rd ys j = rd (gA g 234) (5510 * k.toInt + j)) ∧ en_get 0 l' = some (.ref 231) ∧ en_get 1 l' = some (.int k) ∧ en_get 2 l' = some (.int x)) ?_ 5510 ⟨0, gA g 233, rfl, rfl, (hI.1.arr ka_233).2, by decide, fun j h0 h1 => absurd h1 (by have : (0 : Int32).toInt = 0 := rfl; omega), e0, e1, e2⟩
  rintro n l' g' ⟨x, ys, hn, rfl, hl, hx, hc, g0, g1, g2⟩ ih
  have hS := hI.1.wW ka_233 hl
  refine At.enter rfl ?_
  refine r_iload_n g2 ?_
  refine r_sipush 5510 rfl ?_
  refine r_ics 46 rfl (fun c => ?_) (fun c => ?_)
  · have c_ := en_i_ge_t c
    exact K ys l' hl (fun j a b => hc j a (by omega)) g0 g1
  · have c_ := en_i_ge_f c
    refine At.enter rfl ?_
    refine r_aload_n g0 ?_
    refine q_getR (Sh.ref hS kx_231 rfl) ?_
    refine r_iload_n g2 ?_
    refine r_aload_n g0 ?_
    refine q_getR (Sh.ref hS kx_231 rfl) ?_
    refine r_sipush 5510 rfl ?_
    refine r_iload_n g1 ?_
    refine q_imul (5510 * k.toInt) rfl (by omega) (fun v1 h1 => ?_)
    refine r_iload_n g2 ?_
    refine q_iadd (v1.toInt + x.toInt) rfl (by omega) (fun v2 h2 => ?_)
    refine q_iald (Sh.arr hS ka_234) (5510 * k.toInt + x.toInt) (by omega) (by omega) (eA g 234 (5510 * k.toInt + x.toInt)) (eA_c (gA_sW_ne (by decide))) ?_
    refine q_iast (Sh.arr hS ka_233) x.toInt rfl (by omega) ?_
    refine q_iinc g2 (x.toInt + 1) rfl (by omega) (fun v3 h3 => ?_)
    refine r_goto ?_
    refine At.hp (G := sW g 233 (ys.set (x.toInt).toNat (eA g 234 (5510 * k.toInt + x.toInt)))) (by unfold sA; rw [gA_sW_eq hI.1 ka_233, sW_sW hI.1 ka_233]) ?_
    refine ih (5510 - v3.toInt) _ _ ⟨v3, _, rfl, rfl, by rw [List.length_set]; exact hl, by omega, fun j a b => ?_, w_p1 (by decide) (Or.inr rfl) g0, w_p1 (by decide) (Or.inr rfl) g1, w_e1 _ _ _⟩ ⟨by omega, by omega⟩
    rw [rd_s (by omega) _ (by omega)]
    split
    · rw [show j = x.toInt by omega]; rfl
    · exact hc j a (by omega)
theorem HI.img (h : HI g) {k : Int} (hk : 0 ≤ k ∧ k ≤ 1) {ys : List Int32} (hl : ys.length = 11020) (hc : ∀ j : Int, 0 ≤ j → j < 5510 → rd ys (5510 * k + j) = rd (gA g 233) j) (hf : ∀ j : Int, 0 ≤ j → (j < 5510 * k ∨ 5510 * k + 5510 ≤ j) → rd ys j = rd (gA g 234) j) : HI (sW g 234 ys) ∧ WfRow (fun j => (eA (sW g 234 ys) 234 (5510 * k + j)).toInt) := by
  have w1 : WfRow (fun j => (rd ys (5510 * k + j)).toInt) := h.2.2.2.1.cp (fun i i0 i1 => by rw [hc i i0 i1])
  refine ⟨⟨h.1.wW ka_234 hl, h.2.1.c (fun q c => gI_sW) (fun q => gK_sW), fun q r hq => ?_, ?_⟩, ?_⟩
  · rw [gA_sW_ne (fun e => by rw [← e, show rgA 234 = none from rfl] at hq; cases hq)]
    exact h.2.2.1 q r hq
  · rw [gA_sW_ne (q := 233) (by decide), gA_sW_ne (q := 235) (by decide), gA_sW_eq h.1 ka_234]
    refine ⟨h.2.2.2.1, fun i i0 i1 hz => ?_⟩
    by_cases e : i = k
    · rw [e]; exact w1
    · exact (h.2.2.2.2 i i0 i1 hz).cp (fun j j0 j1 => by rw [hf (5510 * i + j) (by omega) (by omega)])
  · unfold eA
    rw [gA_sW_eq h.1 ka_234]
    exact w1
theorem HI.kept (h : HI g) {k : Int} (hk : 0 ≤ k ∧ k ≤ 1) {v : Int32} (hw : WfRow (fun j => (eA g 234 (5510 * k + j)).toInt)) : HI (sA g 235 k v) := by
  refine ⟨h.1.wA ka_235 k v, h.2.1.c (fun q c => gI_sW) (fun q => gK_sW), fun q r hq => ?_, ?_⟩
  · rw [gA_sA_ne (fun e => by rw [← e, show rgA 235 = none from rfl] at hq; cases hq)]
    exact h.2.2.1 q r hq
  · rw [gA_sA_ne (q := 233) (by decide), gA_sA_ne (q := 234) (by decide), show gA (sA g 235 k v) 235 = (gA g 235).set k.toNat v from gA_sW_eq h.1 ka_235 _]
    refine ⟨h.2.2.2.1, fun i i0 i1 hz => ?_⟩
    by_cases e : i = k
    · rw [e]; exact hw
    · rw [rd_s (by rw [(h.1.arr ka_235).2]; omega) i i0, if_neg e] at hz
      exact h.2.2.2.2 i i0 i1 hz
theorem HI.back (h : HI g) {k : Int} (hk : 0 ≤ k ∧ k ≤ 1) (hz : (eA g 235 k).toInt ≠ 0) {ys : List Int32} (hl : ys.length = 5510) (hc : ∀ j : Int, 0 ≤ j → j < 5510 → rd ys j = rd (gA g 234) (5510 * k + j)) : HI (sW g 233 ys) := by
  refine ⟨h.1.wW ka_233 hl, h.2.1.c (fun q c => gI_sW) (fun q => gK_sW), fun q r hq => ?_, ?_⟩
  · rw [gA_sW_ne (fun e => by rw [← e, show rgA 233 = none from rfl] at hq; cases hq)]
    exact h.2.2.1 q r hq
  · rw [gA_sW_ne (q := 234) (by decide), gA_sW_ne (q := 235) (by decide), gA_sW_eq h.1 ka_233]
    exact ⟨(h.2.2.2.2 k hk.1 hk.2 hz).cp (fun j j0 j1 => by rw [hc j j0 j1]), h.2.2.2.2⟩
theorem zi_loopG (hI : HI g) (hk : 0 ≤ k.toInt ∧ k.toInt ≤ 1) {l : en_L} (e0 : en_get 0 l = some (.ref 231)) (e1 : en_get 1 l = some (.int k)) (e2 : en_get 2 l = some (.int 0)) (K : ∀ (G : List en_E) (l' : en_L), HI G → WfRow (fun j => (eA G 234 (5510 * k.toInt + j)).toInt) → Fr [] [234] g G → (∀ j : Int, 0 ≤ j → j < 5510 → eA G 234 (5510 * k.toInt + j) = eA g 233 j) → (∀ j : Int, 0 ≤ j → (j < 5510 * k.toInt ∨ 5510 * k.toInt + 5510 ≤ j) → eA G 234 j = eA g 234 j) → en_get 0 l' = some (.ref 231) → en_get 1 l' = some (.int k) → At d none (some .int) bs_X11_image (54, l', [], (G, N)) Ph) : At d none (some .int) bs_X11_image (23, l, [], (g, N)) Ph := by
  refine zi_loop hI hk e0 e1 e2 (fun ys l' hl hc hf g0 g1 => ?_)
  obtain ⟨h1, h2⟩ := HI.img hI hk hl hc hf
  have ea : gA (sW g 234 ys) 234 = ys := gA_sW_eq hI.1 ka_234 ys
  refine K _ l' h1 h2 (Fr.wW (p := 234) (ys := ys) Fr.rf rfl) (fun j a b => ?_) (fun j a b => ?_) g0 g1
  · unfold eA; rw [ea]; exact hc j a b
  · unfold eA; rw [ea]; exact hf j a b
theorem zb_loopG (hI : HI g) (hk : 0 ≤ k.toInt ∧ k.toInt ≤ 1) (hz : (eA g 235 k.toInt).toInt ≠ 0) {l : en_L} (e0 : en_get 0 l = some (.ref 231)) (e1 : en_get 1 l = some (.int k)) (e2 : en_get 2 l = some (.int 0)) (K : ∀ (G : List en_E) (l' : en_L), HI G → Fr [] [233] g G → (∀ j : Int, 0 ≤ j → j < 5510 → eA G 233 j = eA g 234 (5510 * k.toInt + j)) → en_get 0 l' = some (.ref 231) → en_get 1 l' = some (.int k) → At d none (some .int) bs_X11_back (70, l', [], (G, N)) Ph) : At d none (some .int) bs_X11_back (39, l, [], (g, N)) Ph := by
  refine zb_loop hI hk e0 e1 e2 (fun ys l' hl hc g0 g1 => ?_)
  have ea : gA (sW g 233 ys) 233 = ys := gA_sW_eq hI.1 ka_233 ys
  refine K _ l' (HI.back hI hk hz hl hc) (Fr.wW (p := 233) (ys := ys) Fr.rf rfl) (fun j a b => ?_) g0 g1
  unfold eA; rw [ea]; exact hc j a b
end IMG
