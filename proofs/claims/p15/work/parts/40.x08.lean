def F_X1_lineUp_188 : List (Nat × Nat) := [(185, 3), (188, 16)]
def A_X1_lineUp_188 : List Nat := [202]
theorem mf_X3_tells_185_188_16 : memF F_X3_tells_185 188 16 = false := by decide
set_option maxRecDepth 100000 in
set_option maxHeartbeats 4000000 in
theorem T_X1_lineUp_188 (d : Nat) {N : Nat} {g0 : List en_E} (hI0 : HI g0) (a1 : Int32) : Ev (d + 4) 29 [.ref 188, .int a1] (g0, N) (fun w h' => ∃ g', h' = (g', N) ∧ HI g' ∧ Fr F_X1_lineUp_188 A_X1_lineUp_188 g0 g' ∧ w = none) := by
  have hF0 : Fr F_X1_lineUp_188 A_X1_lineUp_188 g0 g0 := Fr.rf
  refine Ev.mk rfl rfl ⟨Nat.le_of_ble_eq_true rfl, Or.inr (q_rc hI0.1 kx_188 rfl)⟩ ?_
  show At _ none _ _ (0, [(0, .ref 188), (1, .int a1)], [], (_, _)) _
  refine At.enter rfl ?_
  refine r_aload_n rfl ?_
  refine q_getR (Sh.ref hI0.1 kx_188 rfl) ?_
  refine q_inlV 7 rfl [.ref 1] [] (Nat.le_of_ble_eq_true rfl) rfl ?_
  refine Ev.mk rfl rfl ⟨Nat.le_of_ble_eq_true rfl, Or.inr (q_rc hI0.1 kx_1 rfl)⟩ ?_
  show At _ none _ _ (0, [(0, .ref 1)], [], (_, _)) _
  refine At.enter rfl ?_
  refine r_aload_n rfl ?_
  refine r_aload_n rfl ?_
  obtain ⟨v9851, hv9851⟩ : ∃ v, gI g0 1 9 = v := ⟨_, rfl⟩
  refine q_getI (Sh.int hI0.1 kx_1 rfl) v9851 hv9851 ?_
  refine r_callV 8 rfl [.ref 1, .int v9851] [] (Nat.le_of_ble_eq_true rfl) rfl (T_X0_lawAt_1 _ hI0 v9851) ?_
  rintro _ _ ⟨g9852, rfl, hI9853, hF9854, v9855, rfl, hr9856⟩
  refine At.str ?_
  have hF9857 := Fr.tr hF0 hF9854 rfl rfl
  refine At.enter rfl ?_
  refine q_aret ?_
  refine At.enter rfl ?_
  refine r_iconst 0 rfl ?_
  refine r_callV 11 rfl [.ref (v9855), .int 0] [] (Nat.le_of_ble_eq_true rfl) rfl (T_X4_speaksOf_law _ hI9853 (v9855) hr9856 0) ?_
  rintro _ _ ⟨g9858, rfl, hI9859, hF9860, v9861, rfl, hr9862⟩
  refine At.sti ?_
  have hF9863 := Fr.tr hF9857 hF9860 rfl rfl
  refine At.enter rfl ?_
  refine r_istore_n ([(2, .int v9861), (0, .ref 188), (1, .int a1)]) rfl ?_
  refine r_aload_n rfl ?_
  refine r_iconst 0 rfl ?_
  refine q_putI (Sh.int hI9859.1 kx_188 rfl) rfl ?_
  have hI9864 := HI.wI1 hI9859 kx_188 rfl (p := 188) (b := 16) (v := 0) rfl (by decide)
  have hF9865 := Fr.wI (p := 188) (b := 16) (v := 0) hF9863 rfl
  refine r_iconst 0 rfl ?_
  refine r_istore_n ([(3, .int 0), (2, .int v9861), (0, .ref 188), (1, .int a1)]) rfl ?_
  refine Ar.fall 19 rfl ?_
  have z_14571 : (0 : Int32).toInt = 0 := rfl
  have z_14572 : (0 : Int32).toInt = 0 := rfl
  refine w_loopI (fun n_ l_ g_ => ∃ x14555 : Int32, ∃ x14556 : Int32, n_ = 8 - x14555.toInt ∧ HI g_ ∧ Fr F_X1_lineUp_188 A_X1_lineUp_188 g0 g_ ∧ gI g_ 188 16 = x14556 ∧ en_get 0 l_ = some (.ref 188) ∧ en_get 1 l_ = some (.int a1) ∧ en_get 2 l_ = some (.int v9861) ∧ en_get 3 l_ = some (.int x14555) ∧ (0 ≤ x14555.toInt ∧ x14555.toInt ≤ 8) ∧ (0 ≤ x14556.toInt ∧ x14556.toInt ≤ 8) ∧ (x14556.toInt ≤ x14555.toInt)) ?_ (8 - 0) ⟨0, 0, by first | rfl | omega, hI9864, hF9865, (gI_sI_eq hI9859.1 kx_188 rfl _), rfl, rfl, rfl, rfl, by decide, by decide, by omega⟩
  rintro n14561 l14560 g14557 ⟨x14555, x14556, hm14573, hI14558, hF14559, e14563, e14564, e14565, e14566, e14567, r14568, r14569, q14570⟩ ih14562
  refine At.enter rfl ?_
  refine r_iload_n e14567 ?_
  refine r_aload_n e14564 ?_
  refine q_getR (Sh.ref hI14558.1 kx_188 rfl) ?_
  obtain ⟨v14574, hv14574⟩ : ∃ v, gI g0 1 4 = v := ⟨_, rfl⟩
  have rv14574 := RgF.at hI0.2.1 (p := 1) (b := 4) rfl
  rw [hv14574] at rv14574
  dsimp only at rv14574
  refine q_getI (Sh.int hI14558.1 kx_1 rfl) v14574 ((hF14559.1 1 4 (by decide)).trans hv14574) ?_
  have bv14576 := q_bnd x14555
  have bv14577 := q_bnd v14574
  refine r_ics 30 rfl (fun c14575 => ?_) (fun c14575 => ?_)
  · have c14575_ : x14555.toInt ≥ v14574.toInt := en_i_ge_t c14575
    refine At.enter rfl ?_
    refine r_vret ?_
    exact ⟨_, rfl, hI14558, hF14559, rfl⟩
  · have c14575_ : x14555.toInt < v14574.toInt := en_i_ge_f c14575
    refine At.enter rfl ?_
    refine r_aload_n e14564 ?_
    refine q_getR (Sh.ref hI14558.1 kx_188 rfl) ?_
    refine r_iload_n e14567 ?_
    obtain ⟨v14578, hv14578⟩ : ∃ v, eA g0 195 x14555.toInt = v := ⟨_, rfl⟩
    refine q_iald (Sh.arr hI14558.1 ka_195) x14555.toInt rfl (by omega) v14578 ((eA_c (hF14559.2.1 195 (by decide))).trans hv14578) ?_
    refine r_istore _ rfl ?_
    refine r_aload_n (w_p1 (by decide) (Or.inr rfl) e14564) ?_
    refine q_getR (Sh.ref hI14558.1 kx_188 rfl) ?_
    refine r_iload (w_e1 _ _ _) ?_
    refine q_inlV 47 rfl [.ref 1, .int v14578] [] (Nat.le_of_ble_eq_true rfl) rfl ?_
    refine Ev.mk rfl rfl ⟨Nat.le_of_ble_eq_true rfl, Or.inr (q_rc hI14558.1 kx_1 rfl)⟩ ?_
    show At _ none _ _ (0, [(0, .ref 1), (1, .int v14578)], [], (_, _)) _
    refine At.enter rfl ?_
    refine r_iload_n rfl ?_
    refine r_ifs 4 rfl (fun c14579 => ?_) (fun c14579 => ?_)
    · have c14579_ : v14578.toInt < 0 := en_k_lt_t c14579
      refine At.enter rfl ?_
      refine r_iconst 0 rfl ?_
      refine Ar.fall 17 rfl ?_
      refine At.enter rfl ?_
      refine q_iretz (by decide) ?_
      refine At.enter rfl ?_
      refine r_iff 50 rfl (by decide) ?_
      refine At.enter rfl ?_
      refine r_goto ?_
      refine At.enter rfl ?_
      refine q_iinc (w_p1 (by decide) (Or.inr rfl) e14567) (x14555.toInt + 1) rfl (by omega) (fun v14580 hv14580 => ?_)
      refine r_goto ?_
      exact ih14562 (8 - v14580.toInt) _ _ ⟨v14580, x14556, by first | rfl | omega, hI14558, hF14559, e14563, (w_p1 (by decide) (Or.inr rfl) (w_p1 (by decide) (Or.inr rfl) e14564)), (w_p1 (by decide) (Or.inr rfl) (w_p1 (by decide) (Or.inr rfl) e14565)), (w_p1 (by decide) (Or.inr rfl) (w_p1 (by decide) (Or.inr rfl) e14566)), (w_e1 _ _ _), by omega, by omega, by omega⟩ ⟨by omega, by omega⟩
    · have c14579_ : v14578.toInt ≥ 0 := en_k_lt_f c14579
      refine At.enter rfl ?_
      refine r_iload_n rfl ?_
      refine r_aload_n rfl ?_
      obtain ⟨v14581, hv14581⟩ : ∃ v, gI g0 1 0 = v := ⟨_, rfl⟩
      have rv14581 := RgF.at hI0.2.1 (p := 1) (b := 0) rfl
      rw [hv14581] at rv14581
      dsimp only at rv14581
      refine q_getI (Sh.int hI14558.1 kx_1 rfl) v14581 ((hF14559.1 1 0 (by decide)).trans hv14581) ?_
      have bv14583 := q_bnd v14578
      have bv14584 := q_bnd v14581
      refine r_ics 12 rfl (fun c14582 => ?_) (fun c14582 => ?_)
      · have c14582_ : v14578.toInt ≥ v14581.toInt := en_i_ge_t c14582
        refine At.enter rfl ?_
        refine r_iconst 0 rfl ?_
        refine Ar.fall 17 rfl ?_
        refine At.enter rfl ?_
        refine q_iretz (by decide) ?_
        refine At.enter rfl ?_
        refine r_iff 50 rfl (by decide) ?_
        refine At.enter rfl ?_
        refine r_goto ?_
        refine At.enter rfl ?_
        refine q_iinc (w_p1 (by decide) (Or.inr rfl) e14567) (x14555.toInt + 1) rfl (by omega) (fun v14585 hv14585 => ?_)
        refine r_goto ?_
        exact ih14562 (8 - v14585.toInt) _ _ ⟨v14585, x14556, by first | rfl | omega, hI14558, hF14559, e14563, (w_p1 (by decide) (Or.inr rfl) (w_p1 (by decide) (Or.inr rfl) e14564)), (w_p1 (by decide) (Or.inr rfl) (w_p1 (by decide) (Or.inr rfl) e14565)), (w_p1 (by decide) (Or.inr rfl) (w_p1 (by decide) (Or.inr rfl) e14566)), (w_e1 _ _ _), by omega, by omega, by omega⟩ ⟨by omega, by omega⟩
      · have c14582_ : v14578.toInt < v14581.toInt := en_i_ge_f c14582
        refine At.enter rfl ?_
        refine r_iconst 1 rfl ?_
        refine r_goto ?_
        refine At.enter rfl ?_
        refine q_iretz (by decide) ?_
        refine At.enter rfl ?_
        refine r_ift (by decide) ?_
        refine At.enter rfl ?_
        refine r_aload_n (w_p1 (by decide) (Or.inr rfl) e14564) ?_
        refine q_getR (Sh.ref hI14558.1 kx_188 rfl) ?_
        refine r_iload_n (w_p1 (by decide) (Or.inr rfl) e14567) ?_
        refine r_iload_n (w_p1 (by decide) (Or.inr rfl) e14566) ?_
        refine r_ifs 62 rfl (fun c14586 => ?_) (fun c14586 => ?_)
        · have c14586_ : v9861.toInt = 0 := en_k_eq_t c14586
          refine At.enter rfl ?_
          refine r_lconst 0 rfl ?_
          refine Ar.fall 98 rfl ?_
          refine At.enter rfl ?_
          refine q_last (Sh.lar hI14558.1 ka_201) (x14555.toInt) rfl (by omega) ?_
          have hI14587 := HI.wK hI14558 ka_201 (x14555.toInt) (0) (by decide)
          have hF14588 := Fr.wK (p := 201) (j := x14555.toInt) (v := 0) hF14559
          refine r_aload_n (w_p1 (by decide) (Or.inr rfl) e14564) ?_
          refine q_getI (Sh.int hI14587.1 kx_188 rfl) x14556 ((gI_sX).trans e14563) ?_
          refine r_istore _ rfl ?_
          refine Ar.fall 105 rfl ?_
          refine w_loopI (fun n_ l_ g_ => ∃ x14637 : Int32, n_ = x14637.toInt - 0 ∧ HI g_ ∧ Fr F_X1_lineUp_188 A_X1_lineUp_188 g0 g_ ∧ gI g_ 188 16 = x14556 ∧ en_get 0 l_ = some (.ref 188) ∧ en_get 1 l_ = some (.int a1) ∧ en_get 2 l_ = some (.int v9861) ∧ en_get 3 l_ = some (.int x14555) ∧ en_get 4 l_ = some (.int v14578) ∧ en_get 5 l_ = some (.int x14637) ∧ (0 ≤ x14637.toInt ∧ x14637.toInt ≤ 8) ∧ (x14637.toInt ≤ x14556.toInt)) ?_ (x14556.toInt - 0) ⟨x14556, by first | rfl | omega, hI14587, hF14588, ((gI_sX).trans e14563), (w_p1 (by decide) (Or.inr rfl) (w_p1 (by decide) (Or.inr rfl) e14564)), (w_p1 (by decide) (Or.inr rfl) (w_p1 (by decide) (Or.inr rfl) e14565)), (w_p1 (by decide) (Or.inr rfl) (w_p1 (by decide) (Or.inr rfl) e14566)), (w_p1 (by decide) (Or.inr rfl) (w_p1 (by decide) (Or.inr rfl) e14567)), (w_p1 (by decide) (Or.inr rfl) (w_e1 _ _ _)), (w_e1 _ _ _), by omega, by omega⟩
          rintro n14642 l14641 g14638 ⟨x14637, hm14653, hI14639, hF14640, e14644, e14645, e14646, e14647, e14648, e14649, e14650, r14651, q14652⟩ ih14643
          have tv14654 := congrArg Int32.toInt e14644
          refine At.enter rfl ?_
          refine r_iload e14650 ?_
          refine r_ifs 110 rfl (fun c14655 => ?_) (fun c14655 => ?_)
          · have c14655_ : x14637.toInt ≤ 0 := en_k_le_t c14655
            refine At.enter rfl ?_
            refine r_aload_n e14645 ?_
            refine q_getR (Sh.ref hI14639.1 kx_188 rfl) ?_
            refine r_iload e14650 ?_
            refine r_iload_n e14648 ?_
            refine q_iast (Sh.arr hI14639.1 ka_202) (x14637.toInt) rfl (by omega) ?_
            have hI14656 := HI.wA1 hI14639 ka_202 (p := 202) rfl rfl (x14637.toInt) (v := x14555) (by dsimp only; omega)
            have hF14657 := Fr.wA (p := 202) (j := x14637.toInt) (v := x14555) hF14640 rfl
            refine r_aload_n e14645 ?_
            refine r_dup rfl ?_
            refine q_getI (Sh.int hI14656.1 kx_188 rfl) x14556 ((gI_sW).trans e14644) ?_
            refine r_iconst 1 rfl ?_
            refine q_iadd (x14556.toInt + 1) rfl (by omega) (fun v14658 hv14658 => ?_)
            refine q_putI (Sh.int hI14656.1 kx_188 rfl) rfl ?_
            have hI14659 := HI.wI1 hI14656 kx_188 rfl (p := 188) (b := 16) (v := v14658) rfl (by dsimp only; omega)
            have hF14660 := Fr.wI (p := 188) (b := 16) (v := v14658) hF14657 rfl
            refine Ar.fall 174 rfl ?_
            refine At.enter rfl ?_
            refine q_iinc e14648 (x14555.toInt + 1) rfl (by omega) (fun v14661 hv14661 => ?_)
            refine r_goto ?_
            exact ih14562 (8 - v14661.toInt) _ _ ⟨v14661, v14658, by first | rfl | omega, hI14659, hF14660, (gI_sI_eq hI14656.1 kx_188 rfl _), (w_p1 (by decide) (Or.inr rfl) e14645), (w_p1 (by decide) (Or.inr rfl) e14646), (w_p1 (by decide) (Or.inr rfl) e14647), (w_e1 _ _ _), by omega, by omega, by omega⟩ ⟨by omega, by omega⟩
          · have c14655_ : x14637.toInt > 0 := en_k_le_f c14655
            refine At.enter rfl ?_
            refine r_aload_n e14645 ?_
            refine q_getR (Sh.ref hI14639.1 kx_188 rfl) ?_
            refine r_aload_n e14645 ?_
            refine q_getR (Sh.ref hI14639.1 kx_188 rfl) ?_
            refine r_iload e14650 ?_
            refine r_iconst 1 rfl ?_
            refine q_isub (x14637.toInt - 1) rfl (by omega) (fun v14662 hv14662 => ?_)
            obtain ⟨v14663, hv14663⟩ : ∃ v, eA g14638 202 (x14637.toInt + (-1)) = v := ⟨_, rfl⟩
            have rv14663 := RgA.at hI14639.2.2.1 (Sh.arr hI14639.1 ka_202).2 (p := 202) rfl (j := (x14637.toInt + (-1))) (by omega)
            rw [hv14663] at rv14663
            dsimp only at rv14663
            refine q_iald (Sh.arr hI14639.1 ka_202) (x14637.toInt + (-1)) (by omega) (by omega) v14663 hv14663 ?_
            refine q_lald (Sh.lar hI14639.1 ka_201) (v14663.toInt) rfl (by omega) (fun v14664 => ?_)
            refine r_aload_n e14645 ?_
            refine q_getR (Sh.ref hI14639.1 kx_188 rfl) ?_
            refine r_iload_n e14648 ?_
            refine q_lald (Sh.lar hI14639.1 ka_201) (x14555.toInt) rfl (by omega) (fun v14665 => ?_)
            refine r_lcmp _ rfl ?_
            refine r_ifs 134 rfl (fun c14666 => ?_) (fun c14666 => ?_)
            · have c14666_ : v14664.toInt ≥ v14665.toInt := en_j_ge_t c14666
              refine At.enter rfl ?_
              refine r_aload_n e14645 ?_
              refine q_getR (Sh.ref hI14639.1 kx_188 rfl) ?_
              refine r_iload e14650 ?_
              refine r_iload_n e14648 ?_
              refine q_iast (Sh.arr hI14639.1 ka_202) (x14637.toInt) rfl (by omega) ?_
              have hI14667 := HI.wA1 hI14639 ka_202 (p := 202) rfl rfl (x14637.toInt) (v := x14555) (by dsimp only; omega)
              have hF14668 := Fr.wA (p := 202) (j := x14637.toInt) (v := x14555) hF14640 rfl
              refine r_aload_n e14645 ?_
              refine r_dup rfl ?_
              refine q_getI (Sh.int hI14667.1 kx_188 rfl) x14556 ((gI_sW).trans e14644) ?_
              refine r_iconst 1 rfl ?_
              refine q_iadd (x14556.toInt + 1) rfl (by omega) (fun v14669 hv14669 => ?_)
              refine q_putI (Sh.int hI14667.1 kx_188 rfl) rfl ?_
              have hI14670 := HI.wI1 hI14667 kx_188 rfl (p := 188) (b := 16) (v := v14669) rfl (by dsimp only; omega)
              have hF14671 := Fr.wI (p := 188) (b := 16) (v := v14669) hF14668 rfl
              refine Ar.fall 174 rfl ?_
              refine At.enter rfl ?_
              refine q_iinc e14648 (x14555.toInt + 1) rfl (by omega) (fun v14672 hv14672 => ?_)
              refine r_goto ?_
              exact ih14562 (8 - v14672.toInt) _ _ ⟨v14672, v14669, by first | rfl | omega, hI14670, hF14671, (gI_sI_eq hI14667.1 kx_188 rfl _), (w_p1 (by decide) (Or.inr rfl) e14645), (w_p1 (by decide) (Or.inr rfl) e14646), (w_p1 (by decide) (Or.inr rfl) e14647), (w_e1 _ _ _), by omega, by omega, by omega⟩ ⟨by omega, by omega⟩
            · have c14666_ : v14664.toInt < v14665.toInt := en_j_ge_f c14666
              refine At.enter rfl ?_
              refine r_aload_n e14645 ?_
              refine q_getR (Sh.ref hI14639.1 kx_188 rfl) ?_
              refine r_iload e14650 ?_
              refine r_aload_n e14645 ?_
              refine q_getR (Sh.ref hI14639.1 kx_188 rfl) ?_
              refine r_iload e14650 ?_
              refine r_iconst 1 rfl ?_
              refine q_isub (x14637.toInt - 1) rfl (by omega) (fun v14673 hv14673 => ?_)
              refine q_iald (Sh.arr hI14639.1 ka_202) (x14637.toInt + (-1)) (by omega) (by omega) v14663 hv14663 ?_
              refine q_iast (Sh.arr hI14639.1 ka_202) (x14637.toInt) rfl (by omega) ?_
              have hI14674 := HI.wA1 hI14639 ka_202 (p := 202) rfl rfl (x14637.toInt) (v := v14663) (by dsimp only; omega)
              have hF14675 := Fr.wA (p := 202) (j := x14637.toInt) (v := v14663) hF14640 rfl
              refine q_iinc e14650 (x14637.toInt + (-1)) rfl (by omega) (fun v14676 hv14676 => ?_)
              refine r_goto ?_
              exact ih14643 (v14676.toInt - 0) _ _ ⟨v14676, by first | rfl | omega, hI14674, hF14675, ((gI_sW).trans e14644), (w_p1 (by decide) (Or.inr rfl) e14645), (w_p1 (by decide) (Or.inr rfl) e14646), (w_p1 (by decide) (Or.inr rfl) e14647), (w_p1 (by decide) (Or.inr rfl) e14648), (w_p1 (by decide) (Or.inr rfl) e14649), (w_e1 _ _ _), by omega, by omega⟩ ⟨by omega, by omega⟩
        · have c14586_ : v9861.toInt ≠ 0 := en_k_eq_f c14586
          refine At.enter rfl ?_
          refine r_aload_n (w_p1 (by decide) (Or.inr rfl) e14564) ?_
          refine q_getR (Sh.ref hI14558.1 kx_188 rfl) ?_
          refine r_iconst 0 rfl ?_
          refine r_iload_n (w_p1 (by decide) (Or.inr rfl) e14567) ?_
          refine r_iload (w_e1 _ _ _) ?_
          refine r_iload_n (w_p1 (by decide) (Or.inr rfl) e14565) ?_
          refine r_aload_n (w_p1 (by decide) (Or.inr rfl) e14564) ?_
          refine q_getR (Sh.ref hI14558.1 kx_188 rfl) ?_
          refine r_iload_n (w_p1 (by decide) (Or.inr rfl) e14567) ?_
          obtain ⟨v14677, hv14677⟩ : ∃ v, eA g0 198 x14555.toInt = v := ⟨_, rfl⟩
          refine q_iald (Sh.arr hI14558.1 ka_198) x14555.toInt rfl (by omega) v14677 ((eA_c (hF14559.2.1 198 (by decide))).trans hv14677) ?_
          refine r_aload_n (w_p1 (by decide) (Or.inr rfl) e14564) ?_
          refine q_getR (Sh.ref hI14558.1 kx_188 rfl) ?_
          refine r_iload (w_e1 _ _ _) ?_
          obtain ⟨v14678, hv14678⟩ : ∃ v, eA g0 189 v14578.toInt = v := ⟨_, rfl⟩
          refine q_iald (Sh.arr hI14558.1 ka_189) v14578.toInt rfl (by omega) v14678 ((eA_c (hF14559.2.1 189 (by decide))).trans hv14678) ?_
          refine r_aload_n (w_p1 (by decide) (Or.inr rfl) e14564) ?_
          refine q_getR (Sh.ref hI14558.1 kx_188 rfl) ?_
          refine r_iload (w_e1 _ _ _) ?_
          obtain ⟨v14679, hv14679⟩ : ∃ v, eA g0 190 v14578.toInt = v := ⟨_, rfl⟩
          refine q_iald (Sh.arr hI14558.1 ka_190) v14578.toInt rfl (by omega) v14679 ((eA_c (hF14559.2.1 190 (by decide))).trans hv14679) ?_
          refine r_callV 94 rfl [.ref 185, .int 0, .int x14555, .int v14578, .int a1, .int v14677, .int v14678, .int v14679] [.int x14555, .ref 201] (Nat.le_of_ble_eq_true rfl) rfl (T_X3_tells_185 _ hI14558 0 x14555 v14578 a1 v14677 v14678 v14679) ?_
          rintro _ _ ⟨g14680, rfl, hI14681, hF14682, v14683, rfl, hr14684⟩
          refine At.stl ?_
          have hF14685 := Fr.tr hF14559 hF14682 rfl rfl
          refine At.enter rfl ?_
          refine r_goto ?_
          refine At.enter rfl ?_
          refine q_last (Sh.lar hI14681.1 ka_201) (x14555.toInt) rfl (by omega) ?_
          have hI14686 := HI.wK hI14681 ka_201 (x14555.toInt) (v14683) (by decide)
          have hF14687 := Fr.wK (p := 201) (j := x14555.toInt) (v := v14683) hF14685
          refine r_aload_n (w_p1 (by decide) (Or.inr rfl) e14564) ?_
          refine q_getI (Sh.int hI14686.1 kx_188 rfl) x14556 (((gI_sX).trans (hF14682.1 188 16 mf_X3_tells_185_188_16)).trans e14563) ?_
          refine r_istore _ rfl ?_
          refine Ar.fall 105 rfl ?_
          refine w_loopI (fun n_ l_ g_ => ∃ x14736 : Int32, n_ = x14736.toInt - 0 ∧ HI g_ ∧ Fr F_X1_lineUp_188 A_X1_lineUp_188 g0 g_ ∧ gI g_ 188 16 = x14556 ∧ en_get 0 l_ = some (.ref 188) ∧ en_get 1 l_ = some (.int a1) ∧ en_get 2 l_ = some (.int v9861) ∧ en_get 3 l_ = some (.int x14555) ∧ en_get 4 l_ = some (.int v14578) ∧ en_get 5 l_ = some (.int x14736) ∧ (0 ≤ x14736.toInt ∧ x14736.toInt ≤ 8) ∧ (x14736.toInt ≤ x14556.toInt)) ?_ (x14556.toInt - 0) ⟨x14556, by first | rfl | omega, hI14686, hF14687, (((gI_sX).trans (hF14682.1 188 16 mf_X3_tells_185_188_16)).trans e14563), (w_p1 (by decide) (Or.inr rfl) (w_p1 (by decide) (Or.inr rfl) e14564)), (w_p1 (by decide) (Or.inr rfl) (w_p1 (by decide) (Or.inr rfl) e14565)), (w_p1 (by decide) (Or.inr rfl) (w_p1 (by decide) (Or.inr rfl) e14566)), (w_p1 (by decide) (Or.inr rfl) (w_p1 (by decide) (Or.inr rfl) e14567)), (w_p1 (by decide) (Or.inr rfl) (w_e1 _ _ _)), (w_e1 _ _ _), by omega, by omega⟩
          rintro n14741 l14740 g14737 ⟨x14736, hm14752, hI14738, hF14739, e14743, e14744, e14745, e14746, e14747, e14748, e14749, r14750, q14751⟩ ih14742
          have tv14753 := congrArg Int32.toInt e14743
          refine At.enter rfl ?_
          refine r_iload e14749 ?_
          refine r_ifs 110 rfl (fun c14754 => ?_) (fun c14754 => ?_)
          · have c14754_ : x14736.toInt ≤ 0 := en_k_le_t c14754
            refine At.enter rfl ?_
            refine r_aload_n e14744 ?_
            refine q_getR (Sh.ref hI14738.1 kx_188 rfl) ?_
            refine r_iload e14749 ?_
            refine r_iload_n e14747 ?_
            refine q_iast (Sh.arr hI14738.1 ka_202) (x14736.toInt) rfl (by omega) ?_
            have hI14755 := HI.wA1 hI14738 ka_202 (p := 202) rfl rfl (x14736.toInt) (v := x14555) (by dsimp only; omega)
            have hF14756 := Fr.wA (p := 202) (j := x14736.toInt) (v := x14555) hF14739 rfl
            refine r_aload_n e14744 ?_
            refine r_dup rfl ?_
            refine q_getI (Sh.int hI14755.1 kx_188 rfl) x14556 ((gI_sW).trans e14743) ?_
            refine r_iconst 1 rfl ?_
            refine q_iadd (x14556.toInt + 1) rfl (by omega) (fun v14757 hv14757 => ?_)
            refine q_putI (Sh.int hI14755.1 kx_188 rfl) rfl ?_
            have hI14758 := HI.wI1 hI14755 kx_188 rfl (p := 188) (b := 16) (v := v14757) rfl (by dsimp only; omega)
            have hF14759 := Fr.wI (p := 188) (b := 16) (v := v14757) hF14756 rfl
            refine Ar.fall 174 rfl ?_
            refine At.enter rfl ?_
            refine q_iinc e14747 (x14555.toInt + 1) rfl (by omega) (fun v14760 hv14760 => ?_)
            refine r_goto ?_
            exact ih14562 (8 - v14760.toInt) _ _ ⟨v14760, v14757, by first | rfl | omega, hI14758, hF14759, (gI_sI_eq hI14755.1 kx_188 rfl _), (w_p1 (by decide) (Or.inr rfl) e14744), (w_p1 (by decide) (Or.inr rfl) e14745), (w_p1 (by decide) (Or.inr rfl) e14746), (w_e1 _ _ _), by omega, by omega, by omega⟩ ⟨by omega, by omega⟩
          · have c14754_ : x14736.toInt > 0 := en_k_le_f c14754
            refine At.enter rfl ?_
            refine r_aload_n e14744 ?_
            refine q_getR (Sh.ref hI14738.1 kx_188 rfl) ?_
            refine r_aload_n e14744 ?_
            refine q_getR (Sh.ref hI14738.1 kx_188 rfl) ?_
            refine r_iload e14749 ?_
            refine r_iconst 1 rfl ?_
            refine q_isub (x14736.toInt - 1) rfl (by omega) (fun v14761 hv14761 => ?_)
            obtain ⟨v14762, hv14762⟩ : ∃ v, eA g14737 202 (x14736.toInt + (-1)) = v := ⟨_, rfl⟩
            have rv14762 := RgA.at hI14738.2.2.1 (Sh.arr hI14738.1 ka_202).2 (p := 202) rfl (j := (x14736.toInt + (-1))) (by omega)
            rw [hv14762] at rv14762
            dsimp only at rv14762
            refine q_iald (Sh.arr hI14738.1 ka_202) (x14736.toInt + (-1)) (by omega) (by omega) v14762 hv14762 ?_
            refine q_lald (Sh.lar hI14738.1 ka_201) (v14762.toInt) rfl (by omega) (fun v14763 => ?_)
            refine r_aload_n e14744 ?_
            refine q_getR (Sh.ref hI14738.1 kx_188 rfl) ?_
            refine r_iload_n e14747 ?_
            refine q_lald (Sh.lar hI14738.1 ka_201) (x14555.toInt) rfl (by omega) (fun v14764 => ?_)
            refine r_lcmp _ rfl ?_
            refine r_ifs 134 rfl (fun c14765 => ?_) (fun c14765 => ?_)
            · have c14765_ : v14763.toInt ≥ v14764.toInt := en_j_ge_t c14765
              refine At.enter rfl ?_
              refine r_aload_n e14744 ?_
              refine q_getR (Sh.ref hI14738.1 kx_188 rfl) ?_
              refine r_iload e14749 ?_
              refine r_iload_n e14747 ?_
              refine q_iast (Sh.arr hI14738.1 ka_202) (x14736.toInt) rfl (by omega) ?_
              have hI14766 := HI.wA1 hI14738 ka_202 (p := 202) rfl rfl (x14736.toInt) (v := x14555) (by dsimp only; omega)
              have hF14767 := Fr.wA (p := 202) (j := x14736.toInt) (v := x14555) hF14739 rfl
              refine r_aload_n e14744 ?_
              refine r_dup rfl ?_
              refine q_getI (Sh.int hI14766.1 kx_188 rfl) x14556 ((gI_sW).trans e14743) ?_
              refine r_iconst 1 rfl ?_
              refine q_iadd (x14556.toInt + 1) rfl (by omega) (fun v14768 hv14768 => ?_)
              refine q_putI (Sh.int hI14766.1 kx_188 rfl) rfl ?_
              have hI14769 := HI.wI1 hI14766 kx_188 rfl (p := 188) (b := 16) (v := v14768) rfl (by dsimp only; omega)
              have hF14770 := Fr.wI (p := 188) (b := 16) (v := v14768) hF14767 rfl
              refine Ar.fall 174 rfl ?_
              refine At.enter rfl ?_
              refine q_iinc e14747 (x14555.toInt + 1) rfl (by omega) (fun v14771 hv14771 => ?_)
              refine r_goto ?_
              exact ih14562 (8 - v14771.toInt) _ _ ⟨v14771, v14768, by first | rfl | omega, hI14769, hF14770, (gI_sI_eq hI14766.1 kx_188 rfl _), (w_p1 (by decide) (Or.inr rfl) e14744), (w_p1 (by decide) (Or.inr rfl) e14745), (w_p1 (by decide) (Or.inr rfl) e14746), (w_e1 _ _ _), by omega, by omega, by omega⟩ ⟨by omega, by omega⟩
            · have c14765_ : v14763.toInt < v14764.toInt := en_j_ge_f c14765
              refine At.enter rfl ?_
              refine r_aload_n e14744 ?_
              refine q_getR (Sh.ref hI14738.1 kx_188 rfl) ?_
              refine r_iload e14749 ?_
              refine r_aload_n e14744 ?_
              refine q_getR (Sh.ref hI14738.1 kx_188 rfl) ?_
              refine r_iload e14749 ?_
              refine r_iconst 1 rfl ?_
              refine q_isub (x14736.toInt - 1) rfl (by omega) (fun v14772 hv14772 => ?_)
              refine q_iald (Sh.arr hI14738.1 ka_202) (x14736.toInt + (-1)) (by omega) (by omega) v14762 hv14762 ?_
              refine q_iast (Sh.arr hI14738.1 ka_202) (x14736.toInt) rfl (by omega) ?_
              have hI14773 := HI.wA1 hI14738 ka_202 (p := 202) rfl rfl (x14736.toInt) (v := v14762) (by dsimp only; omega)
              have hF14774 := Fr.wA (p := 202) (j := x14736.toInt) (v := v14762) hF14739 rfl
              refine q_iinc e14749 (x14736.toInt + (-1)) rfl (by omega) (fun v14775 hv14775 => ?_)
              refine r_goto ?_
              exact ih14742 (v14775.toInt - 0) _ _ ⟨v14775, by first | rfl | omega, hI14773, hF14774, ((gI_sW).trans e14743), (w_p1 (by decide) (Or.inr rfl) e14744), (w_p1 (by decide) (Or.inr rfl) e14745), (w_p1 (by decide) (Or.inr rfl) e14746), (w_p1 (by decide) (Or.inr rfl) e14747), (w_p1 (by decide) (Or.inr rfl) e14748), (w_e1 _ _ _), by omega, by omega⟩ ⟨by omega, by omega⟩
