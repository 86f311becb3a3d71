def F_X1_lineUp_188 : List (Nat × Nat) := [(185, 3), (188, 16)]
def A_X1_lineUp_188 : List Nat := [202]
theorem mf_X3_tells_185_188_16 : memF F_X3_tells_185 188 16 = false := by decide
set_option maxRecDepth 100000 in
set_option maxHeartbeats 4000000 in
theorem T_X1_lineUp_188 (d : Nat) {N : Nat} {g0 : List en_E} (hI0 : HI g0) (a1 : Int32) : Ev (d + 4) 29 [.ref 188, .int a1] (g0, N) (fun w h' => ∃ g', h' = (g', N) ∧ HI g' ∧ Fr F_X1_lineUp_188 A_X1_lineUp_188 g0 g' ∧ w = none) := by
  have hF0 : Fr F_X1_lineUp_188 A_X1_lineUp_188 g0 g0 := Fr.rf
  refine Ev.mk rfl rfl ⟨Nat.le_of_ble_eq_true rfl, Or.inr (q_rc hI0.1 kx_188 rfl)⟩ ?_
  show At _ none _ _ (0, [(0, .ref 188), (1, .int a1)], [], (_, _)) _
  refine At.enter rfl ?_
  refine r_aload_n rfl ?_
  refine q_getR (Sh.ref hI0.1 kx_188 rfl) ?_
  refine q_inlV 7 rfl [.ref 1] [] (Nat.le_of_ble_eq_true rfl) rfl ?_
  refine Ev.mk rfl rfl ⟨Nat.le_of_ble_eq_true rfl, Or.inr (q_rc hI0.1 kx_1 rfl)⟩ ?_
  show At _ none _ _ (0, [(0, .ref 1)], [], (_, _)) _
  refine At.enter rfl ?_
  refine r_aload_n rfl ?_
  refine r_aload_n rfl ?_
  obtain ⟨v9905, hv9905⟩ : ∃ v, gI g0 1 9 = v := ⟨_, rfl⟩
  refine q_getI (Sh.int hI0.1 kx_1 rfl) v9905 hv9905 ?_
  refine r_callV 8 rfl [.ref 1, .int v9905] [] (Nat.le_of_ble_eq_true rfl) rfl (T_X0_lawAt_1 _ hI0 v9905) ?_
  rintro _ _ ⟨g9906, rfl, hI9907, hF9908, v9909, rfl, hr9910⟩
  refine At.str ?_
  have ks9913 := hr9910.2.2
  have hr9912 : _ ∧ _ := ⟨hr9910.1, hr9910.2.1⟩
  have hr9912_ := hr9912.1
  have hF9911 := Fr.tr hF0 hF9908 rfl rfl
  refine At.enter rfl ?_
  refine q_aret ?_
  refine At.enter rfl ?_
  refine r_iconst 0 rfl ?_
  refine r_callV 11 rfl [.ref (v9909), .int 0] [] (Nat.le_of_ble_eq_true rfl) rfl (T_X4_speaksOf_law _ hI9907 (v9909) hr9912_ 0) ?_
  rintro _ _ ⟨g9914, rfl, hI9915, hF9916, v9917, rfl, hr9918⟩
  refine At.sti ?_
  have hF9919 := Fr.tr hF9911 hF9916 rfl rfl
  have zv9920 : (0 : Int32).toInt = 0 := rfl
  refine At.enter rfl ?_
  refine r_istore_n ([(2, .int v9917), (0, .ref 188), (1, .int a1)]) rfl ?_
  refine r_aload_n rfl ?_
  refine r_iconst 0 rfl ?_
  refine q_putI (Sh.int hI9915.1 kx_188 rfl) rfl ?_
  have hI9921 := HI.wI1 hI9915 kx_188 rfl (p := 188) (b := 16) (v := 0) rfl (by decide)
  have hF9922 := Fr.wI (p := 188) (b := 16) (v := 0) hF9919 rfl
  refine r_iconst 0 rfl ?_
  refine r_istore_n ([(3, .int 0), (2, .int v9917), (0, .ref 188), (1, .int a1)]) rfl ?_
  refine Ar.fall 19 rfl ?_
  have z_14651 : (0 : Int32).toInt = 0 := rfl
  have z_14652 : (0 : Int32).toInt = 0 := rfl
  refine w_loopI (fun n_ l_ g_ => ∃ x14635 : Int32, ∃ x14636 : Int32, n_ = 8 - x14635.toInt ∧ HI g_ ∧ Fr F_X1_lineUp_188 A_X1_lineUp_188 g0 g_ ∧ gI g_ 188 16 = x14636 ∧ en_get 0 l_ = some (.ref 188) ∧ en_get 1 l_ = some (.int a1) ∧ en_get 2 l_ = some (.int v9917) ∧ en_get 3 l_ = some (.int x14635) ∧ (0 ≤ x14635.toInt ∧ x14635.toInt ≤ 8) ∧ (0 ≤ x14636.toInt ∧ x14636.toInt ≤ 8) ∧ (x14636.toInt ≤ x14635.toInt)) ?_ (8 - 0) ⟨0, 0, by first | rfl | omega, hI9921, hF9922, (gI_sI_eq hI9915.1 kx_188 rfl _), rfl, rfl, rfl, rfl, by decide, by decide, by omega⟩
  rintro n14641 l14640 g14637 ⟨x14635, x14636, hm14653, hI14638, hF14639, e14643, e14644, e14645, e14646, e14647, r14648, r14649, q14650⟩ ih14642
  refine At.enter rfl ?_
  refine r_iload_n e14647 ?_
  refine r_aload_n e14644 ?_
  refine q_getR (Sh.ref hI14638.1 kx_188 rfl) ?_
  obtain ⟨v14654, hv14654⟩ : ∃ v, gI g0 1 4 = v := ⟨_, rfl⟩
  have rv14654 := RgF.at hI0.2.1 (p := 1) (b := 4) rfl
  rw [hv14654] at rv14654
  dsimp only at rv14654
  refine q_getI (Sh.int hI14638.1 kx_1 rfl) v14654 ((hF14639.1 1 4 (by decide)).trans hv14654) ?_
  have bv14656 := q_bnd x14635
  have bv14657 := q_bnd v14654
  refine r_ics 30 rfl (fun c14655 => ?_) (fun c14655 => ?_)
  · have c14655_ : x14635.toInt ≥ v14654.toInt := en_i_ge_t c14655
    refine At.enter rfl ?_
    refine r_vret ?_
    exact ⟨_, rfl, hI14638, hF14639, rfl⟩
  · have c14655_ : x14635.toInt < v14654.toInt := en_i_ge_f c14655
    refine At.enter rfl ?_
    refine r_aload_n e14644 ?_
    refine q_getR (Sh.ref hI14638.1 kx_188 rfl) ?_
    refine r_iload_n e14647 ?_
    obtain ⟨v14658, hv14658⟩ : ∃ v, eA g0 195 x14635.toInt = v := ⟨_, rfl⟩
    refine q_iald (Sh.arr hI14638.1 ka_195) x14635.toInt rfl (by omega) v14658 ((eA_c (hF14639.2.1 195 (by decide))).trans hv14658) ?_
    refine r_istore _ rfl ?_
    refine r_aload_n (w_p1 (by decide) (Or.inr rfl) e14644) ?_
    refine q_getR (Sh.ref hI14638.1 kx_188 rfl) ?_
    refine r_iload (w_e1 _ _ _) ?_
    refine q_inlV 47 rfl [.ref 1, .int v14658] [] (Nat.le_of_ble_eq_true rfl) rfl ?_
    refine Ev.mk rfl rfl ⟨Nat.le_of_ble_eq_true rfl, Or.inr (q_rc hI14638.1 kx_1 rfl)⟩ ?_
    show At _ none _ _ (0, [(0, .ref 1), (1, .int v14658)], [], (_, _)) _
    refine At.enter rfl ?_
    refine r_iload_n rfl ?_
    refine r_ifs 4 rfl (fun c14659 => ?_) (fun c14659 => ?_)
    · have c14659_ : v14658.toInt < 0 := en_k_lt_t c14659
      refine At.enter rfl ?_
      refine r_iconst 0 rfl ?_
      refine Ar.fall 17 rfl ?_
      refine At.enter rfl ?_
      refine q_iretz (by decide) ?_
      refine At.enter rfl ?_
      refine r_iff 50 rfl (by decide) ?_
      refine At.enter rfl ?_
      refine r_goto ?_
      refine At.enter rfl ?_
      refine q_iinc (w_p1 (by decide) (Or.inr rfl) e14647) (x14635.toInt + 1) rfl (by omega) (fun v14660 hv14660 => ?_)
      refine r_goto ?_
      exact ih14642 (8 - v14660.toInt) _ _ ⟨v14660, x14636, by first | rfl | omega, hI14638, hF14639, e14643, (w_p1 (by decide) (Or.inr rfl) (w_p1 (by decide) (Or.inr rfl) e14644)), (w_p1 (by decide) (Or.inr rfl) (w_p1 (by decide) (Or.inr rfl) e14645)), (w_p1 (by decide) (Or.inr rfl) (w_p1 (by decide) (Or.inr rfl) e14646)), (w_e1 _ _ _), by omega, by omega, by omega⟩ ⟨by omega, by omega⟩
    · have c14659_ : v14658.toInt ≥ 0 := en_k_lt_f c14659
      refine At.enter rfl ?_
      refine r_iload_n rfl ?_
      refine r_aload_n rfl ?_
      obtain ⟨v14661, hv14661⟩ : ∃ v, gI g0 1 0 = v := ⟨_, rfl⟩
      have rv14661 := RgF.at hI0.2.1 (p := 1) (b := 0) rfl
      rw [hv14661] at rv14661
      dsimp only at rv14661
      refine q_getI (Sh.int hI14638.1 kx_1 rfl) v14661 ((hF14639.1 1 0 (by decide)).trans hv14661) ?_
      have bv14663 := q_bnd v14658
      have bv14664 := q_bnd v14661
      refine r_ics 12 rfl (fun c14662 => ?_) (fun c14662 => ?_)
      · have c14662_ : v14658.toInt ≥ v14661.toInt := en_i_ge_t c14662
        refine At.enter rfl ?_
        refine r_iconst 0 rfl ?_
        refine Ar.fall 17 rfl ?_
        refine At.enter rfl ?_
        refine q_iretz (by decide) ?_
        refine At.enter rfl ?_
        refine r_iff 50 rfl (by decide) ?_
        refine At.enter rfl ?_
        refine r_goto ?_
        refine At.enter rfl ?_
        refine q_iinc (w_p1 (by decide) (Or.inr rfl) e14647) (x14635.toInt + 1) rfl (by omega) (fun v14665 hv14665 => ?_)
        refine r_goto ?_
        exact ih14642 (8 - v14665.toInt) _ _ ⟨v14665, x14636, by first | rfl | omega, hI14638, hF14639, e14643, (w_p1 (by decide) (Or.inr rfl) (w_p1 (by decide) (Or.inr rfl) e14644)), (w_p1 (by decide) (Or.inr rfl) (w_p1 (by decide) (Or.inr rfl) e14645)), (w_p1 (by decide) (Or.inr rfl) (w_p1 (by decide) (Or.inr rfl) e14646)), (w_e1 _ _ _), by omega, by omega, by omega⟩ ⟨by omega, by omega⟩
      · have c14662_ : v14658.toInt < v14661.toInt := en_i_ge_f c14662
        refine At.enter rfl ?_
        refine r_iconst 1 rfl ?_
        refine r_goto ?_
        refine At.enter rfl ?_
        refine q_iretz (by decide) ?_
        refine At.enter rfl ?_
        refine r_ift (by decide) ?_
        refine At.enter rfl ?_
        refine r_aload_n (w_p1 (by decide) (Or.inr rfl) e14644) ?_
        refine q_getR (Sh.ref hI14638.1 kx_188 rfl) ?_
        refine r_iload_n (w_p1 (by decide) (Or.inr rfl) e14647) ?_
        refine r_iload_n (w_p1 (by decide) (Or.inr rfl) e14646) ?_
        refine r_ifs 62 rfl (fun c14666 => ?_) (fun c14666 => ?_)
        · have c14666_ : v9917.toInt = 0 := en_k_eq_t c14666
          refine At.enter rfl ?_
          refine r_lconst 0 rfl ?_
          refine Ar.fall 98 rfl ?_
          refine At.enter rfl ?_
          refine q_last (Sh.lar hI14638.1 ka_201) (x14635.toInt) rfl (by omega) ?_
          have hI14667 := HI.wK hI14638 ka_201 (x14635.toInt) (0) (by decide)
          have hF14668 := Fr.wK (p := 201) (j := x14635.toInt) (v := 0) hF14639
          refine r_aload_n (w_p1 (by decide) (Or.inr rfl) e14644) ?_
          refine q_getI (Sh.int hI14667.1 kx_188 rfl) x14636 ((gI_sX).trans e14643) ?_
          refine r_istore _ rfl ?_
          refine Ar.fall 105 rfl ?_
          refine w_loopI (fun n_ l_ g_ => ∃ x14717 : Int32, n_ = x14717.toInt - 0 ∧ HI g_ ∧ Fr F_X1_lineUp_188 A_X1_lineUp_188 g0 g_ ∧ gI g_ 188 16 = x14636 ∧ en_get 0 l_ = some (.ref 188) ∧ en_get 1 l_ = some (.int a1) ∧ en_get 2 l_ = some (.int v9917) ∧ en_get 3 l_ = some (.int x14635) ∧ en_get 4 l_ = some (.int v14658) ∧ en_get 5 l_ = some (.int x14717) ∧ (0 ≤ x14717.toInt ∧ x14717.toInt ≤ 8) ∧ (x14717.toInt ≤ x14636.toInt)) ?_ (x14636.toInt - 0) ⟨x14636, by first | rfl | omega, hI14667, hF14668, ((gI_sX).trans e14643), (w_p1 (by decide) (Or.inr rfl) (w_p1 (by decide) (Or.inr rfl) e14644)), (w_p1 (by decide) (Or.inr rfl) (w_p1 (by decide) (Or.inr rfl) e14645)), (w_p1 (by decide) (Or.inr rfl) (w_p1 (by decide) (Or.inr rfl) e14646)), (w_p1 (by decide) (Or.inr rfl) (w_p1 (by decide) (Or.inr rfl) e14647)), (w_p1 (by decide) (Or.inr rfl) (w_e1 _ _ _)), (w_e1 _ _ _), by omega, by omega⟩
          rintro n14722 l14721 g14718 ⟨x14717, hm14733, hI14719, hF14720, e14724, e14725, e14726, e14727, e14728, e14729, e14730, r14731, q14732⟩ ih14723
          have tv14734 := congrArg Int32.toInt e14724
          refine At.enter rfl ?_
          refine r_iload e14730 ?_
          refine r_ifs 110 rfl (fun c14735 => ?_) (fun c14735 => ?_)
          · have c14735_ : x14717.toInt ≤ 0 := en_k_le_t c14735
            refine At.enter rfl ?_
            refine r_aload_n e14725 ?_
            refine q_getR (Sh.ref hI14719.1 kx_188 rfl) ?_
            refine r_iload e14730 ?_
            refine r_iload_n e14728 ?_
            refine q_iast (Sh.arr hI14719.1 ka_202) (x14717.toInt) rfl (by omega) ?_
            have hI14736 := HI.wA1 hI14719 ka_202 (p := 202) rfl rfl (x14717.toInt) (v := x14635) (by dsimp only; omega)
            have hF14737 := Fr.wA (p := 202) (j := x14717.toInt) (v := x14635) hF14720 rfl
            refine r_aload_n e14725 ?_
            refine r_dup rfl ?_
            refine q_getI (Sh.int hI14736.1 kx_188 rfl) x14636 ((gI_sW).trans e14724) ?_
            refine r_iconst 1 rfl ?_
            refine q_iadd (x14636.toInt + 1) rfl (by omega) (fun v14738 hv14738 => ?_)
            refine q_putI (Sh.int hI14736.1 kx_188 rfl) rfl ?_
            have hI14739 := HI.wI1 hI14736 kx_188 rfl (p := 188) (b := 16) (v := v14738) rfl (by dsimp only; omega)
            have hF14740 := Fr.wI (p := 188) (b := 16) (v := v14738) hF14737 rfl
            refine Ar.fall 174 rfl ?_
            refine At.enter rfl ?_
            refine q_iinc e14728 (x14635.toInt + 1) rfl (by omega) (fun v14741 hv14741 => ?_)
            refine r_goto ?_
            exact ih14642 (8 - v14741.toInt) _ _ ⟨v14741, v14738, by first | rfl | omega, hI14739, hF14740, (gI_sI_eq hI14736.1 kx_188 rfl _), (w_p1 (by decide) (Or.inr rfl) e14725), (w_p1 (by decide) (Or.inr rfl) e14726), (w_p1 (by decide) (Or.inr rfl) e14727), (w_e1 _ _ _), by omega, by omega, by omega⟩ ⟨by omega, by omega⟩
          · have c14735_ : x14717.toInt > 0 := en_k_le_f c14735
            refine At.enter rfl ?_
            refine r_aload_n e14725 ?_
            refine q_getR (Sh.ref hI14719.1 kx_188 rfl) ?_
            refine r_aload_n e14725 ?_
            refine q_getR (Sh.ref hI14719.1 kx_188 rfl) ?_
            refine r_iload e14730 ?_
            refine r_iconst 1 rfl ?_
            refine q_isub (x14717.toInt - 1) rfl (by omega) (fun v14742 hv14742 => ?_)
            obtain ⟨v14743, hv14743⟩ : ∃ v, eA g14718 202 (x14717.toInt + (-1)) = v := ⟨_, rfl⟩
            have rv14743 := RgA.at hI14719.2.2.1 (Sh.arr hI14719.1 ka_202).2 (p := 202) rfl (j := (x14717.toInt + (-1))) (by omega)
            rw [hv14743] at rv14743
            dsimp only at rv14743
            refine q_iald (Sh.arr hI14719.1 ka_202) (x14717.toInt + (-1)) (by omega) (by omega) v14743 hv14743 ?_
            refine q_lald (Sh.lar hI14719.1 ka_201) (v14743.toInt) rfl (by omega) (fun v14744 => ?_)
            refine r_aload_n e14725 ?_
            refine q_getR (Sh.ref hI14719.1 kx_188 rfl) ?_
            refine r_iload_n e14728 ?_
            refine q_lald (Sh.lar hI14719.1 ka_201) (x14635.toInt) rfl (by omega) (fun v14745 => ?_)
            refine r_lcmp _ rfl ?_
            refine r_ifs 134 rfl (fun c14746 => ?_) (fun c14746 => ?_)
            · have c14746_ : v14744.toInt ≥ v14745.toInt := en_j_ge_t c14746
              refine At.enter rfl ?_
              refine r_aload_n e14725 ?_
              refine q_getR (Sh.ref hI14719.1 kx_188 rfl) ?_
              refine r_iload e14730 ?_
              refine r_iload_n e14728 ?_
              refine q_iast (Sh.arr hI14719.1 ka_202) (x14717.toInt) rfl (by omega) ?_
              have hI14747 := HI.wA1 hI14719 ka_202 (p := 202) rfl rfl (x14717.toInt) (v := x14635) (by dsimp only; omega)
              have hF14748 := Fr.wA (p := 202) (j := x14717.toInt) (v := x14635) hF14720 rfl
              refine r_aload_n e14725 ?_
              refine r_dup rfl ?_
              refine q_getI (Sh.int hI14747.1 kx_188 rfl) x14636 ((gI_sW).trans e14724) ?_
              refine r_iconst 1 rfl ?_
              refine q_iadd (x14636.toInt + 1) rfl (by omega) (fun v14749 hv14749 => ?_)
              refine q_putI (Sh.int hI14747.1 kx_188 rfl) rfl ?_
              have hI14750 := HI.wI1 hI14747 kx_188 rfl (p := 188) (b := 16) (v := v14749) rfl (by dsimp only; omega)
              have hF14751 := Fr.wI (p := 188) (b := 16) (v := v14749) hF14748 rfl
              refine Ar.fall 174 rfl ?_
              refine At.enter rfl ?_
              refine q_iinc e14728 (x14635.toInt + 1) rfl (by omega) (fun v14752 hv14752 => ?_)
              refine r_goto ?_
              exact ih14642 (8 - v14752.toInt) _ _ ⟨v14752, v14749, by first | rfl | omega, hI14750, hF14751, (gI_sI_eq hI14747.1 kx_188 rfl _), (w_p1 (by decide) (Or.inr rfl) e14725), (w_p1 (by decide) (Or.inr rfl) e14726), (w_p1 (by decide) (Or.inr rfl) e14727), (w_e1 _ _ _), by omega, by omega, by omega⟩ ⟨by omega, by omega⟩
            · have c14746_ : v14744.toInt < v14745.toInt := en_j_ge_f c14746
              refine At.enter rfl ?_
              refine r_aload_n e14725 ?_
              refine q_getR (Sh.ref hI14719.1 kx_188 rfl) ?_
              refine r_iload e14730 ?_
              refine r_aload_n e14725 ?_
              refine q_getR (Sh.ref hI14719.1 kx_188 rfl) ?_
              refine r_iload e14730 ?_
              refine r_iconst 1 rfl ?_
              refine q_isub (x14717.toInt - 1) rfl (by omega) (fun v14753 hv14753 => ?_)
              refine q_iald (Sh.arr hI14719.1 ka_202) (x14717.toInt + (-1)) (by omega) (by omega) v14743 hv14743 ?_
              refine q_iast (Sh.arr hI14719.1 ka_202) (x14717.toInt) rfl (by omega) ?_
              have hI14754 := HI.wA1 hI14719 ka_202 (p := 202) rfl rfl (x14717.toInt) (v := v14743) (by dsimp only; omega)
              have hF14755 := Fr.wA (p := 202) (j := x14717.toInt) (v := v14743) hF14720 rfl
              refine q_iinc e14730 (x14717.toInt + (-1)) rfl (by omega) (fun v14756 hv14756 => ?_)
              refine r_goto ?_
              exact ih14723 (v14756.toInt - 0) _ _ ⟨v14756, by first | rfl | omega, hI14754, hF14755, ((gI_sW).trans e14724), (w_p1 (by decide) (Or.inr rfl) e14725), (w_p1 (by decide) (Or.inr rfl) e14726), (w_p1 (by decide) (Or.inr rfl) e14727), (w_p1 (by decide) (Or.inr rfl) e14728), (w_p1 (by decide) (Or.inr rfl) e14729), (w_e1 _ _ _), by omega, by omega⟩ ⟨by omega, by omega⟩
        · have c14666_ : v9917.toInt ≠ 0 := en_k_eq_f c14666
          refine At.enter rfl ?_
          refine r_aload_n (w_p1 (by decide) (Or.inr rfl) e14644) ?_
          refine q_getR (Sh.ref hI14638.1 kx_188 rfl) ?_
          refine r_iconst 0 rfl ?_
          refine r_iload_n (w_p1 (by decide) (Or.inr rfl) e14647) ?_
          refine r_iload (w_e1 _ _ _) ?_
          refine r_iload_n (w_p1 (by decide) (Or.inr rfl) e14645) ?_
          refine r_aload_n (w_p1 (by decide) (Or.inr rfl) e14644) ?_
          refine q_getR (Sh.ref hI14638.1 kx_188 rfl) ?_
          refine r_iload_n (w_p1 (by decide) (Or.inr rfl) e14647) ?_
          obtain ⟨v14757, hv14757⟩ : ∃ v, eA g0 198 x14635.toInt = v := ⟨_, rfl⟩
          refine q_iald (Sh.arr hI14638.1 ka_198) x14635.toInt rfl (by omega) v14757 ((eA_c (hF14639.2.1 198 (by decide))).trans hv14757) ?_
          refine r_aload_n (w_p1 (by decide) (Or.inr rfl) e14644) ?_
          refine q_getR (Sh.ref hI14638.1 kx_188 rfl) ?_
          refine r_iload (w_e1 _ _ _) ?_
          obtain ⟨v14758, hv14758⟩ : ∃ v, eA g0 189 v14658.toInt = v := ⟨_, rfl⟩
          refine q_iald (Sh.arr hI14638.1 ka_189) v14658.toInt rfl (by omega) v14758 ((eA_c (hF14639.2.1 189 (by decide))).trans hv14758) ?_
          refine r_aload_n (w_p1 (by decide) (Or.inr rfl) e14644) ?_
          refine q_getR (Sh.ref hI14638.1 kx_188 rfl) ?_
          refine r_iload (w_e1 _ _ _) ?_
          obtain ⟨v14759, hv14759⟩ : ∃ v, eA g0 190 v14658.toInt = v := ⟨_, rfl⟩
          refine q_iald (Sh.arr hI14638.1 ka_190) v14658.toInt rfl (by omega) v14759 ((eA_c (hF14639.2.1 190 (by decide))).trans hv14759) ?_
          refine r_callV 94 rfl [.ref 185, .int 0, .int x14635, .int v14658, .int a1, .int v14757, .int v14758, .int v14759] [.int x14635, .ref 201] (Nat.le_of_ble_eq_true rfl) rfl (T_X3_tells_185 _ hI14638 0 x14635 v14658 a1 v14757 v14758 v14759) ?_
          rintro _ _ ⟨g14760, rfl, hI14761, hF14762, v14763, rfl, hr14764⟩
          refine At.stl ?_
          have hF14765 := Fr.tr hF14639 hF14762 rfl rfl
          have zv14766 : (0 : Int32).toInt = 0 := rfl
          refine At.enter rfl ?_
          refine r_goto ?_
          refine At.enter rfl ?_
          refine q_last (Sh.lar hI14761.1 ka_201) (x14635.toInt) rfl (by omega) ?_
          have hI14767 := HI.wK hI14761 ka_201 (x14635.toInt) (v14763) (by decide)
          have hF14768 := Fr.wK (p := 201) (j := x14635.toInt) (v := v14763) hF14765
          refine r_aload_n (w_p1 (by decide) (Or.inr rfl) e14644) ?_
          refine q_getI (Sh.int hI14767.1 kx_188 rfl) x14636 (((gI_sX).trans (hF14762.1 188 16 mf_X3_tells_185_188_16)).trans e14643) ?_
          refine r_istore _ rfl ?_
          refine Ar.fall 105 rfl ?_
          refine w_loopI (fun n_ l_ g_ => ∃ x14817 : Int32, n_ = x14817.toInt - 0 ∧ HI g_ ∧ Fr F_X1_lineUp_188 A_X1_lineUp_188 g0 g_ ∧ gI g_ 188 16 = x14636 ∧ en_get 0 l_ = some (.ref 188) ∧ en_get 1 l_ = some (.int a1) ∧ en_get 2 l_ = some (.int v9917) ∧ en_get 3 l_ = some (.int x14635) ∧ en_get 4 l_ = some (.int v14658) ∧ en_get 5 l_ = some (.int x14817) ∧ (0 ≤ x14817.toInt ∧ x14817.toInt ≤ 8) ∧ (x14817.toInt ≤ x14636.toInt)) ?_ (x14636.toInt - 0) ⟨x14636, by first | rfl | omega, hI14767, hF14768, (((gI_sX).trans (hF14762.1 188 16 mf_X3_tells_185_188_16)).trans e14643), (w_p1 (by decide) (Or.inr rfl) (w_p1 (by decide) (Or.inr rfl) e14644)), (w_p1 (by decide) (Or.inr rfl) (w_p1 (by decide) (Or.inr rfl) e14645)), (w_p1 (by decide) (Or.inr rfl) (w_p1 (by decide) (Or.inr rfl) e14646)), (w_p1 (by decide) (Or.inr rfl) (w_p1 (by decide) (Or.inr rfl) e14647)), (w_p1 (by decide) (Or.inr rfl) (w_e1 _ _ _)), (w_e1 _ _ _), by omega, by omega⟩
          rintro n14822 l14821 g14818 ⟨x14817, hm14833, hI14819, hF14820, e14824, e14825, e14826, e14827, e14828, e14829, e14830, r14831, q14832⟩ ih14823
          have tv14834 := congrArg Int32.toInt e14824
          refine At.enter rfl ?_
          refine r_iload e14830 ?_
          refine r_ifs 110 rfl (fun c14835 => ?_) (fun c14835 => ?_)
          · have c14835_ : x14817.toInt ≤ 0 := en_k_le_t c14835
            refine At.enter rfl ?_
            refine r_aload_n e14825 ?_
            refine q_getR (Sh.ref hI14819.1 kx_188 rfl) ?_
            refine r_iload e14830 ?_
            refine r_iload_n e14828 ?_
            refine q_iast (Sh.arr hI14819.1 ka_202) (x14817.toInt) rfl (by omega) ?_
            have hI14836 := HI.wA1 hI14819 ka_202 (p := 202) rfl rfl (x14817.toInt) (v := x14635) (by dsimp only; omega)
            have hF14837 := Fr.wA (p := 202) (j := x14817.toInt) (v := x14635) hF14820 rfl
            refine r_aload_n e14825 ?_
            refine r_dup rfl ?_
            refine q_getI (Sh.int hI14836.1 kx_188 rfl) x14636 ((gI_sW).trans e14824) ?_
            refine r_iconst 1 rfl ?_
            refine q_iadd (x14636.toInt + 1) rfl (by omega) (fun v14838 hv14838 => ?_)
            refine q_putI (Sh.int hI14836.1 kx_188 rfl) rfl ?_
            have hI14839 := HI.wI1 hI14836 kx_188 rfl (p := 188) (b := 16) (v := v14838) rfl (by dsimp only; omega)
            have hF14840 := Fr.wI (p := 188) (b := 16) (v := v14838) hF14837 rfl
            refine Ar.fall 174 rfl ?_
            refine At.enter rfl ?_
            refine q_iinc e14828 (x14635.toInt + 1) rfl (by omega) (fun v14841 hv14841 => ?_)
            refine r_goto ?_
            exact ih14642 (8 - v14841.toInt) _ _ ⟨v14841, v14838, by first | rfl | omega, hI14839, hF14840, (gI_sI_eq hI14836.1 kx_188 rfl _), (w_p1 (by decide) (Or.inr rfl) e14825), (w_p1 (by decide) (Or.inr rfl) e14826), (w_p1 (by decide) (Or.inr rfl) e14827), (w_e1 _ _ _), by omega, by omega, by omega⟩ ⟨by omega, by omega⟩
          · have c14835_ : x14817.toInt > 0 := en_k_le_f c14835
            refine At.enter rfl ?_
            refine r_aload_n e14825 ?_
            refine q_getR (Sh.ref hI14819.1 kx_188 rfl) ?_
            refine r_aload_n e14825 ?_
            refine q_getR (Sh.ref hI14819.1 kx_188 rfl) ?_
            refine r_iload e14830 ?_
            refine r_iconst 1 rfl ?_
            refine q_isub (x14817.toInt - 1) rfl (by omega) (fun v14842 hv14842 => ?_)
            obtain ⟨v14843, hv14843⟩ : ∃ v, eA g14818 202 (x14817.toInt + (-1)) = v := ⟨_, rfl⟩
            have rv14843 := RgA.at hI14819.2.2.1 (Sh.arr hI14819.1 ka_202).2 (p := 202) rfl (j := (x14817.toInt + (-1))) (by omega)
            rw [hv14843] at rv14843
            dsimp only at rv14843
            refine q_iald (Sh.arr hI14819.1 ka_202) (x14817.toInt + (-1)) (by omega) (by omega) v14843 hv14843 ?_
            refine q_lald (Sh.lar hI14819.1 ka_201) (v14843.toInt) rfl (by omega) (fun v14844 => ?_)
            refine r_aload_n e14825 ?_
            refine q_getR (Sh.ref hI14819.1 kx_188 rfl) ?_
            refine r_iload_n e14828 ?_
            refine q_lald (Sh.lar hI14819.1 ka_201) (x14635.toInt) rfl (by omega) (fun v14845 => ?_)
            refine r_lcmp _ rfl ?_
            refine r_ifs 134 rfl (fun c14846 => ?_) (fun c14846 => ?_)
            · have c14846_ : v14844.toInt ≥ v14845.toInt := en_j_ge_t c14846
              refine At.enter rfl ?_
              refine r_aload_n e14825 ?_
              refine q_getR (Sh.ref hI14819.1 kx_188 rfl) ?_
              refine r_iload e14830 ?_
              refine r_iload_n e14828 ?_
              refine q_iast (Sh.arr hI14819.1 ka_202) (x14817.toInt) rfl (by omega) ?_
              have hI14847 := HI.wA1 hI14819 ka_202 (p := 202) rfl rfl (x14817.toInt) (v := x14635) (by dsimp only; omega)
              have hF14848 := Fr.wA (p := 202) (j := x14817.toInt) (v := x14635) hF14820 rfl
              refine r_aload_n e14825 ?_
              refine r_dup rfl ?_
              refine q_getI (Sh.int hI14847.1 kx_188 rfl) x14636 ((gI_sW).trans e14824) ?_
              refine r_iconst 1 rfl ?_
              refine q_iadd (x14636.toInt + 1) rfl (by omega) (fun v14849 hv14849 => ?_)
              refine q_putI (Sh.int hI14847.1 kx_188 rfl) rfl ?_
              have hI14850 := HI.wI1 hI14847 kx_188 rfl (p := 188) (b := 16) (v := v14849) rfl (by dsimp only; omega)
              have hF14851 := Fr.wI (p := 188) (b := 16) (v := v14849) hF14848 rfl
              refine Ar.fall 174 rfl ?_
              refine At.enter rfl ?_
              refine q_iinc e14828 (x14635.toInt + 1) rfl (by omega) (fun v14852 hv14852 => ?_)
              refine r_goto ?_
              exact ih14642 (8 - v14852.toInt) _ _ ⟨v14852, v14849, by first | rfl | omega, hI14850, hF14851, (gI_sI_eq hI14847.1 kx_188 rfl _), (w_p1 (by decide) (Or.inr rfl) e14825), (w_p1 (by decide) (Or.inr rfl) e14826), (w_p1 (by decide) (Or.inr rfl) e14827), (w_e1 _ _ _), by omega, by omega, by omega⟩ ⟨by omega, by omega⟩
            · have c14846_ : v14844.toInt < v14845.toInt := en_j_ge_f c14846
              refine At.enter rfl ?_
              refine r_aload_n e14825 ?_
              refine q_getR (Sh.ref hI14819.1 kx_188 rfl) ?_
              refine r_iload e14830 ?_
              refine r_aload_n e14825 ?_
              refine q_getR (Sh.ref hI14819.1 kx_188 rfl) ?_
              refine r_iload e14830 ?_
              refine r_iconst 1 rfl ?_
              refine q_isub (x14817.toInt - 1) rfl (by omega) (fun v14853 hv14853 => ?_)
              refine q_iald (Sh.arr hI14819.1 ka_202) (x14817.toInt + (-1)) (by omega) (by omega) v14843 hv14843 ?_
              refine q_iast (Sh.arr hI14819.1 ka_202) (x14817.toInt) rfl (by omega) ?_
              have hI14854 := HI.wA1 hI14819 ka_202 (p := 202) rfl rfl (x14817.toInt) (v := v14843) (by dsimp only; omega)
              have hF14855 := Fr.wA (p := 202) (j := x14817.toInt) (v := v14843) hF14820 rfl
              refine q_iinc e14830 (x14817.toInt + (-1)) rfl (by omega) (fun v14856 hv14856 => ?_)
              refine r_goto ?_
              exact ih14823 (v14856.toInt - 0) _ _ ⟨v14856, by first | rfl | omega, hI14854, hF14855, ((gI_sW).trans e14824), (w_p1 (by decide) (Or.inr rfl) e14825), (w_p1 (by decide) (Or.inr rfl) e14826), (w_p1 (by decide) (Or.inr rfl) e14827), (w_p1 (by decide) (Or.inr rfl) e14828), (w_p1 (by decide) (Or.inr rfl) e14829), (w_e1 _ _ _), by omega, by omega⟩ ⟨by omega, by omega⟩
