def F_X2_incomeBy_223 : List (Nat × Nat) := [(185, 3)]
def A_X2_incomeBy_223 : List Nat := [226]
theorem ma_X2_gets_223_225 : memA A_X2_gets_223 225 = false := by decide
set_option maxRecDepth 100000 in
set_option maxHeartbeats 4000000 in
theorem T_X2_incomeBy_223 (d : Nat) {N : Nat} {g0 : List en_E} (hI0 : HI g0) (a1 : Int32) (a2 : Int32) : Ev (d + 5) 47 [.ref 223, .int a1, .int a2] (g0, N) (fun w h' => ∃ g', h' = (g', N) ∧ HI g' ∧ Fr F_X2_incomeBy_223 A_X2_incomeBy_223 g0 g' ∧ ∃ r : Int32, w = some (.int r) ∧ True) := by
  have hF0 : Fr F_X2_incomeBy_223 A_X2_incomeBy_223 g0 g0 := Fr.rf
  refine Ev.mk rfl rfl ⟨Nat.le_of_ble_eq_true rfl, Or.inr (q_rc hI0.1 kx_223 rfl)⟩ ?_
  show At _ none _ _ (0, [(0, .ref 223), (1, .int a1), (2, .int a2)], [], (_, _)) _
  refine At.enter rfl ?_
  refine r_iconst 0 rfl ?_
  refine r_istore_n ([(3, .int 0), (0, .ref 223), (1, .int a1), (2, .int a2)]) rfl ?_
  refine r_iconst 0 rfl ?_
  refine r_istore ([(4, .int 0), (3, .int 0), (0, .ref 223), (1, .int a1), (2, .int a2)]) rfl ?_
  refine Ar.fall 5 rfl ?_
  have z_713 : (0 : Int32).toInt = 0 := rfl
  have z_714 : (0 : Int32).toInt = 0 := rfl
  refine w_loopI (fun n_ l_ g_ => ∃ x699 : Int32, ∃ x700 : Int32, n_ = 8 - x700.toInt ∧ HI g_ ∧ Fr F_X2_incomeBy_223 A_X2_incomeBy_223 g0 g_ ∧ en_get 0 l_ = some (.ref 223) ∧ en_get 1 l_ = some (.int a1) ∧ en_get 2 l_ = some (.int a2) ∧ en_get 3 l_ = some (.int x699) ∧ en_get 4 l_ = some (.int x700) ∧ (0 ≤ x700.toInt ∧ x700.toInt ≤ 8)) ?_ (8 - 0) ⟨0, 0, by first | rfl | omega, hI0, hF0, rfl, rfl, rfl, rfl, rfl, by decide⟩
  rintro n705 l704 g701 ⟨x699, x700, hm715, hI702, hF703, e707, e708, e709, e710, e711, r712⟩ ih706
  refine At.enter rfl ?_
  refine r_iload e711 ?_
  refine r_aload_n e707 ?_
  refine q_getR (Sh.ref hI702.1 kx_223 rfl) ?_
  obtain ⟨v716, hv716⟩ : ∃ v, gI g0 1 4 = v := ⟨_, rfl⟩
  have rv716 := RgF.at hI0.2.1 (p := 1) (b := 4) rfl
  rw [hv716] at rv716
  dsimp only at rv716
  refine q_getI (Sh.int hI702.1 kx_1 rfl) v716 ((hF703.1 1 4 (by decide)).trans hv716) ?_
  have bv718 := q_bnd x700
  have bv719 := q_bnd v716
  refine r_ics 17 rfl (fun c717 => ?_) (fun c717 => ?_)
  · have c717_ : x700.toInt ≥ v716.toInt := en_i_ge_t c717
    refine At.enter rfl ?_
    refine r_iload_n e710 ?_
    refine r_ireti ?_
    exact ⟨_, rfl, hI702, hF703, _, rfl, trivial⟩
  · have c717_ : x700.toInt < v716.toInt := en_i_ge_f c717
    refine At.enter rfl ?_
    refine r_aload_n e707 ?_
    refine q_getR (Sh.ref hI702.1 kx_223 rfl) ?_
    refine r_iload e711 ?_
    obtain ⟨v720, hv720⟩ : ∃ v, eA g0 225 x700.toInt = v := ⟨_, rfl⟩
    refine q_iald (Sh.arr hI702.1 ka_225) x700.toInt rfl (by omega) v720 ((eA_c (hF703.2.1 225 (by decide))).trans hv720) ?_
    refine r_iconst (-1) rfl ?_
    refine r_ics 28 rfl (fun c721 => ?_) (fun c721 => ?_)
    · have c721_ : v720.toInt = (-1) := en_i_eq_t c721
      refine At.enter rfl ?_
      refine q_iinc e711 (x700.toInt + 1) rfl (by omega) (fun v722 hv722 => ?_)
      refine r_goto ?_
      have bv723 := q_bnd x699
      exact ih706 (8 - v722.toInt) _ _ ⟨x699, v722, by first | rfl | omega, hI702, hF703, (w_p1 (by decide) (Or.inr rfl) e707), (w_p1 (by decide) (Or.inr rfl) e708), (w_p1 (by decide) (Or.inr rfl) e709), (w_p1 (by decide) (Or.inr rfl) e710), (w_e1 _ _ _), by omega⟩ ⟨by omega, by omega⟩
    · have c721_ : v720.toInt ≠ (-1) := en_i_eq_f c721
      refine At.enter rfl ?_
      refine r_aload_n e707 ?_
      refine r_iload e711 ?_
      refine r_iload_n e708 ?_
      refine r_iload_n e709 ?_
      refine r_callV 36 rfl [.ref 223, .int x700, .int a1, .int a2] [] (Nat.le_of_ble_eq_true rfl) rfl (T_X2_gets_223 _ hI702 x700 a1 a2) ?_
      rintro _ _ ⟨g724, rfl, hI725, hF726, v727, rfl, hr728⟩
      refine At.sti ?_
      have hF729 := Fr.tr hF703 hF726 rfl rfl
      refine At.enter rfl ?_
      refine r_istore _ rfl ?_
      refine r_iload (w_e1 _ _ _) ?_
      refine r_aload_n (w_p1 (by decide) (Or.inr rfl) e707) ?_
      refine q_getR (Sh.ref hI725.1 kx_223 rfl) ?_
      refine r_iload (w_p1 (by decide) (Or.inr rfl) e711) ?_
      refine q_iald (Sh.arr hI725.1 ka_225) x700.toInt rfl (by omega) v720 ((eA_c ((hF726.2.1 225 ma_X2_gets_223_225).trans (hF703.2.1 225 (by decide)))).trans hv720) ?_
      refine q_iaddO (fun v730 _ => ?_)
      refine r_aload_n (w_p1 (by decide) (Or.inr rfl) e707) ?_
      refine q_getR (Sh.ref hI725.1 kx_223 rfl) ?_
      refine r_iload (w_p1 (by decide) (Or.inr rfl) e711) ?_
      refine r_iconst 5 rfl ?_
      refine r_callV 58 rfl [.ref 1, .int x700, .int 5] [.int v730] (Nat.le_of_ble_eq_true rfl) rfl (T_X0_about_1 _ hI725 x700 5) ?_
      rintro _ _ ⟨g731, rfl, hI732, hF733, v734, rfl, hr735⟩
      refine At.sti ?_
      have hF736 := Fr.tr hF729 hF733 rfl rfl
      refine At.enter rfl ?_
      have bv738 := q_bnd v730
      have bv739 := q_bnd v734
      refine r_ics 61 rfl (fun c737 => ?_) (fun c737 => ?_)
      · have c737_ : v730.toInt > v734.toInt := en_i_gt_t c737
        refine At.enter rfl ?_
        refine q_iinc (w_p1 (by decide) (Or.inr rfl) e711) (x700.toInt + 1) rfl (by omega) (fun v740 hv740 => ?_)
        refine r_goto ?_
        have bv741 := q_bnd x699
        exact ih706 (8 - v740.toInt) _ _ ⟨x699, v740, by first | rfl | omega, hI732, hF736, (w_p1 (by decide) (Or.inr rfl) (w_p1 (by decide) (Or.inr rfl) e707)), (w_p1 (by decide) (Or.inr rfl) (w_p1 (by decide) (Or.inr rfl) e708)), (w_p1 (by decide) (Or.inr rfl) (w_p1 (by decide) (Or.inr rfl) e709)), (w_p1 (by decide) (Or.inr rfl) (w_p1 (by decide) (Or.inr rfl) e710)), (w_e1 _ _ _), by omega⟩ ⟨by omega, by omega⟩
      · have c737_ : v730.toInt ≤ v734.toInt := en_i_gt_f c737
        refine At.enter rfl ?_
        refine r_iload_n (w_p1 (by decide) (Or.inr rfl) e710) ?_
        refine r_iload (w_e1 _ _ _) ?_
        refine q_iaddO (fun v742 _ => ?_)
        refine r_istore_n _ rfl ?_
        refine Ar.fall 66 rfl ?_
        refine At.enter rfl ?_
        refine q_iinc (w_p1 (by decide) (Or.inr rfl) (w_p1 (by decide) (Or.inr rfl) e711)) (x700.toInt + 1) rfl (by omega) (fun v743 hv743 => ?_)
        refine r_goto ?_
        have bv744 := q_bnd v742
        exact ih706 (8 - v743.toInt) _ _ ⟨v742, v743, by first | rfl | omega, hI732, hF736, (w_p1 (by decide) (Or.inr rfl) (w_p1 (by decide) (Or.inr rfl) (w_p1 (by decide) (Or.inr rfl) e707))), (w_p1 (by decide) (Or.inr rfl) (w_p1 (by decide) (Or.inr rfl) (w_p1 (by decide) (Or.inr rfl) e708))), (w_p1 (by decide) (Or.inr rfl) (w_p1 (by decide) (Or.inr rfl) (w_p1 (by decide) (Or.inr rfl) e709))), (w_p1 (by decide) (Or.inr rfl) (w_e1 _ _ _)), (w_e1 _ _ _), by omega⟩ ⟨by omega, by omega⟩

def F_X2_seekAnswer_223 : List (Nat × Nat) := [(185, 3), (223, 7), (223, 8), (223, 9)]
def A_X2_seekAnswer_223 : List Nat := [225, 226]
theorem mf_X2_incomeBy_223_223_8 : memF F_X2_incomeBy_223 223 8 = false := by decide
set_option maxRecDepth 100000 in
set_option maxHeartbeats 4000000 in
theorem T_X2_seekAnswer_223 (d : Nat) {N : Nat} {g0 : List en_E} (hI0 : HI g0) (a1 : Int32) (h_a1 : 0 ≤ a1.toInt ∧ a1.toInt ≤ 11) : Ev (d + 6) 46 [.ref 223, .int a1] (g0, N) (fun w h' => ∃ g', h' = (g', N) ∧ HI g' ∧ Fr F_X2_seekAnswer_223 A_X2_seekAnswer_223 g0 g' ∧ w = none) := by
  have hF0 : Fr F_X2_seekAnswer_223 A_X2_seekAnswer_223 g0 g0 := Fr.rf
  refine Ev.mk rfl rfl ⟨Nat.le_of_ble_eq_true rfl, Or.inr (q_rc hI0.1 kx_223 rfl)⟩ ?_
  show At _ none _ _ (0, [(0, .ref 223), (1, .int a1)], [], (_, _)) _
  refine At.enter rfl ?_
  refine r_iconst 0 rfl ?_
  refine r_istore_n ([(2, .int 0), (0, .ref 223), (1, .int a1)]) rfl ?_
  refine Ar.fall 2 rfl ?_
  have z_7486 : (0 : Int32).toInt = 0 := rfl
  refine w_loopI (fun n_ l_ g_ => ∃ x7475 : Int32, n_ = 8 - x7475.toInt ∧ HI g_ ∧ Fr F_X2_seekAnswer_223 A_X2_seekAnswer_223 g0 g_ ∧ en_get 0 l_ = some (.ref 223) ∧ en_get 1 l_ = some (.int a1) ∧ en_get 2 l_ = some (.int x7475) ∧ (0 ≤ x7475.toInt ∧ x7475.toInt ≤ 8)) ?_ (8 - 0) ⟨0, by first | rfl | omega, hI0, hF0, rfl, rfl, rfl, by decide⟩
  rintro n7480 l7479 g7476 ⟨x7475, hm7487, hI7477, hF7478, e7482, e7483, e7484, r7485⟩ ih7481
  refine At.enter rfl ?_
  refine r_iload_n e7484 ?_
  refine r_aload_n e7482 ?_
  refine q_getR (Sh.ref hI7477.1 kx_223 rfl) ?_
  obtain ⟨v7488, hv7488⟩ : ∃ v, gI g0 1 4 = v := ⟨_, rfl⟩
  have rv7488 := RgF.at hI0.2.1 (p := 1) (b := 4) rfl
  rw [hv7488] at rv7488
  dsimp only at rv7488
  refine q_getI (Sh.int hI7477.1 kx_1 rfl) v7488 ((hF7478.1 1 4 (by decide)).trans hv7488) ?_
  have bv7490 := q_bnd x7475
  have bv7491 := q_bnd v7488
  refine r_ics 13 rfl (fun c7489 => ?_) (fun c7489 => ?_)
  · have c7489_ : x7475.toInt ≥ v7488.toInt := en_i_ge_t c7489
    refine At.enter rfl ?_
    refine r_aload_n e7482 ?_
    refine r_aload_n e7482 ?_
    refine r_iload_n e7483 ?_
    refine r_aload_n e7482 ?_
    refine q_getR (Sh.ref hI7477.1 kx_223 rfl) ?_
    refine r_iload_n e7483 ?_
    obtain ⟨v7492, hv7492⟩ : ∃ v, eA g0 224 a1.toInt = v := ⟨_, rfl⟩
    refine q_iald (Sh.arr hI7477.1 ka_224) a1.toInt rfl (by omega) v7492 ((eA_c (hF7478.2.1 224 (by decide))).trans hv7492) ?_
    refine r_callV 43 rfl [.ref 223, .int a1, .int v7492] [.ref 223] (Nat.le_of_ble_eq_true rfl) rfl (T_X2_incomeBy_223 _ hI7477 a1 v7492) ?_
    rintro _ _ ⟨g7493, rfl, hI7494, hF7495, v7496, rfl, hr7497⟩
    refine At.sti ?_
    have hF7498 := Fr.tr hF7478 hF7495 rfl rfl
    refine At.enter rfl ?_
    refine q_putI (Sh.int hI7494.1 kx_223 rfl) rfl ?_
    have hI7499 := HI.wI0 hI7494 kx_223 rfl (p := 223) (b := 9) (v := v7496) rfl
    have hF7500 := Fr.wI (p := 223) (b := 9) (v := v7496) hF7498 rfl
    refine r_aload_n e7482 ?_
    refine r_iconst 0 rfl ?_
    refine q_putI (Sh.int hI7499.1 kx_223 rfl) rfl ?_
    have hI7501 := HI.wI0 hI7499 kx_223 rfl (p := 223) (b := 7) (v := 0) rfl
    have hF7502 := Fr.wI (p := 223) (b := 7) (v := 0) hF7500 rfl
    refine r_aload_n e7482 ?_
    refine r_iconst (-1) rfl ?_
    refine q_putI (Sh.int hI7501.1 kx_223 rfl) rfl ?_
    have hI7503 := HI.wI0 hI7501 kx_223 rfl (p := 223) (b := 8) (v := (-1)) rfl
    have hF7504 := Fr.wI (p := 223) (b := 8) (v := (-1)) hF7502 rfl
    refine r_iconst 0 rfl ?_
    refine r_istore_n _ rfl ?_
    refine Ar.fall 58 rfl ?_
    have z_7782 : (0 : Int32).toInt = 0 := rfl
    refine w_loopI (fun n_ l_ g_ => ∃ x7771 : Int32, n_ = 100 - x7771.toInt ∧ HI g_ ∧ Fr F_X2_seekAnswer_223 A_X2_seekAnswer_223 g0 g_ ∧ en_get 0 l_ = some (.ref 223) ∧ en_get 1 l_ = some (.int a1) ∧ en_get 2 l_ = some (.int x7771) ∧ (0 ≤ x7771.toInt ∧ x7771.toInt ≤ 100)) ?_ (100 - 0) ⟨0, by first | rfl | omega, hI7503, hF7504, (w_p1 (by decide) (Or.inr rfl) e7482), (w_p1 (by decide) (Or.inr rfl) e7483), (w_e1 _ _ _), by decide⟩
    rintro n7776 l7775 g7772 ⟨x7771, hm7783, hI7773, hF7774, e7778, e7779, e7780, r7781⟩ ih7777
    refine At.enter rfl ?_
    refine r_iload_n e7780 ?_
    refine r_bipush 100 rfl ?_
    refine r_ics 64 rfl (fun c7784 => ?_) (fun c7784 => ?_)
    · have c7784_ : x7771.toInt ≥ 100 := en_i_ge_t c7784
      refine At.enter rfl ?_
      refine r_vret ?_
      exact ⟨_, rfl, hI7773, hF7774, rfl⟩
    · have c7784_ : x7771.toInt < 100 := en_i_ge_f c7784
      refine At.enter rfl ?_
      refine r_aload_n e7778 ?_
      refine r_iload_n e7779 ?_
      refine r_iload_n e7780 ?_
      refine r_callV 70 rfl [.ref 223, .int a1, .int x7771] [] (Nat.le_of_ble_eq_true rfl) rfl (T_X2_incomeBy_223 _ hI7773 a1 x7771) ?_
      rintro _ _ ⟨g7785, rfl, hI7786, hF7787, v7788, rfl, hr7789⟩
      refine At.sti ?_
      have hF7790 := Fr.tr hF7774 hF7787 rfl rfl
      refine At.enter rfl ?_
      refine r_istore_n _ rfl ?_
      refine r_iload_n (w_e1 _ _ _) ?_
      refine r_aload_n (w_p1 (by decide) (Or.inr rfl) e7778) ?_
      obtain ⟨v7791, hv7791⟩ : ∃ v, gI g7772 223 8 = v := ⟨_, rfl⟩
      refine q_getI (Sh.int hI7786.1 kx_223 rfl) v7791 ((hF7787.1 223 8 mf_X2_incomeBy_223_223_8).trans hv7791) ?_
      have bv7793 := q_bnd v7788
      have bv7794 := q_bnd v7791
      refine r_ics 79 rfl (fun c7792 => ?_) (fun c7792 => ?_)
      · have c7792_ : v7788.toInt ≤ v7791.toInt := en_i_le_t c7792
        refine At.enter rfl ?_
        refine q_iinc (w_p1 (by decide) (Or.inr rfl) e7780) (x7771.toInt + 1) rfl (by omega) (fun v7795 hv7795 => ?_)
        refine r_goto ?_
        exact ih7777 (100 - v7795.toInt) _ _ ⟨v7795, by first | rfl | omega, hI7786, hF7790, (w_p1 (by decide) (Or.inr rfl) (w_p1 (by decide) (Or.inr rfl) e7778)), (w_p1 (by decide) (Or.inr rfl) (w_p1 (by decide) (Or.inr rfl) e7779)), (w_e1 _ _ _), by omega⟩ ⟨by omega, by omega⟩
      · have c7792_ : v7788.toInt > v7791.toInt := en_i_le_f c7792
        refine At.enter rfl ?_
        refine r_aload_n (w_p1 (by decide) (Or.inr rfl) e7778) ?_
        refine r_iload_n (w_e1 _ _ _) ?_
        refine q_putI (Sh.int hI7786.1 kx_223 rfl) rfl ?_
        have hI7796 := HI.wI0 hI7786 kx_223 rfl (p := 223) (b := 8) (v := v7788) rfl
        have hF7797 := Fr.wI (p := 223) (b := 8) (v := v7788) hF7790 rfl
        refine r_aload_n (w_p1 (by decide) (Or.inr rfl) e7778) ?_
        refine r_iload_n (w_p1 (by decide) (Or.inr rfl) e7780) ?_
        refine q_putI (Sh.int hI7796.1 kx_223 rfl) rfl ?_
        have hI7798 := HI.wI0 hI7796 kx_223 rfl (p := 223) (b := 7) (v := x7771) rfl
        have hF7799 := Fr.wI (p := 223) (b := 7) (v := x7771) hF7797 rfl
        refine Ar.fall 89 rfl ?_
        refine At.enter rfl ?_
        refine q_iinc (w_p1 (by decide) (Or.inr rfl) e7780) (x7771.toInt + 1) rfl (by omega) (fun v7800 hv7800 => ?_)
        refine r_goto ?_
        exact ih7777 (100 - v7800.toInt) _ _ ⟨v7800, by first | rfl | omega, hI7798, hF7799, (w_p1 (by decide) (Or.inr rfl) (w_p1 (by decide) (Or.inr rfl) e7778)), (w_p1 (by decide) (Or.inr rfl) (w_p1 (by decide) (Or.inr rfl) e7779)), (w_e1 _ _ _), by omega⟩ ⟨by omega, by omega⟩
  · have c7489_ : x7475.toInt < v7488.toInt := en_i_ge_f c7489
    refine At.enter rfl ?_
    refine r_aload_n e7482 ?_
    refine q_getR (Sh.ref hI7477.1 kx_223 rfl) ?_
    refine r_iload_n e7484 ?_
    refine r_aload_n e7482 ?_
    refine r_iload_n e7484 ?_
    refine r_iload_n e7483 ?_
    refine r_callV 24 rfl [.ref 223, .int x7475, .int a1] [.int x7475, .ref 225] (Nat.le_of_ble_eq_true rfl) rfl (T_X2_costBeside_223 _ hI7477 x7475 a1) ?_
    rintro _ _ ⟨g7801, rfl, hI7802, hF7803, v7804, rfl, hr7805⟩
    refine At.sti ?_
    have hF7806 := Fr.tr hF7478 hF7803 rfl rfl
    refine At.enter rfl ?_
    refine q_iast (Sh.arr hI7802.1 ka_225) (x7475.toInt) rfl (by omega) ?_
    have hI7807 := HI.wA0 hI7802 ka_225 (p := 225) rfl rfl (x7475.toInt) (v7804)
    have hF7808 := Fr.wA (p := 225) (j := x7475.toInt) (v := v7804) hF7806 rfl
    refine q_iinc e7484 (x7475.toInt + 1) rfl (by omega) (fun v7809 hv7809 => ?_)
    refine r_goto ?_
    exact ih7481 (8 - v7809.toInt) _ _ ⟨v7809, by first | rfl | omega, hI7807, hF7808, (w_p1 (by decide) (Or.inr rfl) e7482), (w_p1 (by decide) (Or.inr rfl) e7483), (w_e1 _ _ _), by omega⟩ ⟨by omega, by omega⟩

def F_X2_begin_223 : List (Nat × Nat) := [(223, 5), (223, 6)]
def A_X2_begin_223 : List Nat := [224, 226]
set_option maxRecDepth 100000 in
set_option maxHeartbeats 4000000 in
theorem T_X2_begin_223 (d : Nat) {N : Nat} {g0 : List en_E} (hI0 : HI g0) : Ev (d + 3) 45 [.ref 223] (g0, N) (fun w h' => ∃ g', h' = (g', N) ∧ HI g' ∧ Fr F_X2_begin_223 A_X2_begin_223 g0 g' ∧ w = none) := by
  have hF0 : Fr F_X2_begin_223 A_X2_begin_223 g0 g0 := Fr.rf
  refine Ev.mk rfl rfl ⟨Nat.le_of_ble_eq_true rfl, Or.inr (q_rc hI0.1 kx_223 rfl)⟩ ?_
  show At _ none _ _ (0, [(0, .ref 223)], [], (_, _)) _
  refine At.enter rfl ?_
  refine r_aload_n rfl ?_
  refine q_getR (Sh.ref hI0.1 kx_223 rfl) ?_
  refine q_getR (Sh.ref hI0.1 kx_1 rfl) ?_
  refine r_iconst 0 rfl ?_
  refine r_aload_n rfl ?_
  refine q_getR (Sh.ref hI0.1 kx_223 rfl) ?_
  refine r_iconst 0 rfl ?_
  refine r_bipush 12 rfl ?_
  have zv315 : (0 : Int32).toInt = 0 := rfl
  have zv316 : (0 : Int32).toInt = 0 := rfl
  have zv317 : (12 : Int32).toInt = 12 := rfl
  refine q_cpy rfl (Nat.le_of_ble_eq_true rfl) (Sh.arr hI0.1 ka_4) (Sh.arr hI0.1 ka_224) ⟨by omega, by omega, by omega, by omega, by omega⟩ ?_
  have hI318 := HI.cpy0 hI0 ka_4 ka_224 rfl rfl ((0 : Int32).toInt.toNat) ((0 : Int32).toInt.toNat) ((12 : Int32).toInt.toNat) (by omega) (by omega)
  have hF319 := Fr.cpy (p0 := 4) (p1 := 224) hF0 rfl ((0 : Int32).toInt.toNat) ((0 : Int32).toInt.toNat) ((12 : Int32).toInt.toNat)
  refine r_aload_n rfl ?_
  obtain ⟨v320, hv320⟩ : ∃ v, gI g0 223 5 = v := ⟨_, rfl⟩
  refine q_getI (Sh.int hI318.1 kx_223 rfl) v320 ((gI_sW).trans hv320) ?_
  refine r_ifs 25 rfl (fun c321 => ?_) (fun c321 => ?_)
  · have c321_ : v320.toInt ≠ 0 := en_k_ne_t c321
    refine At.enter rfl ?_
    refine r_vret ?_
    exact ⟨_, rfl, hI318, hF319, rfl⟩
  · have c321_ : v320.toInt = 0 := en_k_ne_f c321
    refine At.enter rfl ?_
    refine r_aload_n rfl ?_
    refine r_iconst 1 rfl ?_
    refine q_putI (Sh.int hI318.1 kx_223 rfl) rfl ?_
    have hI322 := HI.wI0 hI318 kx_223 rfl (p := 223) (b := 5) (v := 1) rfl
    have hF323 := Fr.wI (p := 223) (b := 5) (v := 1) hF319 rfl
    refine r_aload_n rfl ?_
    refine r_aload_n rfl ?_
    refine q_getR (Sh.ref hI322.1 kx_223 rfl) ?_
    refine q_inlV 38 rfl [.ref 1] [.ref 223] (Nat.le_of_ble_eq_true rfl) rfl ?_
    refine Ev.mk rfl rfl ⟨Nat.le_of_ble_eq_true rfl, Or.inr (q_rc hI322.1 kx_1 rfl)⟩ ?_
    show At _ none _ _ (0, [(0, .ref 1)], [], (_, _)) _
    refine At.enter rfl ?_
    refine r_aload_n rfl ?_
    refine r_aload_n rfl ?_
    obtain ⟨v324, hv324⟩ : ∃ v, gI g0 1 9 = v := ⟨_, rfl⟩
    refine q_getI (Sh.int hI322.1 kx_1 rfl) v324 (((gI_sI_ne (by decide)).trans (gI_sW)).trans hv324) ?_
    refine r_callV 8 rfl [.ref 1, .int v324] [] (Nat.le_of_ble_eq_true rfl) rfl (T_X0_lawAt_1 _ hI322 v324) ?_
    rintro _ _ ⟨g325, rfl, hI326, hF327, v328, rfl, hr329⟩
    refine At.str ?_
    have hF330 := Fr.tr hF323 hF327 rfl rfl
    refine At.enter rfl ?_
    refine q_aret ?_
    refine At.enter rfl ?_
    refine r_iconst 1 rfl ?_
    refine r_callV 42 rfl [.ref (v328), .int 1] [.ref 223] (Nat.le_of_ble_eq_true rfl) rfl (T_X4_speaksOf_law _ hI326 (v328) hr329 1) ?_
    rintro _ _ ⟨g331, rfl, hI332, hF333, v334, rfl, hr335⟩
    refine At.sti ?_
    have hF336 := Fr.tr hF330 hF333 rfl rfl
    refine At.enter rfl ?_
    refine q_putI (Sh.int hI332.1 kx_223 rfl) (q_fitb (by omega)) ?_
    have hI337 := HI.wI0 hI332 kx_223 rfl (p := 223) (b := 6) (v := v334) rfl
    have hF338 := Fr.wI (p := 223) (b := 6) (v := v334) hF336 rfl
    refine r_aload_n rfl ?_
    refine q_getI (Sh.int hI337.1 kx_223 rfl) v334 (gI_sI_eq hI332.1 kx_223 rfl _) ?_
    refine r_ifs 52 rfl (fun c339 => ?_) (fun c339 => ?_)
    · have c339_ : v334.toInt = 0 := en_k_eq_t c339
      refine At.enter rfl ?_
      refine r_vret ?_
      exact ⟨_, rfl, hI337, hF338, rfl⟩
    · have c339_ : v334.toInt ≠ 0 := en_k_eq_f c339
      refine At.enter rfl ?_
      refine r_aload_n rfl ?_
      refine q_getR (Sh.ref hI337.1 kx_223 rfl) ?_
      refine r_iconst (-1) rfl ?_
      refine q_inlS 60 rfl [.ref 226, .int (-1)] [] (Nat.le_of_ble_eq_true rfl) rfl ?_
      refine Ev.mk rfl rfl ⟨Nat.le_of_ble_eq_true rfl, Or.inl rfl⟩ ?_
      show At _ none _ _ (0, [(0, .ref 226), (1, .int (-1))], [], (_, _)) _
      refine At.enter rfl ?_
      refine r_iconst 0 rfl ?_
      refine r_istore_n ([(2, .int 0), (0, .ref 226), (1, .int (-1))]) rfl ?_
      refine r_aload_n rfl ?_
      refine r_alen (Sh.arr hI337.1 ka_226).1 (by decide) 9600 (by unfold en_sz; dsimp only; rw [(Sh.arr hI337.1 ka_226).2]; rfl) ?_
      refine r_istore_n ([(3, .int 9600), (2, .int 0), (0, .ref 226), (1, .int (-1))]) rfl ?_
      refine Ar.fall 5 rfl ?_
      have z_466 : (0 : Int32).toInt = 0 := rfl
      refine w_loopI (fun n_ l_ g_ => ∃ x454 : Int32, n_ = 9600 - x454.toInt ∧ HI g_ ∧ Fr F_X2_begin_223 A_X2_begin_223 g0 g_ ∧ en_get 0 l_ = some (.ref 226) ∧ en_get 1 l_ = some (.int (-1)) ∧ en_get 2 l_ = some (.int x454) ∧ en_get 3 l_ = some (.int 9600) ∧ (0 ≤ x454.toInt ∧ x454.toInt ≤ 9600)) ?_ (9600 - 0) ⟨0, by first | rfl | omega, hI337, hF338, rfl, rfl, rfl, rfl, by decide⟩
      rintro n459 l458 g455 ⟨x454, hm467, hI456, hF457, e461, e462, e463, e464, r465⟩ ih460
      refine At.enter rfl ?_
      refine r_iload_n e463 ?_
      refine r_iload_n e464 ?_
      refine r_ics 10 rfl (fun c468 => ?_) (fun c468 => ?_)
      · have c468_ : x454.toInt ≥ 9600 := en_i_ge_t c468
        refine At.enter rfl ?_
        refine q_vret ?_
        refine At.enter rfl ?_
        refine r_vret ?_
        exact ⟨_, rfl, hI456, hF457, rfl⟩
      · have c468_ : x454.toInt < 9600 := en_i_ge_f c468
        refine At.enter rfl ?_
        refine r_aload_n e461 ?_
        refine r_iload_n e463 ?_
        refine r_iload_n e462 ?_
        refine q_iast (Sh.arr hI456.1 ka_226) (x454.toInt) rfl (by omega) ?_
        have hI469 := HI.wA0 hI456 ka_226 (p := 226) rfl rfl (x454.toInt) ((-1))
        have hF470 := Fr.wA (p := 226) (j := x454.toInt) (v := (-1)) hF457 rfl
        refine q_iinc e463 (x454.toInt + 1) rfl (by omega) (fun v471 hv471 => ?_)
        refine r_goto ?_
        exact ih460 (9600 - v471.toInt) _ _ ⟨v471, by first | rfl | omega, hI469, hF470, (w_p1 (by decide) (Or.inr rfl) e461), (w_p1 (by decide) (Or.inr rfl) e462), (w_e1 _ _ _), (w_p1 (by decide) (Or.inr rfl) e464), by omega⟩ ⟨by omega, by omega⟩
