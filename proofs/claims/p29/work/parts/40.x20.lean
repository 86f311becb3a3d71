def F_X2_incomeBy_223 : List (Nat × Nat) := [(185, 3)]
def A_X2_incomeBy_223 : List Nat := [226]
theorem ma_X2_gets_223_225 : memA A_X2_gets_223 225 = false := by decide
theorem ma_X2_gets_223_5 : memA A_X2_gets_223 5 = false := by decide
theorem mf_X2_gets_223_1_4 : memF F_X2_gets_223 1 4 = false := by decide
set_option maxRecDepth 100000 in
set_option maxHeartbeats 4000000 in
theorem T_X2_incomeBy_223 (d : Nat) {N : Nat} {g0 : List en_E} (hI0 : HI g0) (a1 : Int32) (a2 : Int32) : Ev (d + 5) 47 [.ref 223, .int a1, .int a2] (g0, N) (fun w h' => ∃ g', h' = (g', N) ∧ HI g' ∧ Fr F_X2_incomeBy_223 A_X2_incomeBy_223 g0 g' ∧ ∃ r : Int32, w = some (.int r) ∧ True ∧ INB g0 g' a1.toInt a2.toInt r.toInt) := by
  have hF0 : Fr F_X2_incomeBy_223 A_X2_incomeBy_223 g0 g0 := Fr.rf
  refine Ev.mk rfl rfl ⟨Nat.le_of_ble_eq_true rfl, Or.inr (q_rc hI0.1 kx_223 rfl)⟩ ?_
  show At _ none _ _ (0, [(0, .ref 223), (1, .int a1), (2, .int a2)], [], (_, _)) _
  refine At.enter rfl ?_
  refine r_iconst 0 rfl ?_
  refine r_istore_n ([(3, .int 0), (0, .ref 223), (1, .int a1), (2, .int a2)]) rfl ?_
  refine r_iconst 0 rfl ?_
  refine r_istore ([(4, .int 0), (3, .int 0), (0, .ref 223), (1, .int a1), (2, .int a2)]) rfl ?_
  refine Ar.fall 5 rfl ?_
  have z_785 : (0 : Int32).toInt = 0 := rfl
  have z_786 : (0 : Int32).toInt = 0 := rfl
  refine w_loopI (fun n_ l_ g_ => ∃ x769 : Int32, ∃ x770 : Int32, n_ = 8 - x770.toInt ∧ HI g_ ∧ Fr F_X2_incomeBy_223 A_X2_incomeBy_223 g0 g_ ∧ en_get 0 l_ = some (.ref 223) ∧ en_get 1 l_ = some (.int a1) ∧ en_get 2 l_ = some (.int a2) ∧ en_get 3 l_ = some (.int x769) ∧ en_get 4 l_ = some (.int x770) ∧ (0 ≤ x770.toInt ∧ x770.toInt ≤ 8) ∧ (INL g0 g_ a1.toInt a2.toInt x770.toInt x769.toInt) ∧ (x770.toInt ≤ (gI g0 1 4).toInt ∨ x770.toInt = 0)) ?_ (8 - 0) ⟨0, 0, by first | rfl | omega, hI0, hF0, rfl, rfl, rfl, rfl, rfl, by decide, (INL_z (FSX_fr hF0 rfl) (rfl) (rfl) (rfl) rfl rfl), (Or.inr rfl)⟩
  rintro n775 l774 g771 ⟨x769, x770, hm787, hI772, hF773, e777, e778, e779, e780, e781, r782, q783, q784⟩ ih776
  refine At.enter rfl ?_
  refine r_iload e781 ?_
  refine r_aload_n e777 ?_
  refine q_getR (Sh.ref hI772.1 kx_223 rfl) ?_
  obtain ⟨v788, hv788⟩ : ∃ v, gI g0 1 4 = v := ⟨_, rfl⟩
  have rv788 := RgF.at hI0.2.1 (p := 1) (b := 4) rfl
  rw [hv788] at rv788
  dsimp only at rv788
  refine q_getI (Sh.int hI772.1 kx_1 rfl) v788 ((hF773.1 1 4 (by decide)).trans hv788) ?_
  have bv790 := q_bnd x770
  have bv791 := q_bnd v788
  refine r_ics 17 rfl (fun c789 => ?_) (fun c789 => ?_)
  · have c789_ : x770.toInt ≥ v788.toInt := en_i_ge_t c789
    refine At.enter rfl ?_
    refine r_iload_n e780 ?_
    refine r_ireti ?_
    exact ⟨_, rfl, hI772, hF773, _, rfl, trivial, (INB_mk q783 (by have y := congrArg Int32.toInt hv788; omega) rfl)⟩
  · have c789_ : x770.toInt < v788.toInt := en_i_ge_f c789
    refine At.enter rfl ?_
    refine r_aload_n e777 ?_
    refine q_getR (Sh.ref hI772.1 kx_223 rfl) ?_
    refine r_iload e781 ?_
    obtain ⟨v792, hv792⟩ : ∃ v, eA g0 225 x770.toInt = v := ⟨_, rfl⟩
    refine q_iald (Sh.arr hI772.1 ka_225) x770.toInt rfl (by omega) v792 ((eA_c (hF773.2.1 225 (by decide))).trans hv792) ?_
    refine r_iconst (-1) rfl ?_
    refine r_ics 28 rfl (fun c793 => ?_) (fun c793 => ?_)
    · have c793_ : v792.toInt = (-1) := en_i_eq_t c793
      refine At.enter rfl ?_
      refine q_iinc e781 (x770.toInt + 1) rfl (by omega) (fun v794 hv794 => ?_)
      refine r_goto ?_
      have bv795 := q_bnd x769
      exact ih776 (8 - v794.toInt) _ _ ⟨x769, v794, by first | rfl | omega, hI772, hF773, (w_p1 (by decide) (Or.inr rfl) e777), (w_p1 (by decide) (Or.inr rfl) e778), (w_p1 (by decide) (Or.inr rfl) e779), (w_p1 (by decide) (Or.inr rfl) e780), (w_e1 _ _ _), by omega, (INL_no q783 FSX_rf rfl rfl rfl (by have y := congrArg Int32.toInt hv792; omega) (by omega) (by have y := congrArg Int32.toInt hv788; omega) (by omega) rfl), (Or.inl (by have y := congrArg Int32.toInt hv788; omega))⟩ ⟨by omega, by omega⟩
    · have c793_ : v792.toInt ≠ (-1) := en_i_eq_f c793
      refine At.enter rfl ?_
      refine r_aload_n e777 ?_
      refine r_iload e781 ?_
      refine r_iload_n e778 ?_
      refine r_iload_n e779 ?_
      refine r_callV 36 rfl [.ref 223, .int x770, .int a1, .int a2] [] (Nat.le_of_ble_eq_true rfl) rfl (T_X2_gets_223 _ hI772 x770 a1 a2) ?_
      rintro _ _ ⟨g796, rfl, hI797, hF798, v799, rfl, hr800⟩
      refine At.sti ?_
      have hF801 := Fr.tr hF773 hF798 rfl rfl
      refine At.enter rfl ?_
      refine r_istore _ rfl ?_
      refine r_iload (w_e1 _ _ _) ?_
      refine r_aload_n (w_p1 (by decide) (Or.inr rfl) e777) ?_
      refine q_getR (Sh.ref hI797.1 kx_223 rfl) ?_
      refine r_iload (w_p1 (by decide) (Or.inr rfl) e781) ?_
      refine q_iald (Sh.arr hI797.1 ka_225) x770.toInt rfl (by omega) v792 ((eA_c ((hF798.2.1 225 ma_X2_gets_223_225).trans (hF773.2.1 225 (by decide)))).trans hv792) ?_
      refine q_iaddO (fun v802 ov802 => ?_)
      refine r_aload_n (w_p1 (by decide) (Or.inr rfl) e777) ?_
      refine q_getR (Sh.ref hI797.1 kx_223 rfl) ?_
      refine r_iload (w_p1 (by decide) (Or.inr rfl) e781) ?_
      refine r_iconst 5 rfl ?_
      refine r_callV 58 rfl [.ref 1, .int x770, .int 5] [.int v802] (Nat.le_of_ble_eq_true rfl) rfl (T_X0_about_1 _ hI797 x770 5) ?_
      rintro _ _ ⟨g803, rfl, hI804, hF805, v806, rfl, hr807⟩
      refine At.sti ?_
      have ks810 := hr807.2.2
      have hr809 : _ ∧ _ := ⟨hr807.1, hr807.2.1⟩
      have hF808 := Fr.tr hF801 hF805 rfl rfl
      have zv811 : (5 : Int32).toInt = 5 := rfl
      have ab812 : ABX g0 x770.toInt 5 v806.toInt := ABX.c (((hF798.2.1 5 ma_X2_gets_223_5).trans (hF773.2.1 5 (by decide)))) (((hF798.1 1 4 mf_X2_gets_223_1_4).trans (hF773.1 1 4 (by decide)))) hr809.2
      refine At.enter rfl ?_
      have bv814 := q_bnd v802
      have bv815 := q_bnd v806
      refine r_ics 61 rfl (fun c813 => ?_) (fun c813 => ?_)
      · have c813_ : v802.toInt > v806.toInt := en_i_gt_t c813
        refine At.enter rfl ?_
        refine q_iinc (w_p1 (by decide) (Or.inr rfl) e781) (x770.toInt + 1) rfl (by omega) (fun v816 hv816 => ?_)
        refine r_goto ?_
        have bv817 := q_bnd x769
        exact ih776 (8 - v816.toInt) _ _ ⟨x769, v816, by first | rfl | omega, hI804, hF808, (w_p1 (by decide) (Or.inr rfl) (w_p1 (by decide) (Or.inr rfl) e777)), (w_p1 (by decide) (Or.inr rfl) (w_p1 (by decide) (Or.inr rfl) e778)), (w_p1 (by decide) (Or.inr rfl) (w_p1 (by decide) (Or.inr rfl) e779)), (w_p1 (by decide) (Or.inr rfl) (w_p1 (by decide) (Or.inr rfl) e780)), (w_e1 _ _ _), by omega, (INL_ye q783 (FSX_fr hF773 rfl) hr800.2 (FSX_fr hF805 rfl) (hF805.1 223 5 mf_X0_about_1_223_5) (hF805.1 223 6 mf_X0_about_1_223_6) (hF805.2.1 226 ma_X0_about_1_226) (congrArg Int32.toInt hv792) (by omega) ov802 ab812 (by omega) (by omega) (by have y := congrArg Int32.toInt hv788; omega) (by omega) (Or.inr ⟨by omega, rfl⟩)), (Or.inl (by have y := congrArg Int32.toInt hv788; omega))⟩ ⟨by omega, by omega⟩
      · have c813_ : v802.toInt ≤ v806.toInt := en_i_gt_f c813
        refine At.enter rfl ?_
        refine r_iload_n (w_p1 (by decide) (Or.inr rfl) e780) ?_
        refine r_iload (w_e1 _ _ _) ?_
        refine q_iaddO (fun v818 ov818 => ?_)
        refine r_istore_n _ rfl ?_
        refine Ar.fall 66 rfl ?_
        refine At.enter rfl ?_
        refine q_iinc (w_p1 (by decide) (Or.inr rfl) (w_p1 (by decide) (Or.inr rfl) e781)) (x770.toInt + 1) rfl (by omega) (fun v819 hv819 => ?_)
        refine r_goto ?_
        have bv820 := q_bnd v818
        exact ih776 (8 - v819.toInt) _ _ ⟨v818, v819, by first | rfl | omega, hI804, hF808, (w_p1 (by decide) (Or.inr rfl) (w_p1 (by decide) (Or.inr rfl) (w_p1 (by decide) (Or.inr rfl) e777))), (w_p1 (by decide) (Or.inr rfl) (w_p1 (by decide) (Or.inr rfl) (w_p1 (by decide) (Or.inr rfl) e778))), (w_p1 (by decide) (Or.inr rfl) (w_p1 (by decide) (Or.inr rfl) (w_p1 (by decide) (Or.inr rfl) e779))), (w_p1 (by decide) (Or.inr rfl) (w_e1 _ _ _)), (w_e1 _ _ _), by omega, (INL_ye q783 (FSX_fr hF773 rfl) hr800.2 (FSX_fr hF805 rfl) (hF805.1 223 5 mf_X0_about_1_223_5) (hF805.1 223 6 mf_X0_about_1_223_6) (hF805.2.1 226 ma_X0_about_1_226) (congrArg Int32.toInt hv792) (by omega) ov802 ab812 (by omega) (by omega) (by have y := congrArg Int32.toInt hv788; omega) (by omega) (Or.inl ⟨by omega, ov818⟩)), (Or.inl (by have y := congrArg Int32.toInt hv788; omega))⟩ ⟨by omega, by omega⟩

def F_X2_seekAnswer_223 : List (Nat × Nat) := [(185, 3), (223, 7), (223, 8), (223, 9)]
def A_X2_seekAnswer_223 : List Nat := [225, 226]
theorem ma_X2_incomeBy_223_225 : memA A_X2_incomeBy_223 225 = false := by decide
theorem mf_X2_incomeBy_223_223_8 : memF F_X2_incomeBy_223 223 8 = false := by decide
theorem mf_X2_incomeBy_223_223_7 : memF F_X2_incomeBy_223 223 7 = false := by decide
theorem mf_X2_incomeBy_223_223_9 : memF F_X2_incomeBy_223 223 9 = false := by decide
theorem ma_X2_costBeside_223_225 : memA A_X2_costBeside_223 225 = false := by decide
set_option maxRecDepth 100000 in
set_option maxHeartbeats 4000000 in
theorem T_X2_seekAnswer_223 (d : Nat) {N : Nat} {g0 : List en_E} (hI0 : HI g0) (a1 : Int32) (h_a1 : 0 ≤ a1.toInt ∧ a1.toInt ≤ 11) : Ev (d + 6) 46 [.ref 223, .int a1] (g0, N) (fun w h' => ∃ g', h' = (g', N) ∧ HI g' ∧ Fr F_X2_seekAnswer_223 A_X2_seekAnswer_223 g0 g' ∧ w = none ∧ SAP g0 g' a1.toInt) := by
  have hF0 : Fr F_X2_seekAnswer_223 A_X2_seekAnswer_223 g0 g0 := Fr.rf
  refine Ev.mk rfl rfl ⟨Nat.le_of_ble_eq_true rfl, Or.inr (q_rc hI0.1 kx_223 rfl)⟩ ?_
  show At _ none _ _ (0, [(0, .ref 223), (1, .int a1)], [], (_, _)) _
  refine At.enter rfl ?_
  refine r_iconst 0 rfl ?_
  refine r_istore_n ([(2, .int 0), (0, .ref 223), (1, .int a1)]) rfl ?_
  refine Ar.fall 2 rfl ?_
  have z_7653 : (0 : Int32).toInt = 0 := rfl
  refine w_loopI (fun n_ l_ g_ => ∃ x7640 : Int32, n_ = 8 - x7640.toInt ∧ HI g_ ∧ Fr F_X2_seekAnswer_223 A_X2_seekAnswer_223 g0 g_ ∧ en_get 0 l_ = some (.ref 223) ∧ en_get 1 l_ = some (.int a1) ∧ en_get 2 l_ = some (.int x7640) ∧ (0 ≤ x7640.toInt ∧ x7640.toInt ≤ 8) ∧ (OTL g0 g_ a1.toInt x7640.toInt) ∧ (x7640.toInt ≤ (gI g0 1 4).toInt ∨ x7640.toInt = 0)) ?_ (8 - 0) ⟨0, by first | rfl | omega, hI0, hF0, rfl, rfl, rfl, by decide, (OTL_z (FSX_fr hF0 rfl) (rfl) (rfl) (rfl) rfl), (Or.inr rfl)⟩
  rintro n7645 l7644 g7641 ⟨x7640, hm7654, hI7642, hF7643, e7647, e7648, e7649, r7650, q7651, q7652⟩ ih7646
  refine At.enter rfl ?_
  refine r_iload_n e7649 ?_
  refine r_aload_n e7647 ?_
  refine q_getR (Sh.ref hI7642.1 kx_223 rfl) ?_
  obtain ⟨v7655, hv7655⟩ : ∃ v, gI g0 1 4 = v := ⟨_, rfl⟩
  have rv7655 := RgF.at hI0.2.1 (p := 1) (b := 4) rfl
  rw [hv7655] at rv7655
  dsimp only at rv7655
  refine q_getI (Sh.int hI7642.1 kx_1 rfl) v7655 ((hF7643.1 1 4 (by decide)).trans hv7655) ?_
  have bv7657 := q_bnd x7640
  have bv7658 := q_bnd v7655
  refine r_ics 13 rfl (fun c7656 => ?_) (fun c7656 => ?_)
  · have c7656_ : x7640.toInt ≥ v7655.toInt := en_i_ge_t c7656
    refine At.enter rfl ?_
    refine r_aload_n e7647 ?_
    refine r_aload_n e7647 ?_
    refine r_iload_n e7648 ?_
    refine r_aload_n e7647 ?_
    refine q_getR (Sh.ref hI7642.1 kx_223 rfl) ?_
    refine r_iload_n e7648 ?_
    obtain ⟨v7659, hv7659⟩ : ∃ v, eA g0 224 a1.toInt = v := ⟨_, rfl⟩
    refine q_iald (Sh.arr hI7642.1 ka_224) a1.toInt rfl (by omega) v7659 ((eA_c (hF7643.2.1 224 (by decide))).trans hv7659) ?_
    refine r_callV 43 rfl [.ref 223, .int a1, .int v7659] [.ref 223] (Nat.le_of_ble_eq_true rfl) rfl (T_X2_incomeBy_223 _ hI7642 a1 v7659) ?_
    rintro _ _ ⟨g7660, rfl, hI7661, hF7662, v7663, rfl, hr7664⟩
    refine At.sti ?_
    have hF7665 := Fr.tr hF7643 hF7662 rfl rfl
    refine At.enter rfl ?_
    refine q_putI (Sh.int hI7661.1 kx_223 rfl) rfl ?_
    have hI7666 := HI.wI0 hI7661 kx_223 rfl (p := 223) (b := 9) (v := v7663) rfl
    have hF7667 := Fr.wI (p := 223) (b := 9) (v := v7663) hF7665 rfl
    refine r_aload_n e7647 ?_
    refine r_iconst 0 rfl ?_
    refine q_putI (Sh.int hI7666.1 kx_223 rfl) rfl ?_
    have hI7668 := HI.wI0 hI7666 kx_223 rfl (p := 223) (b := 7) (v := 0) rfl
    have hF7669 := Fr.wI (p := 223) (b := 7) (v := 0) hF7667 rfl
    refine r_aload_n e7647 ?_
    refine r_iconst (-1) rfl ?_
    refine q_putI (Sh.int hI7668.1 kx_223 rfl) rfl ?_
    have hI7670 := HI.wI0 hI7668 kx_223 rfl (p := 223) (b := 8) (v := (-1)) rfl
    have hF7671 := Fr.wI (p := 223) (b := 8) (v := (-1)) hF7669 rfl
    refine r_iconst 0 rfl ?_
    refine r_istore_n _ rfl ?_
    refine Ar.fall 58 rfl ?_
    have z_7951 : (0 : Int32).toInt = 0 := rfl
    have x7952 := HI.eqI hI7670 (p := 223) (b := 7) (((gI_sI_ne (by decide)).trans (gI_sI_eq hI7666.1 kx_223 rfl _)))
    have zv7953 : (0 : Int32).toInt = 0 := rfl
    have x7954 := HI.eqI hI7670 (p := 223) (b := 8) ((gI_sI_eq hI7668.1 kx_223 rfl _))
    have zv7955 : ((-1) : Int32).toInt = (-1) := rfl
    have x7956 := HI.eqI hI7670 (p := 223) (b := 9) (((gI_sI_ne (by decide)).trans ((gI_sI_ne (by decide)).trans (gI_sI_eq hI7661.1 kx_223 rfl _))))
    refine w_loopI (fun n_ l_ g_ => ∃ x7938 : Int32, n_ = 100 - x7938.toInt ∧ HI g_ ∧ Fr F_X2_seekAnswer_223 A_X2_seekAnswer_223 g0 g_ ∧ en_get 0 l_ = some (.ref 223) ∧ en_get 1 l_ = some (.int a1) ∧ en_get 2 l_ = some (.int x7938) ∧ (0 ≤ x7938.toInt ∧ x7938.toInt ≤ 100) ∧ (AML g0 g_ a1.toInt x7938.toInt (gI g_ 223 8).toInt (gI g_ 223 7).toInt) ∧ (SAI g0 g_ a1.toInt (gI g_ 223 9).toInt)) ?_ (100 - 0) ⟨0, by first | rfl | omega, hI7670, hF7671, (w_p1 (by decide) (Or.inr rfl) e7647), (w_p1 (by decide) (Or.inr rfl) e7648), (w_e1 _ _ _), by decide, (AML_z (OTL_l q7651 (show x7640.toInt = (gI g0 1 4).toInt from by have y := congrArg Int32.toInt hv7655; omega)) hr7664.2 (FSX_tr (FSX_tr (FSX_tr FSX_rf (FSX_I rfl rfl)) (FSX_I rfl rfl)) (FSX_I rfl rfl)) (((gI_sI_ne (by decide)).trans ((gI_sI_ne (by decide)).trans (gI_sI_ne (by decide))))) (((gI_sI_ne (by decide)).trans ((gI_sI_ne (by decide)).trans (gI_sI_ne (by decide))))) (((gA_sI).trans ((gA_sI).trans (gA_sI)))) ((gA_sI).trans ((gA_sI).trans ((gA_sI).trans (hF7662.2.1 225 ma_X2_incomeBy_223_225)))) rfl (show (gI _ 223 8).toInt = -1 from by omega) (show (gI _ 223 7).toInt = 0 from by omega)), (SAI_e (SAI_mk (OTL_l q7651 (show x7640.toInt = (gI g0 1 4).toInt from by have y := congrArg Int32.toInt hv7655; omega)) (FSX_fr hF7643 rfl) (hF7643.2.1 224 (by decide)) (INB_f hr7664.2 ((eA_ti (hF7643.2.1 224 (by decide))).trans (congrArg Int32.toInt hv7659)).symm)) (show (gI _ 223 9).toInt = v7663.toInt from by omega))⟩
    rintro n7943 l7942 g7939 ⟨x7938, hm7957, hI7940, hF7941, e7945, e7946, e7947, r7948, q7949, q7950⟩ ih7944
    refine At.enter rfl ?_
    refine r_iload_n e7947 ?_
    refine r_bipush 100 rfl ?_
    refine r_ics 64 rfl (fun c7958 => ?_) (fun c7958 => ?_)
    · have c7958_ : x7938.toInt ≥ 100 := en_i_ge_t c7958
      refine At.enter rfl ?_
      refine r_vret ?_
      exact ⟨_, rfl, hI7940, hF7941, rfl, (SAP_mk q7949 (by omega) q7950 rfl rfl rfl)⟩
    · have c7958_ : x7938.toInt < 100 := en_i_ge_f c7958
      refine At.enter rfl ?_
      refine r_aload_n e7945 ?_
      refine r_iload_n e7946 ?_
      refine r_iload_n e7947 ?_
      refine r_callV 70 rfl [.ref 223, .int a1, .int x7938] [] (Nat.le_of_ble_eq_true rfl) rfl (T_X2_incomeBy_223 _ hI7940 a1 x7938) ?_
      rintro _ _ ⟨g7959, rfl, hI7960, hF7961, v7962, rfl, hr7963⟩
      refine At.sti ?_
      have hF7964 := Fr.tr hF7941 hF7961 rfl rfl
      refine At.enter rfl ?_
      refine r_istore_n _ rfl ?_
      refine r_iload_n (w_e1 _ _ _) ?_
      refine r_aload_n (w_p1 (by decide) (Or.inr rfl) e7945) ?_
      obtain ⟨v7965, hv7965⟩ : ∃ v, gI g7939 223 8 = v := ⟨_, rfl⟩
      refine q_getI (Sh.int hI7960.1 kx_223 rfl) v7965 ((hF7961.1 223 8 mf_X2_incomeBy_223_223_8).trans hv7965) ?_
      have bv7967 := q_bnd v7962
      have bv7968 := q_bnd v7965
      refine r_ics 79 rfl (fun c7966 => ?_) (fun c7966 => ?_)
      · have c7966_ : v7962.toInt ≤ v7965.toInt := en_i_le_t c7966
        refine At.enter rfl ?_
        refine q_iinc (w_p1 (by decide) (Or.inr rfl) e7947) (x7938.toInt + 1) rfl (by omega) (fun v7969 hv7969 => ?_)
        refine r_goto ?_
        obtain ⟨v7970, hv7970⟩ : ∃ v, gI g7939 223 7 = v := ⟨_, rfl⟩
        have tv7970 := congrArg Int32.toInt hv7970
        have x7971 := HI.eqI hI7960 (p := 223) (b := 7) (((hF7961.1 223 7 mf_X2_incomeBy_223_223_7).trans hv7970))
        have x7972 := HI.eqI hI7960 (p := 223) (b := 8) (((hF7961.1 223 8 mf_X2_incomeBy_223_223_8).trans hv7965))
        obtain ⟨v7973, hv7973⟩ : ∃ v, gI g7939 223 9 = v := ⟨_, rfl⟩
        have tv7973 := congrArg Int32.toInt hv7973
        have x7974 := HI.eqI hI7960 (p := 223) (b := 9) (((hF7961.1 223 9 mf_X2_incomeBy_223_223_9).trans hv7973))
        have x7976 := HI.eqI hI7940 (p := 223) (b := 8) (hv7965)
        exact ih7944 (100 - v7969.toInt) _ _ ⟨v7969, by first | rfl | omega, hI7960, hF7964, (w_p1 (by decide) (Or.inr rfl) (w_p1 (by decide) (Or.inr rfl) e7945)), (w_p1 (by decide) (Or.inr rfl) (w_p1 (by decide) (Or.inr rfl) e7946)), (w_e1 _ _ _), by omega, (AML_s q7949 (FSX_fr hF7941 rfl) (hF7941.2.1 224 (by decide)) hr7963.2 FSX_rf (rfl) (rfl) (rfl) ((hF7961.2.1 225 ma_X2_incomeBy_223_225)) (by omega) (by omega) (by omega) (by first | exact Or.inl ⟨by omega, by omega, by omega⟩ | exact Or.inr ⟨by omega, by omega, by omega⟩)), (SAI_e q7950 (show (gI _ 223 9).toInt = (gI g7939 223 9).toInt from by omega))⟩ ⟨by omega, by omega⟩
      · have c7966_ : v7962.toInt > v7965.toInt := en_i_le_f c7966
        refine At.enter rfl ?_
        refine r_aload_n (w_p1 (by decide) (Or.inr rfl) e7945) ?_
        refine r_iload_n (w_e1 _ _ _) ?_
        refine q_putI (Sh.int hI7960.1 kx_223 rfl) rfl ?_
        have hI7978 := HI.wI0 hI7960 kx_223 rfl (p := 223) (b := 8) (v := v7962) rfl
        have hF7979 := Fr.wI (p := 223) (b := 8) (v := v7962) hF7964 rfl
        refine r_aload_n (w_p1 (by decide) (Or.inr rfl) e7945) ?_
        refine r_iload_n (w_p1 (by decide) (Or.inr rfl) e7947) ?_
        refine q_putI (Sh.int hI7978.1 kx_223 rfl) rfl ?_
        have hI7980 := HI.wI0 hI7978 kx_223 rfl (p := 223) (b := 7) (v := x7938) rfl
        have hF7981 := Fr.wI (p := 223) (b := 7) (v := x7938) hF7979 rfl
        refine Ar.fall 89 rfl ?_
        refine At.enter rfl ?_
        refine q_iinc (w_p1 (by decide) (Or.inr rfl) e7947) (x7938.toInt + 1) rfl (by omega) (fun v7982 hv7982 => ?_)
        refine r_goto ?_
        have x7983 := HI.eqI hI7980 (p := 223) (b := 7) ((gI_sI_eq hI7978.1 kx_223 rfl _))
        have x7984 := HI.eqI hI7980 (p := 223) (b := 8) (((gI_sI_ne (by decide)).trans (gI_sI_eq hI7960.1 kx_223 rfl _)))
        obtain ⟨v7985, hv7985⟩ : ∃ v, gI g7939 223 9 = v := ⟨_, rfl⟩
        have tv7985 := congrArg Int32.toInt hv7985
        have x7986 := HI.eqI hI7980 (p := 223) (b := 9) ((((gI_sI_ne (by decide)).trans ((gI_sI_ne (by decide)).trans (hF7961.1 223 9 mf_X2_incomeBy_223_223_9))).trans hv7985))
        obtain ⟨v7987, hv7987⟩ : ∃ v, gI g7939 223 7 = v := ⟨_, rfl⟩
        have tv7987 := congrArg Int32.toInt hv7987
        have x7989 := HI.eqI hI7940 (p := 223) (b := 8) (hv7965)
        exact ih7944 (100 - v7982.toInt) _ _ ⟨v7982, by first | rfl | omega, hI7980, hF7981, (w_p1 (by decide) (Or.inr rfl) (w_p1 (by decide) (Or.inr rfl) e7945)), (w_p1 (by decide) (Or.inr rfl) (w_p1 (by decide) (Or.inr rfl) e7946)), (w_e1 _ _ _), by omega, (AML_s q7949 (FSX_fr hF7941 rfl) (hF7941.2.1 224 (by decide)) hr7963.2 (FSX_tr (FSX_tr FSX_rf (FSX_I rfl rfl)) (FSX_I rfl rfl)) (((gI_sI_ne (by decide)).trans (gI_sI_ne (by decide)))) (((gI_sI_ne (by decide)).trans (gI_sI_ne (by decide)))) (((gA_sI).trans (gA_sI))) (((gA_sI).trans ((gA_sI).trans (hF7961.2.1 225 ma_X2_incomeBy_223_225)))) (by omega) (by omega) (by omega) (by first | exact Or.inl ⟨by omega, by omega, by omega⟩ | exact Or.inr ⟨by omega, by omega, by omega⟩)), (SAI_e q7950 (show (gI _ 223 9).toInt = (gI g7939 223 9).toInt from by omega))⟩ ⟨by omega, by omega⟩
  · have c7656_ : x7640.toInt < v7655.toInt := en_i_ge_f c7656
    refine At.enter rfl ?_
    refine r_aload_n e7647 ?_
    refine q_getR (Sh.ref hI7642.1 kx_223 rfl) ?_
    refine r_iload_n e7649 ?_
    refine r_aload_n e7647 ?_
    refine r_iload_n e7649 ?_
    refine r_iload_n e7648 ?_
    refine r_callV 24 rfl [.ref 223, .int x7640, .int a1] [.int x7640, .ref 225] (Nat.le_of_ble_eq_true rfl) rfl (T_X2_costBeside_223 _ hI7642 x7640 a1) ?_
    rintro _ _ ⟨g7991, rfl, hI7992, hF7993, v7994, rfl, hr7995⟩
    refine At.sti ?_
    have hF7996 := Fr.tr hF7643 hF7993 rfl rfl
    refine At.enter rfl ?_
    refine q_iast (Sh.arr hI7992.1 ka_225) (x7640.toInt) rfl (by omega) ?_
    have hI7997 := HI.wA0 hI7992 ka_225 (p := 225) rfl rfl (x7640.toInt) (v7994)
    have hF7998 := Fr.wA (p := 225) (j := x7640.toInt) (v := v7994) hF7996 rfl
    refine q_iinc e7649 (x7640.toInt + 1) rfl (by omega) (fun v7999 hv7999 => ?_)
    refine r_goto ?_
    exact ih7646 (8 - v7999.toInt) _ _ ⟨v7999, by first | rfl | omega, hI7997, hF7998, (w_p1 (by decide) (Or.inr rfl) e7647), (w_p1 (by decide) (Or.inr rfl) e7648), (w_e1 _ _ _), by omega, (OTL_s q7651 (FSX_fr hF7643 rfl) (hF7643.2.1 224 (by decide)) hr7995.2 (hF7993.2.1 225 ma_X2_costBeside_223_225) hI7992.1 (by omega) (by omega) (by have y := congrArg Int32.toInt hv7655; omega) (by omega)), (Or.inl (by have y := congrArg Int32.toInt hv7655; omega))⟩ ⟨by omega, by omega⟩

def F_X2_begin_223 : List (Nat × Nat) := [(223, 5), (223, 6)]
def A_X2_begin_223 : List Nat := [224, 226]
theorem mf_X4_speaksOf_law_223_5 : memF F_X4_speaksOf_law 223 5 = false := by decide
theorem mf_X0_lawAt_1_223_5 : memF F_X0_lawAt_1 223 5 = false := by decide
theorem ma_X4_speaksOf_law_224 : memA A_X4_speaksOf_law 224 = false := by decide
theorem ma_X0_lawAt_1_224 : memA A_X0_lawAt_1 224 = false := by decide
set_option maxRecDepth 100000 in
set_option maxHeartbeats 4000000 in
theorem T_X2_begin_223 (d : Nat) {N : Nat} {g0 : List en_E} (hI0 : HI g0) : Ev (d + 3) 45 [.ref 223] (g0, N) (fun w h' => ∃ g', h' = (g', N) ∧ HI g' ∧ Fr F_X2_begin_223 A_X2_begin_223 g0 g' ∧ w = none ∧ BGP g0 g') := by
  have hF0 : Fr F_X2_begin_223 A_X2_begin_223 g0 g0 := Fr.rf
  refine Ev.mk rfl rfl ⟨Nat.le_of_ble_eq_true rfl, Or.inr (q_rc hI0.1 kx_223 rfl)⟩ ?_
  show At _ none _ _ (0, [(0, .ref 223)], [], (_, _)) _
  refine At.enter rfl ?_
  refine r_aload_n rfl ?_
  refine q_getR (Sh.ref hI0.1 kx_223 rfl) ?_
  refine q_getR (Sh.ref hI0.1 kx_1 rfl) ?_
  refine r_iconst 0 rfl ?_
  refine r_aload_n rfl ?_
  refine q_getR (Sh.ref hI0.1 kx_223 rfl) ?_
  refine r_iconst 0 rfl ?_
  refine r_bipush 12 rfl ?_
  have zv329 : (0 : Int32).toInt = 0 := rfl
  have zv330 : (0 : Int32).toInt = 0 := rfl
  have zv331 : (12 : Int32).toInt = 12 := rfl
  refine q_cpy rfl (Nat.le_of_ble_eq_true rfl) (Sh.arr hI0.1 ka_4) (Sh.arr hI0.1 ka_224) ⟨by omega, by omega, by omega, by omega, by omega⟩ ?_
  have hI332 := HI.cpy0 hI0 ka_4 ka_224 rfl rfl ((0 : Int32).toInt.toNat) ((0 : Int32).toInt.toNat) ((12 : Int32).toInt.toNat) (by omega) (by omega)
  have hF333 := Fr.cpy (p0 := 4) (p1 := 224) hF0 rfl ((0 : Int32).toInt.toNat) ((0 : Int32).toInt.toNat) ((12 : Int32).toInt.toNat)
  refine r_aload_n rfl ?_
  obtain ⟨v334, hv334⟩ : ∃ v, gI g0 223 5 = v := ⟨_, rfl⟩
  refine q_getI (Sh.int hI332.1 kx_223 rfl) v334 ((gI_sW).trans hv334) ?_
  refine r_ifs 25 rfl (fun c335 => ?_) (fun c335 => ?_)
  · have c335_ : v334.toInt ≠ 0 := en_k_ne_t c335
    refine At.enter rfl ?_
    refine r_vret ?_
    exact ⟨_, rfl, hI332, hF333, rfl, (BGP_old (FSX_fr hF333 rfl) (by rw [hv334]; omega) gI_sW gI_sW (gA_sW_ne (by decide)) (gA_cpF hI0.1 ka_4 ka_224 rfl rfl rfl))⟩
  · have c335_ : v334.toInt = 0 := en_k_ne_f c335
    refine At.enter rfl ?_
    refine r_aload_n rfl ?_
    refine r_iconst 1 rfl ?_
    refine q_putI (Sh.int hI332.1 kx_223 rfl) rfl ?_
    have hI336 := HI.wI0 hI332 kx_223 rfl (p := 223) (b := 5) (v := 1) rfl
    have hF337 := Fr.wI (p := 223) (b := 5) (v := 1) hF333 rfl
    refine r_aload_n rfl ?_
    refine r_aload_n rfl ?_
    refine q_getR (Sh.ref hI336.1 kx_223 rfl) ?_
    refine q_inlV 38 rfl [.ref 1] [.ref 223] (Nat.le_of_ble_eq_true rfl) rfl ?_
    refine Ev.mk rfl rfl ⟨Nat.le_of_ble_eq_true rfl, Or.inr (q_rc hI336.1 kx_1 rfl)⟩ ?_
    show At _ none _ _ (0, [(0, .ref 1)], [], (_, _)) _
    refine At.enter rfl ?_
    refine r_aload_n rfl ?_
    refine r_aload_n rfl ?_
    obtain ⟨v338, hv338⟩ : ∃ v, gI g0 1 9 = v := ⟨_, rfl⟩
    refine q_getI (Sh.int hI336.1 kx_1 rfl) v338 (((gI_sI_ne (by decide)).trans (gI_sW)).trans hv338) ?_
    refine r_callV 8 rfl [.ref 1, .int v338] [] (Nat.le_of_ble_eq_true rfl) rfl (T_X0_lawAt_1 _ hI336 v338) ?_
    rintro _ _ ⟨g339, rfl, hI340, hF341, v342, rfl, hr343⟩
    refine At.str ?_
    have ks346 := hr343.2.2
    have hr345 : _ ∧ _ := ⟨hr343.1, hr343.2.1⟩
    have hr345_ := hr345.1
    have hF344 := Fr.tr hF337 hF341 rfl rfl
    refine At.enter rfl ?_
    refine q_aret ?_
    refine At.enter rfl ?_
    refine r_iconst 1 rfl ?_
    refine r_callV 42 rfl [.ref (v342), .int 1] [.ref 223] (Nat.le_of_ble_eq_true rfl) rfl (T_X4_speaksOf_law _ hI340 (v342) hr345_ 1) ?_
    rintro _ _ ⟨g347, rfl, hI348, hF349, v350, rfl, hr351⟩
    refine At.sti ?_
    have hF352 := Fr.tr hF344 hF349 rfl rfl
    have zv353 : (1 : Int32).toInt = 1 := rfl
    refine At.enter rfl ?_
    refine q_putI (Sh.int hI348.1 kx_223 rfl) (q_fitb (by omega)) ?_
    have hI354 := HI.wI0 hI348 kx_223 rfl (p := 223) (b := 6) (v := v350) rfl
    have hF355 := Fr.wI (p := 223) (b := 6) (v := v350) hF352 rfl
    refine r_aload_n rfl ?_
    refine q_getI (Sh.int hI354.1 kx_223 rfl) v350 (gI_sI_eq hI348.1 kx_223 rfl _) ?_
    refine r_ifs 52 rfl (fun c356 => ?_) (fun c356 => ?_)
    · have c356_ : v350.toInt = 0 := en_k_eq_t c356
      refine At.enter rfl ?_
      refine r_vret ?_
      exact ⟨_, rfl, hI354, hF355, rfl, (BGP_new (FSX_fr hF355 rfl) (by rw [((gI_sI_ne (by decide)).trans ((hF349.1 223 5 mf_X4_speaksOf_law_223_5).trans ((hF341.1 223 5 mf_X0_lawAt_1_223_5).trans (gI_sI_eq hI332.1 kx_223 rfl _))))]; decide) (by rw [(gI_sI_eq hI348.1 kx_223 rfl _)]; exact (BGP_spk (FSX_fr hF344 rfl) (show v342 = QFX g0 from by unfold QFX; rw [hv338]; exact hr345.2) hr351.2)) (Or.inl (by rw [(gI_sI_eq hI348.1 kx_223 rfl _)]; omega)) ((gA_sI).trans ((hF349.2.1 224 ma_X4_speaksOf_law_224).trans ((hF341.2.1 224 ma_X0_lawAt_1_224).trans ((gA_sI).trans (gA_cpF hI0.1 ka_4 ka_224 rfl rfl rfl))))))⟩
    · have c356_ : v350.toInt ≠ 0 := en_k_eq_f c356
      refine At.enter rfl ?_
      refine r_aload_n rfl ?_
      refine q_getR (Sh.ref hI354.1 kx_223 rfl) ?_
      refine r_iconst (-1) rfl ?_
      refine q_inlS 60 rfl [.ref 226, .int (-1)] [] (Nat.le_of_ble_eq_true rfl) rfl ?_
      refine Ev.mk rfl rfl ⟨Nat.le_of_ble_eq_true rfl, Or.inl rfl⟩ ?_
      show At _ none _ _ (0, [(0, .ref 226), (1, .int (-1))], [], (_, _)) _
      refine At.enter rfl ?_
      refine r_iconst 0 rfl ?_
      refine r_istore_n ([(2, .int 0), (0, .ref 226), (1, .int (-1))]) rfl ?_
      refine r_aload_n rfl ?_
      refine r_alen (Sh.arr hI354.1 ka_226).1 (by decide) 9600 (by unfold en_sz; dsimp only; rw [(Sh.arr hI354.1 ka_226).2]; rfl) ?_
      refine r_istore_n ([(3, .int 9600), (2, .int 0), (0, .ref 226), (1, .int (-1))]) rfl ?_
      refine Ar.fall 5 rfl ?_
      have z_487 : (0 : Int32).toInt = 0 := rfl
      refine w_loopI (fun n_ l_ g_ => ∃ x471 : Int32, n_ = 9600 - x471.toInt ∧ HI g_ ∧ Fr F_X2_begin_223 A_X2_begin_223 g0 g_ ∧ en_get 0 l_ = some (.ref 226) ∧ en_get 1 l_ = some (.int (-1)) ∧ en_get 2 l_ = some (.int x471) ∧ en_get 3 l_ = some (.int 9600) ∧ (0 ≤ x471.toInt ∧ x471.toInt ≤ 9600) ∧ (∀ j : Int, 0 ≤ j → j < x471.toInt → (eA g_ 226 j).toInt = -1) ∧ (gI g_ 223 5 = 1) ∧ (gI g_ 223 6 = v350) ∧ (gA g_ 224 = gA g0 4)) ?_ (9600 - 0) ⟨0, by first | rfl | omega, hI354, hF355, rfl, rfl, rfl, rfl, by decide, (fun j j0 j1 => absurd j1 (by omega)), (((gI_sI_ne (by decide)).trans ((hF349.1 223 5 mf_X4_speaksOf_law_223_5).trans ((hF341.1 223 5 mf_X0_lawAt_1_223_5).trans (gI_sI_eq hI332.1 kx_223 rfl _))))), ((gI_sI_eq hI348.1 kx_223 rfl _)), ((gA_sI).trans ((hF349.2.1 224 ma_X4_speaksOf_law_224).trans ((hF341.2.1 224 ma_X0_lawAt_1_224).trans ((gA_sI).trans (gA_cpF hI0.1 ka_4 ka_224 rfl rfl rfl)))))⟩
      rintro n476 l475 g472 ⟨x471, hm488, hI473, hF474, e478, e479, e480, e481, r482, q483, q484, q485, q486⟩ ih477
      refine At.enter rfl ?_
      refine r_iload_n e480 ?_
      refine r_iload_n e481 ?_
      refine r_ics 10 rfl (fun c489 => ?_) (fun c489 => ?_)
      · have c489_ : x471.toInt ≥ 9600 := en_i_ge_t c489
        refine At.enter rfl ?_
        refine q_vret ?_
        refine At.enter rfl ?_
        refine r_vret ?_
        exact ⟨_, rfl, hI473, hF474, rfl, (BGP_new (FSX_fr hF474 rfl) (by rw [q484]; decide) (by rw [q485]; exact (BGP_spk (FSX_fr hF344 rfl) (show v342 = QFX g0 from by unfold QFX; rw [hv338]; exact hr345.2) hr351.2)) (Or.inr (fun j j0 j1 => q483 j j0 (by omega))) q486)⟩
      · have c489_ : x471.toInt < 9600 := en_i_ge_f c489
        refine At.enter rfl ?_
        refine r_aload_n e478 ?_
        refine r_iload_n e480 ?_
        refine r_iload_n e479 ?_
        refine q_iast (Sh.arr hI473.1 ka_226) (x471.toInt) rfl (by omega) ?_
        have hI490 := HI.wA0 hI473 ka_226 (p := 226) rfl rfl (x471.toInt) ((-1))
        have hF491 := Fr.wA (p := 226) (j := x471.toInt) (v := (-1)) hF474 rfl
        refine q_iinc e480 (x471.toInt + 1) rfl (by omega) (fun v492 hv492 => ?_)
        refine r_goto ?_
        exact ih477 (9600 - v492.toInt) _ _ ⟨v492, by first | rfl | omega, hI490, hF491, (w_p1 (by decide) (Or.inr rfl) e478), (w_p1 (by decide) (Or.inr rfl) e479), (w_e1 _ _ _), (w_p1 (by decide) (Or.inr rfl) e481), by omega, (FLL_s q483 hI473.1 rfl (by omega) (by omega) (by omega)), (gI_sW.trans q484), (gI_sW.trans q485), ((gA_sA_ne (by decide)).trans q486)⟩ ⟨by omega, by omega⟩
