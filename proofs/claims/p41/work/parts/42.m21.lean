def F_X11_byNoon_231 : List (Nat × Nat) := []
def A_X11_byNoon_231 : List Nat := []
set_option maxRecDepth 100000 in
set_option maxHeartbeats 4000000 in
theorem T_X11_byNoon_231 (d : Nat) {N : Nat} {g0 : List en_E} (hI0 : HI g0) : Ev (d + 1) 260 [.ref 231] (g0, N) (fun w h' => ∃ g', h' = (g', N) ∧ HI g' ∧ Fr F_X11_byNoon_231 A_X11_byNoon_231 g0 g' ∧ ∃ r : Int32, w = some (.int r) ∧ (0 ≤ r.toInt ∧ r.toInt ≤ 8)) := by
  have hF0 : Fr F_X11_byNoon_231 A_X11_byNoon_231 g0 g0 := Fr.rf
  refine Ev.mk rfl rfl ⟨Nat.le_of_ble_eq_true rfl, Or.inr (q_rc hI0.1 kx_231 rfl)⟩ ?_
  show At _ none _ _ (0, [(0, .ref 231)], [], (_, _)) _
  refine At.enter rfl ?_
  refine r_iconst 0 rfl ?_
  refine r_istore_n ([(1, .int 0), (0, .ref 231)]) rfl ?_
  refine r_iconst 0 rfl ?_
  refine r_istore_n ([(2, .int 0), (1, .int 0), (0, .ref 231)]) rfl ?_
  refine Ar.fall 4 rfl ?_
  have z_1404 : (0 : Int32).toInt = 0 := rfl
  have z_1405 : (0 : Int32).toInt = 0 := rfl
  refine w_loopI (fun n_ l_ g_ => ∃ x1390 : Int32, ∃ x1391 : Int32, n_ = 8 - x1391.toInt ∧ HI g_ ∧ Fr F_X11_byNoon_231 A_X11_byNoon_231 g0 g_ ∧ en_get 0 l_ = some (.ref 231) ∧ en_get 1 l_ = some (.int x1390) ∧ en_get 2 l_ = some (.int x1391) ∧ (0 ≤ x1390.toInt ∧ x1390.toInt ≤ 8) ∧ (0 ≤ x1391.toInt ∧ x1391.toInt ≤ 8) ∧ (x1390.toInt ≤ x1391.toInt)) ?_ (8 - 0) ⟨0, 0, by first | rfl | omega, hI0, hF0, rfl, rfl, rfl, by decide, by decide, by omega⟩
  rintro n1396 l1395 g1392 ⟨x1390, x1391, hm1406, hI1393, hF1394, e1398, e1399, e1400, r1401, r1402, q1403⟩ ih1397
  refine At.enter rfl ?_
  refine r_iload_n e1400 ?_
  refine r_aload_n e1398 ?_
  refine q_getR (Sh.ref hI1393.1 kx_231 rfl) ?_
  refine r_iconst 1 rfl ?_
  obtain ⟨v1407, hv1407⟩ : ∃ v, eA g0 233 1 = v := ⟨_, rfl⟩
  have tv1407 := congrArg Int32.toInt hv1407
  have wv1407 := HI.t1 hI0
  rw [hv1407] at wv1407
  refine q_iald (Sh.arr hI1393.1 ka_233) 1 rfl (by decide) v1407 ((eA_c (hF1394.2.1 233 (by decide))).trans hv1407) ?_
  have bv1409 := q_bnd x1391
  have bv1410 := q_bnd v1407
  refine r_ics 14 rfl (fun c1408 => ?_) (fun c1408 => ?_)
  · have c1408_ : x1391.toInt ≥ v1407.toInt := en_i_ge_t c1408
    refine At.enter rfl ?_
    refine r_iload_n e1399 ?_
    refine r_ireti ?_
    exact ⟨_, rfl, hI1393, hF1394, _, rfl, by omega⟩
  · have c1408_ : x1391.toInt < v1407.toInt := en_i_ge_f c1408
    refine At.enter rfl ?_
    refine r_iload_n e1399 ?_
    refine r_aload_n e1398 ?_
    refine q_getR (Sh.ref hI1393.1 kx_231 rfl) ?_
    refine r_iload_n e1400 ?_
    obtain ⟨v1411, hv1411⟩ : ∃ v, eA g0 253 x1391.toInt = v := ⟨_, rfl⟩
    refine q_iald (Sh.arr hI1393.1 ka_253) x1391.toInt rfl (by omega) v1411 ((eA_c (hF1394.2.1 253 (by decide))).trans hv1411) ?_
    refine r_iconst (-1) rfl ?_
    refine r_ics 25 rfl (fun c1412 => ?_) (fun c1412 => ?_)
    · have c1412_ : v1411.toInt = (-1) := en_i_eq_t c1412
      refine At.enter rfl ?_
      refine r_iconst 0 rfl ?_
      refine Ar.fall 45 rfl ?_
      refine At.enter rfl ?_
      refine q_iadd (x1390.toInt + 0) rfl (by omega) (fun v1413 hv1413 => ?_)
      refine r_istore_n _ rfl ?_
      refine q_iinc (w_p1 (by decide) (Or.inr rfl) e1400) (x1391.toInt + 1) rfl (by omega) (fun v1414 hv1414 => ?_)
      refine r_goto ?_
      exact ih1397 (8 - v1414.toInt) _ _ ⟨v1413, v1414, by first | rfl | omega, hI1393, hF1394, (w_p1 (by decide) (Or.inr rfl) (w_p1 (by decide) (Or.inr rfl) e1398)), (w_p1 (by decide) (Or.inr rfl) (w_e1 _ _ _)), (w_e1 _ _ _), by omega, by omega, by omega⟩ ⟨by omega, by omega⟩
    · have c1412_ : v1411.toInt ≠ (-1) := en_i_eq_f c1412
      refine At.enter rfl ?_
      refine r_aload_n e1398 ?_
      refine q_getR (Sh.ref hI1393.1 kx_231 rfl) ?_
      refine r_iload_n e1400 ?_
      refine q_iald (Sh.arr hI1393.1 ka_253) x1391.toInt rfl (by omega) v1411 ((eA_c (hF1394.2.1 253 (by decide))).trans hv1411) ?_
      refine r_aload_n e1398 ?_
      refine q_getR (Sh.ref hI1393.1 kx_231 rfl) ?_
      refine r_iconst 5 rfl ?_
      obtain ⟨v1415, hv1415⟩ : ∃ v, eA g0 233 5 = v := ⟨_, rfl⟩
      have wv1415 := HI.t5 hI0
      rw [hv1415] at wv1415
      refine q_iald (Sh.arr hI1393.1 ka_233) 5 rfl (by decide) v1415 ((eA_c (hF1394.2.1 233 (by decide))).trans hv1415) ?_
      have bv1417 := q_bnd v1411
      have bv1418 := q_bnd v1415
      refine r_ics 40 rfl (fun c1416 => ?_) (fun c1416 => ?_)
      · have c1416_ : v1411.toInt > v1415.toInt := en_i_gt_t c1416
        refine At.enter rfl ?_
        refine r_iconst 0 rfl ?_
        refine Ar.fall 45 rfl ?_
        refine At.enter rfl ?_
        refine q_iadd (x1390.toInt + 0) rfl (by omega) (fun v1419 hv1419 => ?_)
        refine r_istore_n _ rfl ?_
        refine q_iinc (w_p1 (by decide) (Or.inr rfl) e1400) (x1391.toInt + 1) rfl (by omega) (fun v1420 hv1420 => ?_)
        refine r_goto ?_
        exact ih1397 (8 - v1420.toInt) _ _ ⟨v1419, v1420, by first | rfl | omega, hI1393, hF1394, (w_p1 (by decide) (Or.inr rfl) (w_p1 (by decide) (Or.inr rfl) e1398)), (w_p1 (by decide) (Or.inr rfl) (w_e1 _ _ _)), (w_e1 _ _ _), by omega, by omega, by omega⟩ ⟨by omega, by omega⟩
      · have c1416_ : v1411.toInt ≤ v1415.toInt := en_i_gt_f c1416
        refine At.enter rfl ?_
        refine r_iconst 1 rfl ?_
        refine r_goto ?_
        refine At.enter rfl ?_
        refine q_iadd (x1390.toInt + 1) rfl (by omega) (fun v1421 hv1421 => ?_)
        refine r_istore_n _ rfl ?_
        refine q_iinc (w_p1 (by decide) (Or.inr rfl) e1400) (x1391.toInt + 1) rfl (by omega) (fun v1422 hv1422 => ?_)
        refine r_goto ?_
        exact ih1397 (8 - v1422.toInt) _ _ ⟨v1421, v1422, by first | rfl | omega, hI1393, hF1394, (w_p1 (by decide) (Or.inr rfl) (w_p1 (by decide) (Or.inr rfl) e1398)), (w_p1 (by decide) (Or.inr rfl) (w_e1 _ _ _)), (w_e1 _ _ _), by omega, by omega, by omega⟩ ⟨by omega, by omega⟩

def F_X11_draw_231 : List (Nat × Nat) := [(231, 0), (231, 1), (231, 27), (231, 30), (231, 31), (231, 32), (231, 36), (231, 48), (231, 51)]
def A_X11_draw_231 : List Nat := [232, 246, 247, 248, 250, 251, 252, 253, 254, 255, 256, 257, 258]
theorem ma_X11_run_231_233 : memA A_X11_run_231 233 = false := by decide
set_option maxRecDepth 100000 in
set_option maxHeartbeats 4000000 in
theorem T_X11_draw_231 (d : Nat) {N : Nat} {g0 : List en_E} (hI0 : HI g0) (a1 : Int32) : Ev (d + 8) 261 [.ref 231, .int a1] (g0, N) (fun w h' => ∃ g', h' = (g', N) ∧ HI g' ∧ Fr F_X11_draw_231 A_X11_draw_231 g0 g' ∧ ∃ r : Int32, w = some (.int r) ∧ ((-1) ≤ r.toInt ∧ r.toInt ≤ 8) ∧ (SU3 (0 ≤ a1.toInt ∧ a1.toInt ≤ 1000000) True (gI g' 231 1).toInt)) := by
  have hF0 : Fr F_X11_draw_231 A_X11_draw_231 g0 g0 := Fr.rf
  refine Ev.mk rfl rfl ⟨Nat.le_of_ble_eq_true rfl, Or.inr (q_rc hI0.1 kx_231 rfl)⟩ ?_
  show At _ none _ _ (0, [(0, .ref 231), (1, .int a1)], [], (_, _)) _
  refine At.enter rfl ?_
  refine r_aload_n rfl ?_
  refine r_iconst 0 rfl ?_
  refine q_putI (Sh.int hI0.1 kx_231 rfl) rfl ?_
  have hI40767 := HI.wI0 hI0 kx_231 rfl (p := 231) (b := 0) (v := 0) rfl
  have hF40768 := Fr.wI (p := 231) (b := 0) (v := 0) hF0 rfl
  refine r_iload_n rfl ?_
  refine q_i2l (fun v40769 hv40769 => ?_)
  refine r_lconst 0 rfl ?_
  refine r_ldc2 1000000 rfl ?_
  refine q_inlS 14 rfl [.long v40769, .long 0, .long 1000000] [] (Nat.le_of_ble_eq_true rfl) rfl ?_
  refine Ev.mk rfl rfl ⟨Nat.le_of_ble_eq_true rfl, Or.inl rfl⟩ ?_
  show At _ none _ _ (0, [(0, .long v40769), (2, .long 0), (4, .long 1000000)], [], (_, _)) _
  refine At.enter rfl ?_
  refine r_lload_n rfl ?_
  refine r_lload_n rfl ?_
  refine r_lcmp _ rfl ?_
  refine r_ifs 6 rfl (fun c40770 => ?_) (fun c40770 => ?_)
  · have c40770_ : v40769.toInt < 0 := en_j_lt_t c40770
    refine At.enter rfl ?_
    refine r_iconst 0 rfl ?_
    refine Ar.fall 18 rfl ?_
    refine At.enter rfl ?_
    refine q_iretz (by decide) ?_
    refine At.enter rfl ?_
    refine r_iff 17 rfl (by decide) ?_
    refine At.enter rfl ?_
    refine r_aload_n rfl ?_
    refine r_iconst (-1) rfl ?_
    refine r_callV 22 rfl [.ref 231, .int (-1)] [] (Nat.le_of_ble_eq_true rfl) rfl (T_X11_tell_231 _ hI40767 (-1) (by decide)) ?_
    rintro _ _ ⟨g40771, rfl, hI40772, hF40773, v40774, rfl, hr40775⟩
    refine At.sti ?_
    have hF40776 := Fr.tr hF40768 hF40773 rfl rfl
    have zv40777 : ((-1) : Int32).toInt = (-1) := rfl
    refine At.enter rfl ?_
    refine r_ireti ?_
    obtain ⟨v40778, hv40778⟩ : ∃ v, gI g40771 231 1 = v := ⟨_, rfl⟩
    have tv40778 := congrArg Int32.toInt hv40778
    exact ⟨_, rfl, hI40772, hF40776, _, rfl, by omega, (SU3.mk (by simp only [not_true_eq_false, true_and, and_true, false_and, false_or, or_false]; omega))⟩
  · have c40770_ : v40769.toInt ≥ 0 := en_j_lt_f c40770
    refine At.enter rfl ?_
    refine r_lload_n rfl ?_
    refine r_lload rfl ?_
    refine r_lcmp _ rfl ?_
    refine r_ifs 13 rfl (fun c40780 => ?_) (fun c40780 => ?_)
    · have c40780_ : v40769.toInt > 1000000 := en_j_gt_t c40780
      refine At.enter rfl ?_
      refine r_iconst 0 rfl ?_
      refine Ar.fall 18 rfl ?_
      refine At.enter rfl ?_
      refine q_iretz (by decide) ?_
      refine At.enter rfl ?_
      refine r_iff 17 rfl (by decide) ?_
      refine At.enter rfl ?_
      refine r_aload_n rfl ?_
      refine r_iconst (-1) rfl ?_
      refine r_callV 22 rfl [.ref 231, .int (-1)] [] (Nat.le_of_ble_eq_true rfl) rfl (T_X11_tell_231 _ hI40767 (-1) (by decide)) ?_
      rintro _ _ ⟨g40781, rfl, hI40782, hF40783, v40784, rfl, hr40785⟩
      refine At.sti ?_
      have hF40786 := Fr.tr hF40768 hF40783 rfl rfl
      have zv40787 : ((-1) : Int32).toInt = (-1) := rfl
      refine At.enter rfl ?_
      refine r_ireti ?_
      obtain ⟨v40788, hv40788⟩ : ∃ v, gI g40781 231 1 = v := ⟨_, rfl⟩
      have tv40788 := congrArg Int32.toInt hv40788
      exact ⟨_, rfl, hI40782, hF40786, _, rfl, by omega, (SU3.mk (by simp only [not_true_eq_false, true_and, and_true, false_and, false_or, or_false]; omega))⟩
    · have c40780_ : v40769.toInt ≤ 1000000 := en_j_gt_f c40780
      refine At.enter rfl ?_
      refine r_iconst 1 rfl ?_
      refine r_goto ?_
      refine At.enter rfl ?_
      refine q_iretz (by decide) ?_
      refine At.enter rfl ?_
      refine r_ift (by decide) ?_
      refine At.enter rfl ?_
      refine r_aload_n rfl ?_
      refine r_iload_n rfl ?_
      refine q_i2l (fun v40790 hv40790 => ?_)
      refine q_putJ (Sh.long hI40767.1 kx_231 rfl) rfl ?_
      have hI40791 := HI.wJ hI40767 kx_231 rfl (p := 231) (b := 48) (v := v40790)
      have hF40792 := Fr.wJ (p := 231) (b := 48) (v := v40790) hF40768 rfl
      refine r_aload_n rfl ?_
      refine r_callV 33 rfl [.ref 231] [] (Nat.le_of_ble_eq_true rfl) rfl (T_X11_asIs_231 _ hI40791) ?_
      rintro _ _ ⟨g40793, rfl, hI40794, hF40795, rfl⟩
      refine At.stn ?_
      have hF40798 := Fr.tr hF40792 hF40795 rfl rfl
      refine At.enter rfl ?_
      refine r_iconst 0 rfl ?_
      refine r_istore_n ([(2, .int 0), (0, .ref 231), (1, .int a1)]) rfl ?_
      refine Ar.fall 35 rfl ?_
      have z_58576 : (0 : Int32).toInt = 0 := rfl
      refine w_loopI (fun n_ l_ g_ => ∃ x58565 : Int32, n_ = 8 - x58565.toInt ∧ HI g_ ∧ Fr F_X11_draw_231 A_X11_draw_231 g0 g_ ∧ en_get 0 l_ = some (.ref 231) ∧ en_get 1 l_ = some (.int a1) ∧ en_get 2 l_ = some (.int x58565) ∧ (0 ≤ x58565.toInt ∧ x58565.toInt ≤ 8)) ?_ (8 - 0) ⟨0, by first | rfl | omega, hI40794, hF40798, rfl, rfl, rfl, by decide⟩
      rintro n58570 l58569 g58566 ⟨x58565, hm58577, hI58567, hF58568, e58572, e58573, e58574, r58575⟩ ih58571
      refine At.enter rfl ?_
      refine r_iload_n e58574 ?_
      refine r_aload_n e58572 ?_
      refine q_getR (Sh.ref hI58567.1 kx_231 rfl) ?_
      refine r_iconst 1 rfl ?_
      obtain ⟨v58578, hv58578⟩ : ∃ v, eA g0 233 1 = v := ⟨_, rfl⟩
      have tv58578 := congrArg Int32.toInt hv58578
      have wv58578 := HI.t1 hI0
      rw [hv58578] at wv58578
      refine q_iald (Sh.arr hI58567.1 ka_233) 1 rfl (by decide) v58578 ((eA_c (hF58568.2.1 233 (by decide))).trans hv58578) ?_
      have bv58580 := q_bnd x58565
      have bv58581 := q_bnd v58578
      refine r_ics 45 rfl (fun c58579 => ?_) (fun c58579 => ?_)
      · have c58579_ : x58565.toInt ≥ v58578.toInt := en_i_ge_t c58579
        refine At.enter rfl ?_
        refine r_iconst 0 rfl ?_
        refine r_istore_n _ rfl ?_
        refine Ar.fall 65 rfl ?_
        have z_60852 : (0 : Int32).toInt = 0 := rfl
        refine w_loopI (fun n_ l_ g_ => ∃ x60841 : Int32, n_ = 12 - x60841.toInt ∧ HI g_ ∧ Fr F_X11_draw_231 A_X11_draw_231 g0 g_ ∧ en_get 0 l_ = some (.ref 231) ∧ en_get 1 l_ = some (.int a1) ∧ en_get 2 l_ = some (.int x60841) ∧ (0 ≤ x60841.toInt ∧ x60841.toInt ≤ 12)) ?_ (12 - 0) ⟨0, by first | rfl | omega, hI58567, hF58568, (w_p1 (by decide) (Or.inr rfl) e58572), (w_p1 (by decide) (Or.inr rfl) e58573), (w_e1 _ _ _), by decide⟩
        rintro n60846 l60845 g60842 ⟨x60841, hm60853, hI60843, hF60844, e60848, e60849, e60850, r60851⟩ ih60847
        refine At.enter rfl ?_
        refine r_iload_n e60850 ?_
        refine r_aload_n e60848 ?_
        refine q_getR (Sh.ref hI60843.1 kx_231 rfl) ?_
        refine r_iconst 0 rfl ?_
        obtain ⟨v60854, hv60854⟩ : ∃ v, eA g0 233 0 = v := ⟨_, rfl⟩
        have tv60854 := congrArg Int32.toInt hv60854
        have wv60854 := HI.t0 hI0
        rw [hv60854] at wv60854
        refine q_iald (Sh.arr hI60843.1 ka_233) 0 rfl (by decide) v60854 ((eA_c (hF60844.2.1 233 (by decide))).trans hv60854) ?_
        have bv60856 := q_bnd x60841
        have bv60857 := q_bnd v60854
        refine r_ics 75 rfl (fun c60855 => ?_) (fun c60855 => ?_)
        · have c60855_ : x60841.toInt ≥ v60854.toInt := en_i_ge_t c60855
          refine At.enter rfl ?_
          refine r_aload_n e60848 ?_
          refine r_callV 117 rfl [.ref 231] [] (Nat.le_of_ble_eq_true rfl) rfl (T_X11_run_231 _ hI60843) ?_
          rintro _ _ ⟨g60858, rfl, hI60859, hF60860, rfl⟩
          refine At.stn ?_
          have hF60863 := Fr.tr hF60844 hF60860 rfl rfl
          refine At.enter rfl ?_
          refine r_aload_n e60848 ?_
          refine r_aload_n e60848 ?_
          refine q_getR (Sh.ref hI60859.1 kx_231 rfl) ?_
          refine r_iconst 1 rfl ?_
          refine q_iald (Sh.arr hI60859.1 ka_233) 1 rfl (by decide) v58578 ((eA_c ((hF60860.2.1 233 ma_X11_run_231_233).trans (hF60844.2.1 233 (by decide)))).trans hv58578) ?_
          refine q_putI (Sh.int hI60859.1 kx_231 rfl) rfl ?_
          have hI60864 := HI.wI1 hI60859 kx_231 rfl (p := 231) (b := 51) (v := v58578) rfl (by dsimp only; omega)
          have hF60865 := Fr.wI (p := 231) (b := 51) (v := v58578) hF60863 rfl
          refine r_iconst 0 rfl ?_
          refine r_istore_n _ rfl ?_
          refine Ar.fall 129 rfl ?_
          have z_61052 : (0 : Int32).toInt = 0 := rfl
          refine w_loopI (fun n_ l_ g_ => ∃ x61041 : Int32, n_ = 8 - x61041.toInt ∧ HI g_ ∧ Fr F_X11_draw_231 A_X11_draw_231 g0 g_ ∧ en_get 0 l_ = some (.ref 231) ∧ en_get 1 l_ = some (.int a1) ∧ en_get 2 l_ = some (.int x61041) ∧ (0 ≤ x61041.toInt ∧ x61041.toInt ≤ 8)) ?_ (8 - 0) ⟨0, by first | rfl | omega, hI60864, hF60865, (w_p1 (by decide) (Or.inr rfl) e60848), (w_p1 (by decide) (Or.inr rfl) e60849), (w_e1 _ _ _), by decide⟩
          rintro n61046 l61045 g61042 ⟨x61041, hm61053, hI61043, hF61044, e61048, e61049, e61050, r61051⟩ ih61047
          refine At.enter rfl ?_
          refine r_iload_n e61050 ?_
          refine r_aload_n e61048 ?_
          obtain ⟨v61054, hv61054⟩ : ∃ v, gI g61042 231 51 = v := ⟨_, rfl⟩
          have rv61054 := RgF.at hI61043.2.1 (p := 231) (b := 51) rfl
          rw [hv61054] at rv61054
          dsimp only at rv61054
          refine q_getI (Sh.int hI61043.1 kx_231 rfl) v61054 hv61054 ?_
          have bv61056 := q_bnd x61041
          have bv61057 := q_bnd v61054
          refine r_ics 137 rfl (fun c61055 => ?_) (fun c61055 => ?_)
          · have c61055_ : x61041.toInt ≥ v61054.toInt := en_i_ge_t c61055
            refine At.enter rfl ?_
            refine r_aload_n e61048 ?_
            refine r_aload_n e61048 ?_
            refine r_callV 172 rfl [.ref 231] [.ref 231] (Nat.le_of_ble_eq_true rfl) rfl (T_X11_byNoon_231 _ hI61043) ?_
            rintro _ _ ⟨g61058, rfl, hI61059, hF61060, v61061, rfl, hr61062⟩
            refine At.sti ?_
            have hF61063 := Fr.tr hF61044 hF61060 rfl rfl
            refine At.enter rfl ?_
            refine r_callV 175 rfl [.ref 231, .int v61061] [] (Nat.le_of_ble_eq_true rfl) rfl (T_X11_tell_231 _ hI61059 v61061 (by omega)) ?_
            rintro _ _ ⟨g61064, rfl, hI61065, hF61066, v61067, rfl, hr61068⟩
            refine At.sti ?_
            have hF61069 := Fr.tr hF61063 hF61066 rfl rfl
            refine At.enter rfl ?_
            refine r_ireti ?_
            obtain ⟨v61070, hv61070⟩ : ∃ v, gI g61064 231 1 = v := ⟨_, rfl⟩
            have tv61070 := congrArg Int32.toInt hv61070
            exact ⟨_, rfl, hI61065, hF61069, _, rfl, by omega, (SU3.mk (by simp only [not_true_eq_false, true_and, and_true, false_and, false_or, or_false]; omega))⟩
          · have c61055_ : x61041.toInt < v61054.toInt := en_i_ge_f c61055
            refine At.enter rfl ?_
            refine r_aload_n e61048 ?_
            refine q_getR (Sh.ref hI61043.1 kx_231 rfl) ?_
            refine r_iload_n e61050 ?_
            refine r_aload_n e61048 ?_
            refine q_getR (Sh.ref hI61043.1 kx_231 rfl) ?_
            refine r_iload_n e61050 ?_
            obtain ⟨v61072, hv61072⟩ : ∃ v, eA g61042 253 x61041.toInt = v := ⟨_, rfl⟩
            refine q_iald (Sh.arr hI61043.1 ka_253) x61041.toInt rfl (by omega) v61072 hv61072 ?_
            refine q_iast (Sh.arr hI61043.1 ka_257) (x61041.toInt) rfl (by omega) ?_
            have hI61073 := HI.wA0 hI61043 ka_257 (p := 257) rfl rfl (x61041.toInt) (v61072)
            have hF61074 := Fr.wA (p := 257) (j := x61041.toInt) (v := v61072) hF61044 rfl
            refine r_aload_n e61048 ?_
            refine q_getR (Sh.ref hI61073.1 kx_231 rfl) ?_
            refine r_iload_n e61050 ?_
            refine r_aload_n e61048 ?_
            refine q_getR (Sh.ref hI61073.1 kx_231 rfl) ?_
            refine r_iload_n e61050 ?_
            obtain ⟨v61075, hv61075⟩ : ∃ v, eA g61042 248 x61041.toInt = v := ⟨_, rfl⟩
            refine q_iald (Sh.arr hI61073.1 ka_248) x61041.toInt rfl (by omega) v61075 ((eA_c (gA_sA_ne (by decide))).trans hv61075) ?_
            refine q_iast (Sh.arr hI61073.1 ka_258) (x61041.toInt) rfl (by omega) ?_
            have hI61076 := HI.wA0 hI61073 ka_258 (p := 258) rfl rfl (x61041.toInt) (v61075)
            have hF61077 := Fr.wA (p := 258) (j := x61041.toInt) (v := v61075) hF61074 rfl
            refine q_iinc e61050 (x61041.toInt + 1) rfl (by omega) (fun v61078 hv61078 => ?_)
            refine r_goto ?_
            exact ih61047 (8 - v61078.toInt) _ _ ⟨v61078, by first | rfl | omega, hI61076, hF61077, (w_p1 (by decide) (Or.inr rfl) e61048), (w_p1 (by decide) (Or.inr rfl) e61049), (w_e1 _ _ _), by omega⟩ ⟨by omega, by omega⟩
        · have c60855_ : x60841.toInt < v60854.toInt := en_i_ge_f c60855
          refine At.enter rfl ?_
          refine r_aload_n e60848 ?_
          refine q_getR (Sh.ref hI60843.1 kx_231 rfl) ?_
          refine r_iload_n e60850 ?_
          refine r_dup2 ⟨rfl, rfl⟩ ?_
          obtain ⟨v61079, hv61079⟩ : ∃ v, eA g60842 246 x60841.toInt = v := ⟨_, rfl⟩
          refine q_iald (Sh.arr hI60843.1 ka_246) x60841.toInt rfl (by omega) v61079 hv61079 ?_
          refine r_aload_n e60848 ?_
          refine r_iconst 3 rfl ?_
          refine q_inlV 87 rfl [.ref 231, .int 3] [.int v61079, .int x60841, .ref 246] (Nat.le_of_ble_eq_true rfl) rfl ?_
          refine Ev.mk rfl rfl ⟨Nat.le_of_ble_eq_true rfl, Or.inr (q_rc hI60843.1 kx_231 rfl)⟩ ?_
          show At _ none _ _ (0, [(0, .ref 231), (1, .int 3)], [], (_, _)) _
          refine At.enter rfl ?_
          refine r_aload_n rfl ?_
          refine r_aload_n rfl ?_
          obtain ⟨v61080, hv61080⟩ : ∃ v, gJ g60842 231 48 = v := ⟨_, rfl⟩
          refine q_getJv (Sh.long hI60843.1 kx_231 rfl) v61080 hv61080 ?_
          refine r_ldc2 1103 rfl ?_
          refine q_lmulO (fun v61081 _ => ?_)
          refine r_ldc2 12345 rfl ?_
          refine q_laddO (fun v61082 _ => ?_)
          refine r_ldc2 1000003 rfl ?_
          refine q_lremO (by decide) (fun v61083 _ => ?_)
          refine q_putJ (Sh.long hI60843.1 kx_231 rfl) rfl ?_
          have hI61084 := HI.wJ hI60843 kx_231 rfl (p := 231) (b := 48) (v := v61083)
          have hF61085 := Fr.wJ (p := 231) (b := 48) (v := v61083) hF60844 rfl
          refine r_aload_n rfl ?_
          refine q_getJv (Sh.long hI61084.1 kx_231 rfl) v61083 (gJ_sJ_eq hI60843.1 kx_231 rfl _) ?_
          refine r_iload_n rfl ?_
          refine r_i2l 3 rfl ?_
          refine q_lremO (by decide) (fun v61086 _ => ?_)
          refine q_l2iO (fun v61087 hv61087 => ?_)
          refine q_ireti ?_
          refine At.enter rfl ?_
          refine r_ifs 90 rfl (fun c61088 => ?_) (fun c61088 => ?_)
          · have c61088_ : v61087.toInt ≠ 0 := en_k_ne_t c61088
            refine At.enter rfl ?_
            refine r_iconst 0 rfl ?_
            refine Ar.fall 105 rfl ?_
            refine At.enter rfl ?_
            have bv61089 := q_bnd v61079
            refine q_isub (v61079.toInt - 0) rfl (by omega) (fun v61090 hv61090 => ?_)
            refine q_iast (Sh.arr hI61084.1 ka_246) (x60841.toInt) rfl (by omega) ?_
            have hI61091 := HI.wA0 hI61084 ka_246 (p := 246) rfl rfl (x60841.toInt) (v61090)
            have hF61092 := Fr.wA (p := 246) (j := x60841.toInt) (v := v61090) hF61085 rfl
            refine q_iinc e60850 (x60841.toInt + 1) rfl (by omega) (fun v61093 hv61093 => ?_)
            refine r_goto ?_
            exact ih60847 (12 - v61093.toInt) _ _ ⟨v61093, by first | rfl | omega, hI61091, hF61092, (w_p1 (by decide) (Or.inr rfl) e60848), (w_p1 (by decide) (Or.inr rfl) e60849), (w_e1 _ _ _), by omega⟩ ⟨by omega, by omega⟩
          · have c61088_ : v61087.toInt = 0 := en_k_ne_f c61088
            refine At.enter rfl ?_
            refine r_aload_n e60848 ?_
            refine q_getR (Sh.ref hI61084.1 kx_231 rfl) ?_
            refine r_iload_n e60850 ?_
            refine q_iald (Sh.arr hI61084.1 ka_246) x60841.toInt rfl (by omega) v61079 ((eA_c (gA_sJ)).trans hv61079) ?_
            refine r_iconst 1 rfl ?_
            refine r_ics 100 rfl (fun c61094 => ?_) (fun c61094 => ?_)
            · have c61094_ : v61079.toInt ≤ 1 := en_i_le_t c61094
              refine At.enter rfl ?_
              refine r_iconst 0 rfl ?_
              refine Ar.fall 105 rfl ?_
              refine At.enter rfl ?_
              have bv61095 := q_bnd v61079
              refine q_isub (v61079.toInt - 0) rfl (by omega) (fun v61096 hv61096 => ?_)
              refine q_iast (Sh.arr hI61084.1 ka_246) (x60841.toInt) rfl (by omega) ?_
              have hI61097 := HI.wA0 hI61084 ka_246 (p := 246) rfl rfl (x60841.toInt) (v61096)
              have hF61098 := Fr.wA (p := 246) (j := x60841.toInt) (v := v61096) hF61085 rfl
              refine q_iinc e60850 (x60841.toInt + 1) rfl (by omega) (fun v61099 hv61099 => ?_)
              refine r_goto ?_
              exact ih60847 (12 - v61099.toInt) _ _ ⟨v61099, by first | rfl | omega, hI61097, hF61098, (w_p1 (by decide) (Or.inr rfl) e60848), (w_p1 (by decide) (Or.inr rfl) e60849), (w_e1 _ _ _), by omega⟩ ⟨by omega, by omega⟩
            · have c61094_ : v61079.toInt > 1 := en_i_le_f c61094
              refine At.enter rfl ?_
              refine r_iconst 1 rfl ?_
              refine r_goto ?_
              refine At.enter rfl ?_
              have bv61100 := q_bnd v61079
              refine q_isub (v61079.toInt - 1) rfl (by omega) (fun v61101 hv61101 => ?_)
              refine q_iast (Sh.arr hI61084.1 ka_246) (x60841.toInt) rfl (by omega) ?_
              have hI61102 := HI.wA0 hI61084 ka_246 (p := 246) rfl rfl (x60841.toInt) (v61101)
              have hF61103 := Fr.wA (p := 246) (j := x60841.toInt) (v := v61101) hF61085 rfl
              refine q_iinc e60850 (x60841.toInt + 1) rfl (by omega) (fun v61104 hv61104 => ?_)
              refine r_goto ?_
              exact ih60847 (12 - v61104.toInt) _ _ ⟨v61104, by first | rfl | omega, hI61102, hF61103, (w_p1 (by decide) (Or.inr rfl) e60848), (w_p1 (by decide) (Or.inr rfl) e60849), (w_e1 _ _ _), by omega⟩ ⟨by omega, by omega⟩
      · have c58579_ : x58565.toInt < v58578.toInt := en_i_ge_f c58579
        refine At.enter rfl ?_
        refine r_aload_n e58572 ?_
        refine q_getR (Sh.ref hI58567.1 kx_231 rfl) ?_
        refine r_iload_n e58574 ?_
        refine r_aload_n e58572 ?_
        refine r_bipush 30 rfl ?_
        refine q_inlV 56 rfl [.ref 231, .int 30] [.int x58565, .ref 248] (Nat.le_of_ble_eq_true rfl) rfl ?_
        refine Ev.mk rfl rfl ⟨Nat.le_of_ble_eq_true rfl, Or.inr (q_rc hI58567.1 kx_231 rfl)⟩ ?_
        show At _ none _ _ (0, [(0, .ref 231), (1, .int 30)], [], (_, _)) _
        refine At.enter rfl ?_
        refine r_aload_n rfl ?_
        refine r_aload_n rfl ?_
        obtain ⟨v61105, hv61105⟩ : ∃ v, gJ g58566 231 48 = v := ⟨_, rfl⟩
        refine q_getJv (Sh.long hI58567.1 kx_231 rfl) v61105 hv61105 ?_
        refine r_ldc2 1103 rfl ?_
        refine q_lmulO (fun v61106 _ => ?_)
        refine r_ldc2 12345 rfl ?_
        refine q_laddO (fun v61107 _ => ?_)
        refine r_ldc2 1000003 rfl ?_
        refine q_lremO (by decide) (fun v61108 _ => ?_)
        refine q_putJ (Sh.long hI58567.1 kx_231 rfl) rfl ?_
        have hI61109 := HI.wJ hI58567 kx_231 rfl (p := 231) (b := 48) (v := v61108)
        have hF61110 := Fr.wJ (p := 231) (b := 48) (v := v61108) hF58568 rfl
        refine r_aload_n rfl ?_
        refine q_getJv (Sh.long hI61109.1 kx_231 rfl) v61108 (gJ_sJ_eq hI58567.1 kx_231 rfl _) ?_
        refine r_iload_n rfl ?_
        refine r_i2l 30 rfl ?_
        refine q_lremO (by decide) (fun v61111 _ => ?_)
        refine q_l2iO (fun v61112 hv61112 => ?_)
        refine q_ireti ?_
        refine At.enter rfl ?_
        refine q_iast (Sh.arr hI61109.1 ka_248) (x58565.toInt) rfl (by omega) ?_
        have hI61113 := HI.wA0 hI61109 ka_248 (p := 248) rfl rfl (x58565.toInt) (v61112)
        have hF61114 := Fr.wA (p := 248) (j := x58565.toInt) (v := v61112) hF61110 rfl
        refine q_iinc e58574 (x58565.toInt + 1) rfl (by omega) (fun v61115 hv61115 => ?_)
        refine r_goto ?_
        exact ih58571 (8 - v61115.toInt) _ _ ⟨v61115, by first | rfl | omega, hI61113, hF61114, (w_p1 (by decide) (Or.inr rfl) e58572), (w_p1 (by decide) (Or.inr rfl) e58573), (w_e1 _ _ _), by omega⟩ ⟨by omega, by omega⟩
