def F_X11_byNoon_231 : List (Nat × Nat) := []
def A_X11_byNoon_231 : List Nat := []
set_option maxRecDepth 100000 in
set_option maxHeartbeats 4000000 in
theorem T_X11_byNoon_231 (d : Nat) {N : Nat} {g0 : List en_E} (hI0 : HI g0) : Ev (d + 1) 260 [.ref 231] (g0, N) (fun w h' => ∃ g', h' = (g', N) ∧ HI g' ∧ Fr F_X11_byNoon_231 A_X11_byNoon_231 g0 g' ∧ ∃ r : Int32, w = some (.int r) ∧ (0 ≤ r.toInt ∧ r.toInt ≤ 8)) := by
  have hF0 : Fr F_X11_byNoon_231 A_X11_byNoon_231 g0 g0 := Fr.rf
  refine Ev.mk rfl rfl ⟨Nat.le_of_ble_eq_true rfl, Or.inr (q_rc hI0.1 kx_231 rfl)⟩ ?_
  show At _ none _ _ (0, [(0, .ref 231)], [], (_, _)) _
  refine At.enter rfl ?_
  refine r_iconst 0 rfl ?_
  refine r_istore_n ([(1, .int 0), (0, .ref 231)]) rfl ?_
  refine r_iconst 0 rfl ?_
  refine r_istore_n ([(2, .int 0), (1, .int 0), (0, .ref 231)]) rfl ?_
  refine Ar.fall 4 rfl ?_
  have z_1404 : (0 : Int32).toInt = 0 := rfl
  have z_1405 : (0 : Int32).toInt = 0 := rfl
  refine w_loopI (fun n_ l_ g_ => ∃ x1390 : Int32, ∃ x1391 : Int32, n_ = 8 - x1391.toInt ∧ HI g_ ∧ Fr F_X11_byNoon_231 A_X11_byNoon_231 g0 g_ ∧ en_get 0 l_ = some (.ref 231) ∧ en_get 1 l_ = some (.int x1390) ∧ en_get 2 l_ = some (.int x1391) ∧ (0 ≤ x1390.toInt ∧ x1390.toInt ≤ 8) ∧ (0 ≤ x1391.toInt ∧ x1391.toInt ≤ 8) ∧ (x1390.toInt ≤ x1391.toInt)) ?_ (8 - 0) ⟨0, 0, by first | rfl | omega, hI0, hF0, rfl, rfl, rfl, by decide, by decide, by omega⟩
  rintro n1396 l1395 g1392 ⟨x1390, x1391, hm1406, hI1393, hF1394, e1398, e1399, e1400, r1401, r1402, q1403⟩ ih1397
  refine At.enter rfl ?_
  refine r_iload_n e1400 ?_
  refine r_aload_n e1398 ?_
  refine q_getR (Sh.ref hI1393.1 kx_231 rfl) ?_
  refine r_iconst 1 rfl ?_
  obtain ⟨v1407, hv1407⟩ : ∃ v, eA g0 233 1 = v := ⟨_, rfl⟩
  have tv1407 := congrArg Int32.toInt hv1407
  have wv1407 := HI.t1 hI0
  rw [hv1407] at wv1407
  refine q_iald (Sh.arr hI1393.1 ka_233) 1 rfl (by decide) v1407 ((eA_c (hF1394.2.1 233 (by decide))).trans hv1407) ?_
  have bv1409 := q_bnd x1391
  have bv1410 := q_bnd v1407
  refine r_ics 14 rfl (fun c1408 => ?_) (fun c1408 => ?_)
  · have c1408_ : x1391.toInt ≥ v1407.toInt := en_i_ge_t c1408
    refine At.enter rfl ?_
    refine r_iload_n e1399 ?_
    refine r_ireti ?_
    exact ⟨_, rfl, hI1393, hF1394, _, rfl, by omega⟩
  · have c1408_ : x1391.toInt < v1407.toInt := en_i_ge_f c1408
    refine At.enter rfl ?_
    refine r_iload_n e1399 ?_
    refine r_aload_n e1398 ?_
    refine q_getR (Sh.ref hI1393.1 kx_231 rfl) ?_
    refine r_iload_n e1400 ?_
    obtain ⟨v1411, hv1411⟩ : ∃ v, eA g0 253 x1391.toInt = v := ⟨_, rfl⟩
    refine q_iald (Sh.arr hI1393.1 ka_253) x1391.toInt rfl (by omega) v1411 ((eA_c (hF1394.2.1 253 (by decide))).trans hv1411) ?_
    refine r_iconst (-1) rfl ?_
    refine r_ics 25 rfl (fun c1412 => ?_) (fun c1412 => ?_)
    · have c1412_ : v1411.toInt = (-1) := en_i_eq_t c1412
      refine At.enter rfl ?_
      refine r_iconst 0 rfl ?_
      refine Ar.fall 45 rfl ?_
      refine At.enter rfl ?_
      refine q_iadd (x1390.toInt + 0) rfl (by omega) (fun v1413 hv1413 => ?_)
      refine r_istore_n _ rfl ?_
      refine q_iinc (w_p1 (by decide) (Or.inr rfl) e1400) (x1391.toInt + 1) rfl (by omega) (fun v1414 hv1414 => ?_)
      refine r_goto ?_
      exact ih1397 (8 - v1414.toInt) _ _ ⟨v1413, v1414, by first | rfl | omega, hI1393, hF1394, (w_p1 (by decide) (Or.inr rfl) (w_p1 (by decide) (Or.inr rfl) e1398)), (w_p1 (by decide) (Or.inr rfl) (w_e1 _ _ _)), (w_e1 _ _ _), by omega, by omega, by omega⟩ ⟨by omega, by omega⟩
    · have c1412_ : v1411.toInt ≠ (-1) := en_i_eq_f c1412
      refine At.enter rfl ?_
      refine r_aload_n e1398 ?_
      refine q_getR (Sh.ref hI1393.1 kx_231 rfl) ?_
      refine r_iload_n e1400 ?_
      refine q_iald (Sh.arr hI1393.1 ka_253) x1391.toInt rfl (by omega) v1411 ((eA_c (hF1394.2.1 253 (by decide))).trans hv1411) ?_
      refine r_aload_n e1398 ?_
      refine q_getR (Sh.ref hI1393.1 kx_231 rfl) ?_
      refine r_iconst 5 rfl ?_
      obtain ⟨v1415, hv1415⟩ : ∃ v, eA g0 233 5 = v := ⟨_, rfl⟩
      have wv1415 := HI.t5 hI0
      rw [hv1415] at wv1415
      refine q_iald (Sh.arr hI1393.1 ka_233) 5 rfl (by decide) v1415 ((eA_c (hF1394.2.1 233 (by decide))).trans hv1415) ?_
      have bv1417 := q_bnd v1411
      have bv1418 := q_bnd v1415
      refine r_ics 40 rfl (fun c1416 => ?_) (fun c1416 => ?_)
      · have c1416_ : v1411.toInt > v1415.toInt := en_i_gt_t c1416
        refine At.enter rfl ?_
        refine r_iconst 0 rfl ?_
        refine Ar.fall 45 rfl ?_
        refine At.enter rfl ?_
        refine q_iadd (x1390.toInt + 0) rfl (by omega) (fun v1419 hv1419 => ?_)
        refine r_istore_n _ rfl ?_
        refine q_iinc (w_p1 (by decide) (Or.inr rfl) e1400) (x1391.toInt + 1) rfl (by omega) (fun v1420 hv1420 => ?_)
        refine r_goto ?_
        exact ih1397 (8 - v1420.toInt) _ _ ⟨v1419, v1420, by first | rfl | omega, hI1393, hF1394, (w_p1 (by decide) (Or.inr rfl) (w_p1 (by decide) (Or.inr rfl) e1398)), (w_p1 (by decide) (Or.inr rfl) (w_e1 _ _ _)), (w_e1 _ _ _), by omega, by omega, by omega⟩ ⟨by omega, by omega⟩
      · have c1416_ : v1411.toInt ≤ v1415.toInt := en_i_gt_f c1416
        refine At.enter rfl ?_
        refine r_iconst 1 rfl ?_
        refine r_goto ?_
        refine At.enter rfl ?_
        refine q_iadd (x1390.toInt + 1) rfl (by omega) (fun v1421 hv1421 => ?_)
        refine r_istore_n _ rfl ?_
        refine q_iinc (w_p1 (by decide) (Or.inr rfl) e1400) (x1391.toInt + 1) rfl (by omega) (fun v1422 hv1422 => ?_)
        refine r_goto ?_
        exact ih1397 (8 - v1422.toInt) _ _ ⟨v1421, v1422, by first | rfl | omega, hI1393, hF1394, (w_p1 (by decide) (Or.inr rfl) (w_p1 (by decide) (Or.inr rfl) e1398)), (w_p1 (by decide) (Or.inr rfl) (w_e1 _ _ _)), (w_e1 _ _ _), by omega, by omega, by omega⟩ ⟨by omega, by omega⟩

def F_X11_draw_231 : List (Nat × Nat) := [(231, 0), (231, 1), (231, 27), (231, 30), (231, 31), (231, 32), (231, 36), (231, 48), (231, 51)]
def A_X11_draw_231 : List Nat := [232, 246, 247, 248, 250, 251, 252, 253, 254, 255, 256, 257, 258]
theorem ma_X11_run_231_233 : memA A_X11_run_231 233 = false := by decide
set_option maxRecDepth 100000 in
set_option maxHeartbeats 4000000 in
theorem T_X11_draw_231 (d : Nat) {N : Nat} {g0 : List en_E} (hI0 : HI g0) (a1 : Int32) : Ev (d + 8) 261 [.ref 231, .int a1] (g0, N) (fun w h' => ∃ g', h' = (g', N) ∧ HI g' ∧ Fr F_X11_draw_231 A_X11_draw_231 g0 g' ∧ ∃ r : Int32, w = some (.int r) ∧ ((-1) ≤ r.toInt ∧ r.toInt ≤ 8)) := by
  have hF0 : Fr F_X11_draw_231 A_X11_draw_231 g0 g0 := Fr.rf
  refine Ev.mk rfl rfl ⟨Nat.le_of_ble_eq_true rfl, Or.inr (q_rc hI0.1 kx_231 rfl)⟩ ?_
  show At _ none _ _ (0, [(0, .ref 231), (1, .int a1)], [], (_, _)) _
  refine At.enter rfl ?_
  refine r_aload_n rfl ?_
  refine r_iconst 0 rfl ?_
  refine q_putI (Sh.int hI0.1 kx_231 rfl) rfl ?_
  have hI40767 := HI.wI0 hI0 kx_231 rfl (p := 231) (b := 0) (v := 0) rfl
  have hF40768 := Fr.wI (p := 231) (b := 0) (v := 0) hF0 rfl
  refine r_iload_n rfl ?_
  refine q_i2l (fun v40769 hv40769 => ?_)
  refine r_lconst 0 rfl ?_
  refine r_ldc2 1000000 rfl ?_
  refine q_inlS 14 rfl [.long v40769, .long 0, .long 1000000] [] (Nat.le_of_ble_eq_true rfl) rfl ?_
  refine Ev.mk rfl rfl ⟨Nat.le_of_ble_eq_true rfl, Or.inl rfl⟩ ?_
  show At _ none _ _ (0, [(0, .long v40769), (2, .long 0), (4, .long 1000000)], [], (_, _)) _
  refine At.enter rfl ?_
  refine r_lload_n rfl ?_
  refine r_lload_n rfl ?_
  refine r_lcmp _ rfl ?_
  refine r_ifs 6 rfl (fun c40770 => ?_) (fun c40770 => ?_)
  · have c40770_ : v40769.toInt < 0 := en_j_lt_t c40770
    refine At.enter rfl ?_
    refine r_iconst 0 rfl ?_
    refine Ar.fall 18 rfl ?_
    refine At.enter rfl ?_
    refine q_iretz (by decide) ?_
    refine At.enter rfl ?_
    refine r_iff 17 rfl (by decide) ?_
    refine At.enter rfl ?_
    refine r_aload_n rfl ?_
    refine r_iconst (-1) rfl ?_
    refine r_callV 22 rfl [.ref 231, .int (-1)] [] (Nat.le_of_ble_eq_true rfl) rfl (T_X11_tell_231 _ hI40767 (-1) (by decide)) ?_
    rintro _ _ ⟨g40771, rfl, hI40772, hF40773, v40774, rfl, hr40775⟩
    refine At.sti ?_
    have hF40776 := Fr.tr hF40768 hF40773 rfl rfl
    have zv40777 : ((-1) : Int32).toInt = (-1) := rfl
    refine At.enter rfl ?_
    refine r_ireti ?_
    exact ⟨_, rfl, hI40772, hF40776, _, rfl, by omega⟩
  · have c40770_ : v40769.toInt ≥ 0 := en_j_lt_f c40770
    refine At.enter rfl ?_
    refine r_lload_n rfl ?_
    refine r_lload rfl ?_
    refine r_lcmp _ rfl ?_
    refine r_ifs 13 rfl (fun c40778 => ?_) (fun c40778 => ?_)
    · have c40778_ : v40769.toInt > 1000000 := en_j_gt_t c40778
      refine At.enter rfl ?_
      refine r_iconst 0 rfl ?_
      refine Ar.fall 18 rfl ?_
      refine At.enter rfl ?_
      refine q_iretz (by decide) ?_
      refine At.enter rfl ?_
      refine r_iff 17 rfl (by decide) ?_
      refine At.enter rfl ?_
      refine r_aload_n rfl ?_
      refine r_iconst (-1) rfl ?_
      refine r_callV 22 rfl [.ref 231, .int (-1)] [] (Nat.le_of_ble_eq_true rfl) rfl (T_X11_tell_231 _ hI40767 (-1) (by decide)) ?_
      rintro _ _ ⟨g40779, rfl, hI40780, hF40781, v40782, rfl, hr40783⟩
      refine At.sti ?_
      have hF40784 := Fr.tr hF40768 hF40781 rfl rfl
      have zv40785 : ((-1) : Int32).toInt = (-1) := rfl
      refine At.enter rfl ?_
      refine r_ireti ?_
      exact ⟨_, rfl, hI40780, hF40784, _, rfl, by omega⟩
    · have c40778_ : v40769.toInt ≤ 1000000 := en_j_gt_f c40778
      refine At.enter rfl ?_
      refine r_iconst 1 rfl ?_
      refine r_goto ?_
      refine At.enter rfl ?_
      refine q_iretz (by decide) ?_
      refine At.enter rfl ?_
      refine r_ift (by decide) ?_
      refine At.enter rfl ?_
      refine r_aload_n rfl ?_
      refine r_iload_n rfl ?_
      refine q_i2l (fun v40786 hv40786 => ?_)
      refine q_putJ (Sh.long hI40767.1 kx_231 rfl) rfl ?_
      have hI40787 := HI.wJ hI40767 kx_231 rfl (p := 231) (b := 48) (v := v40786)
      have hF40788 := Fr.wJ (p := 231) (b := 48) (v := v40786) hF40768 rfl
      refine r_aload_n rfl ?_
      refine r_callV 33 rfl [.ref 231] [] (Nat.le_of_ble_eq_true rfl) rfl (T_X11_asIs_231 _ hI40787) ?_
      rintro _ _ ⟨g40789, rfl, hI40790, hF40791, rfl, hr40793⟩
      refine At.stn ?_
      have hF40794 := Fr.tr hF40788 hF40791 rfl rfl
      refine At.enter rfl ?_
      refine r_iconst 0 rfl ?_
      refine r_istore_n ([(2, .int 0), (0, .ref 231), (1, .int a1)]) rfl ?_
      refine Ar.fall 35 rfl ?_
      have z_58572 : (0 : Int32).toInt = 0 := rfl
      refine w_loopI (fun n_ l_ g_ => ∃ x58561 : Int32, n_ = 8 - x58561.toInt ∧ HI g_ ∧ Fr F_X11_draw_231 A_X11_draw_231 g0 g_ ∧ en_get 0 l_ = some (.ref 231) ∧ en_get 1 l_ = some (.int a1) ∧ en_get 2 l_ = some (.int x58561) ∧ (0 ≤ x58561.toInt ∧ x58561.toInt ≤ 8)) ?_ (8 - 0) ⟨0, by first | rfl | omega, hI40790, hF40794, rfl, rfl, rfl, by decide⟩
      rintro n58566 l58565 g58562 ⟨x58561, hm58573, hI58563, hF58564, e58568, e58569, e58570, r58571⟩ ih58567
      refine At.enter rfl ?_
      refine r_iload_n e58570 ?_
      refine r_aload_n e58568 ?_
      refine q_getR (Sh.ref hI58563.1 kx_231 rfl) ?_
      refine r_iconst 1 rfl ?_
      obtain ⟨v58574, hv58574⟩ : ∃ v, eA g0 233 1 = v := ⟨_, rfl⟩
      have tv58574 := congrArg Int32.toInt hv58574
      have wv58574 := HI.t1 hI0
      rw [hv58574] at wv58574
      refine q_iald (Sh.arr hI58563.1 ka_233) 1 rfl (by decide) v58574 ((eA_c (hF58564.2.1 233 (by decide))).trans hv58574) ?_
      have bv58576 := q_bnd x58561
      have bv58577 := q_bnd v58574
      refine r_ics 45 rfl (fun c58575 => ?_) (fun c58575 => ?_)
      · have c58575_ : x58561.toInt ≥ v58574.toInt := en_i_ge_t c58575
        refine At.enter rfl ?_
        refine r_iconst 0 rfl ?_
        refine r_istore_n _ rfl ?_
        refine Ar.fall 65 rfl ?_
        have z_60848 : (0 : Int32).toInt = 0 := rfl
        refine w_loopI (fun n_ l_ g_ => ∃ x60837 : Int32, n_ = 12 - x60837.toInt ∧ HI g_ ∧ Fr F_X11_draw_231 A_X11_draw_231 g0 g_ ∧ en_get 0 l_ = some (.ref 231) ∧ en_get 1 l_ = some (.int a1) ∧ en_get 2 l_ = some (.int x60837) ∧ (0 ≤ x60837.toInt ∧ x60837.toInt ≤ 12)) ?_ (12 - 0) ⟨0, by first | rfl | omega, hI58563, hF58564, (w_p1 (by decide) (Or.inr rfl) e58568), (w_p1 (by decide) (Or.inr rfl) e58569), (w_e1 _ _ _), by decide⟩
        rintro n60842 l60841 g60838 ⟨x60837, hm60849, hI60839, hF60840, e60844, e60845, e60846, r60847⟩ ih60843
        refine At.enter rfl ?_
        refine r_iload_n e60846 ?_
        refine r_aload_n e60844 ?_
        refine q_getR (Sh.ref hI60839.1 kx_231 rfl) ?_
        refine r_iconst 0 rfl ?_
        obtain ⟨v60850, hv60850⟩ : ∃ v, eA g0 233 0 = v := ⟨_, rfl⟩
        have tv60850 := congrArg Int32.toInt hv60850
        have wv60850 := HI.t0 hI0
        rw [hv60850] at wv60850
        refine q_iald (Sh.arr hI60839.1 ka_233) 0 rfl (by decide) v60850 ((eA_c (hF60840.2.1 233 (by decide))).trans hv60850) ?_
        have bv60852 := q_bnd x60837
        have bv60853 := q_bnd v60850
        refine r_ics 75 rfl (fun c60851 => ?_) (fun c60851 => ?_)
        · have c60851_ : x60837.toInt ≥ v60850.toInt := en_i_ge_t c60851
          refine At.enter rfl ?_
          refine r_aload_n e60844 ?_
          refine r_callV 117 rfl [.ref 231] [] (Nat.le_of_ble_eq_true rfl) rfl (T_X11_run_231 _ hI60839) ?_
          rintro _ _ ⟨g60854, rfl, hI60855, hF60856, rfl⟩
          refine At.stn ?_
          have hF60859 := Fr.tr hF60840 hF60856 rfl rfl
          refine At.enter rfl ?_
          refine r_aload_n e60844 ?_
          refine r_aload_n e60844 ?_
          refine q_getR (Sh.ref hI60855.1 kx_231 rfl) ?_
          refine r_iconst 1 rfl ?_
          refine q_iald (Sh.arr hI60855.1 ka_233) 1 rfl (by decide) v58574 ((eA_c ((hF60856.2.1 233 ma_X11_run_231_233).trans (hF60840.2.1 233 (by decide)))).trans hv58574) ?_
          refine q_putI (Sh.int hI60855.1 kx_231 rfl) rfl ?_
          have hI60860 := HI.wI1 hI60855 kx_231 rfl (p := 231) (b := 51) (v := v58574) rfl (by dsimp only; omega)
          have hF60861 := Fr.wI (p := 231) (b := 51) (v := v58574) hF60859 rfl
          refine r_iconst 0 rfl ?_
          refine r_istore_n _ rfl ?_
          refine Ar.fall 129 rfl ?_
          have z_61048 : (0 : Int32).toInt = 0 := rfl
          refine w_loopI (fun n_ l_ g_ => ∃ x61037 : Int32, n_ = 8 - x61037.toInt ∧ HI g_ ∧ Fr F_X11_draw_231 A_X11_draw_231 g0 g_ ∧ en_get 0 l_ = some (.ref 231) ∧ en_get 1 l_ = some (.int a1) ∧ en_get 2 l_ = some (.int x61037) ∧ (0 ≤ x61037.toInt ∧ x61037.toInt ≤ 8)) ?_ (8 - 0) ⟨0, by first | rfl | omega, hI60860, hF60861, (w_p1 (by decide) (Or.inr rfl) e60844), (w_p1 (by decide) (Or.inr rfl) e60845), (w_e1 _ _ _), by decide⟩
          rintro n61042 l61041 g61038 ⟨x61037, hm61049, hI61039, hF61040, e61044, e61045, e61046, r61047⟩ ih61043
          refine At.enter rfl ?_
          refine r_iload_n e61046 ?_
          refine r_aload_n e61044 ?_
          obtain ⟨v61050, hv61050⟩ : ∃ v, gI g61038 231 51 = v := ⟨_, rfl⟩
          have rv61050 := RgF.at hI61039.2.1 (p := 231) (b := 51) rfl
          rw [hv61050] at rv61050
          dsimp only at rv61050
          refine q_getI (Sh.int hI61039.1 kx_231 rfl) v61050 hv61050 ?_
          have bv61052 := q_bnd x61037
          have bv61053 := q_bnd v61050
          refine r_ics 137 rfl (fun c61051 => ?_) (fun c61051 => ?_)
          · have c61051_ : x61037.toInt ≥ v61050.toInt := en_i_ge_t c61051
            refine At.enter rfl ?_
            refine r_aload_n e61044 ?_
            refine r_aload_n e61044 ?_
            refine r_callV 172 rfl [.ref 231] [.ref 231] (Nat.le_of_ble_eq_true rfl) rfl (T_X11_byNoon_231 _ hI61039) ?_
            rintro _ _ ⟨g61054, rfl, hI61055, hF61056, v61057, rfl, hr61058⟩
            refine At.sti ?_
            have hF61059 := Fr.tr hF61040 hF61056 rfl rfl
            refine At.enter rfl ?_
            refine r_callV 175 rfl [.ref 231, .int v61057] [] (Nat.le_of_ble_eq_true rfl) rfl (T_X11_tell_231 _ hI61055 v61057 (by omega)) ?_
            rintro _ _ ⟨g61060, rfl, hI61061, hF61062, v61063, rfl, hr61064⟩
            refine At.sti ?_
            have hF61065 := Fr.tr hF61059 hF61062 rfl rfl
            refine At.enter rfl ?_
            refine r_ireti ?_
            exact ⟨_, rfl, hI61061, hF61065, _, rfl, by omega⟩
          · have c61051_ : x61037.toInt < v61050.toInt := en_i_ge_f c61051
            refine At.enter rfl ?_
            refine r_aload_n e61044 ?_
            refine q_getR (Sh.ref hI61039.1 kx_231 rfl) ?_
            refine r_iload_n e61046 ?_
            refine r_aload_n e61044 ?_
            refine q_getR (Sh.ref hI61039.1 kx_231 rfl) ?_
            refine r_iload_n e61046 ?_
            obtain ⟨v61066, hv61066⟩ : ∃ v, eA g61038 253 x61037.toInt = v := ⟨_, rfl⟩
            refine q_iald (Sh.arr hI61039.1 ka_253) x61037.toInt rfl (by omega) v61066 hv61066 ?_
            refine q_iast (Sh.arr hI61039.1 ka_257) (x61037.toInt) rfl (by omega) ?_
            have hI61067 := HI.wA0 hI61039 ka_257 (p := 257) rfl rfl (x61037.toInt) (v61066)
            have hF61068 := Fr.wA (p := 257) (j := x61037.toInt) (v := v61066) hF61040 rfl
            refine r_aload_n e61044 ?_
            refine q_getR (Sh.ref hI61067.1 kx_231 rfl) ?_
            refine r_iload_n e61046 ?_
            refine r_aload_n e61044 ?_
            refine q_getR (Sh.ref hI61067.1 kx_231 rfl) ?_
            refine r_iload_n e61046 ?_
            obtain ⟨v61069, hv61069⟩ : ∃ v, eA g61038 248 x61037.toInt = v := ⟨_, rfl⟩
            refine q_iald (Sh.arr hI61067.1 ka_248) x61037.toInt rfl (by omega) v61069 ((eA_c (gA_sA_ne (by decide))).trans hv61069) ?_
            refine q_iast (Sh.arr hI61067.1 ka_258) (x61037.toInt) rfl (by omega) ?_
            have hI61070 := HI.wA0 hI61067 ka_258 (p := 258) rfl rfl (x61037.toInt) (v61069)
            have hF61071 := Fr.wA (p := 258) (j := x61037.toInt) (v := v61069) hF61068 rfl
            refine q_iinc e61046 (x61037.toInt + 1) rfl (by omega) (fun v61072 hv61072 => ?_)
            refine r_goto ?_
            exact ih61043 (8 - v61072.toInt) _ _ ⟨v61072, by first | rfl | omega, hI61070, hF61071, (w_p1 (by decide) (Or.inr rfl) e61044), (w_p1 (by decide) (Or.inr rfl) e61045), (w_e1 _ _ _), by omega⟩ ⟨by omega, by omega⟩
        · have c60851_ : x60837.toInt < v60850.toInt := en_i_ge_f c60851
          refine At.enter rfl ?_
          refine r_aload_n e60844 ?_
          refine q_getR (Sh.ref hI60839.1 kx_231 rfl) ?_
          refine r_iload_n e60846 ?_
          refine r_dup2 ⟨rfl, rfl⟩ ?_
          obtain ⟨v61073, hv61073⟩ : ∃ v, eA g60838 246 x60837.toInt = v := ⟨_, rfl⟩
          refine q_iald (Sh.arr hI60839.1 ka_246) x60837.toInt rfl (by omega) v61073 hv61073 ?_
          refine r_aload_n e60844 ?_
          refine r_iconst 3 rfl ?_
          refine q_inlV 87 rfl [.ref 231, .int 3] [.int v61073, .int x60837, .ref 246] (Nat.le_of_ble_eq_true rfl) rfl ?_
          refine Ev.mk rfl rfl ⟨Nat.le_of_ble_eq_true rfl, Or.inr (q_rc hI60839.1 kx_231 rfl)⟩ ?_
          show At _ none _ _ (0, [(0, .ref 231), (1, .int 3)], [], (_, _)) _
          refine At.enter rfl ?_
          refine r_aload_n rfl ?_
          refine r_aload_n rfl ?_
          obtain ⟨v61074, hv61074⟩ : ∃ v, gJ g60838 231 48 = v := ⟨_, rfl⟩
          refine q_getJv (Sh.long hI60839.1 kx_231 rfl) v61074 hv61074 ?_
          refine r_ldc2 1103 rfl ?_
          refine q_lmulO (fun v61075 lv61075 => ?_)
          refine r_ldc2 12345 rfl ?_
          refine q_laddO (fun v61076 lv61076 => ?_)
          refine r_ldc2 1000003 rfl ?_
          refine q_lremO (by decide) (fun v61077 _ => ?_)
          refine q_putJ (Sh.long hI60839.1 kx_231 rfl) rfl ?_
          have hI61078 := HI.wJ hI60839 kx_231 rfl (p := 231) (b := 48) (v := v61077)
          have hF61079 := Fr.wJ (p := 231) (b := 48) (v := v61077) hF60840 rfl
          refine r_aload_n rfl ?_
          refine q_getJv (Sh.long hI61078.1 kx_231 rfl) v61077 (gJ_sJ_eq hI60839.1 kx_231 rfl _) ?_
          refine r_iload_n rfl ?_
          refine r_i2l 3 rfl ?_
          refine q_lremO (by decide) (fun v61080 _ => ?_)
          refine q_l2iO (fun v61081 hv61081 => ?_)
          refine q_ireti ?_
          refine At.enter rfl ?_
          refine r_ifs 90 rfl (fun c61082 => ?_) (fun c61082 => ?_)
          · have c61082_ : v61081.toInt ≠ 0 := en_k_ne_t c61082
            refine At.enter rfl ?_
            refine r_iconst 0 rfl ?_
            refine Ar.fall 105 rfl ?_
            refine At.enter rfl ?_
            have bv61083 := q_bnd v61073
            refine q_isub (v61073.toInt - 0) rfl (by omega) (fun v61084 hv61084 => ?_)
            refine q_iast (Sh.arr hI61078.1 ka_246) (x60837.toInt) rfl (by omega) ?_
            have hI61085 := HI.wA0 hI61078 ka_246 (p := 246) rfl rfl (x60837.toInt) (v61084)
            have hF61086 := Fr.wA (p := 246) (j := x60837.toInt) (v := v61084) hF61079 rfl
            refine q_iinc e60846 (x60837.toInt + 1) rfl (by omega) (fun v61087 hv61087 => ?_)
            refine r_goto ?_
            exact ih60843 (12 - v61087.toInt) _ _ ⟨v61087, by first | rfl | omega, hI61085, hF61086, (w_p1 (by decide) (Or.inr rfl) e60844), (w_p1 (by decide) (Or.inr rfl) e60845), (w_e1 _ _ _), by omega⟩ ⟨by omega, by omega⟩
          · have c61082_ : v61081.toInt = 0 := en_k_ne_f c61082
            refine At.enter rfl ?_
            refine r_aload_n e60844 ?_
            refine q_getR (Sh.ref hI61078.1 kx_231 rfl) ?_
            refine r_iload_n e60846 ?_
            refine q_iald (Sh.arr hI61078.1 ka_246) x60837.toInt rfl (by omega) v61073 ((eA_c (gA_sJ)).trans hv61073) ?_
            refine r_iconst 1 rfl ?_
            refine r_ics 100 rfl (fun c61088 => ?_) (fun c61088 => ?_)
            · have c61088_ : v61073.toInt ≤ 1 := en_i_le_t c61088
              refine At.enter rfl ?_
              refine r_iconst 0 rfl ?_
              refine Ar.fall 105 rfl ?_
              refine At.enter rfl ?_
              have bv61089 := q_bnd v61073
              refine q_isub (v61073.toInt - 0) rfl (by omega) (fun v61090 hv61090 => ?_)
              refine q_iast (Sh.arr hI61078.1 ka_246) (x60837.toInt) rfl (by omega) ?_
              have hI61091 := HI.wA0 hI61078 ka_246 (p := 246) rfl rfl (x60837.toInt) (v61090)
              have hF61092 := Fr.wA (p := 246) (j := x60837.toInt) (v := v61090) hF61079 rfl
              refine q_iinc e60846 (x60837.toInt + 1) rfl (by omega) (fun v61093 hv61093 => ?_)
              refine r_goto ?_
              exact ih60843 (12 - v61093.toInt) _ _ ⟨v61093, by first | rfl | omega, hI61091, hF61092, (w_p1 (by decide) (Or.inr rfl) e60844), (w_p1 (by decide) (Or.inr rfl) e60845), (w_e1 _ _ _), by omega⟩ ⟨by omega, by omega⟩
            · have c61088_ : v61073.toInt > 1 := en_i_le_f c61088
              refine At.enter rfl ?_
              refine r_iconst 1 rfl ?_
              refine r_goto ?_
              refine At.enter rfl ?_
              have bv61094 := q_bnd v61073
              refine q_isub (v61073.toInt - 1) rfl (by omega) (fun v61095 hv61095 => ?_)
              refine q_iast (Sh.arr hI61078.1 ka_246) (x60837.toInt) rfl (by omega) ?_
              have hI61096 := HI.wA0 hI61078 ka_246 (p := 246) rfl rfl (x60837.toInt) (v61095)
              have hF61097 := Fr.wA (p := 246) (j := x60837.toInt) (v := v61095) hF61079 rfl
              refine q_iinc e60846 (x60837.toInt + 1) rfl (by omega) (fun v61098 hv61098 => ?_)
              refine r_goto ?_
              exact ih60843 (12 - v61098.toInt) _ _ ⟨v61098, by first | rfl | omega, hI61096, hF61097, (w_p1 (by decide) (Or.inr rfl) e60844), (w_p1 (by decide) (Or.inr rfl) e60845), (w_e1 _ _ _), by omega⟩ ⟨by omega, by omega⟩
      · have c58575_ : x58561.toInt < v58574.toInt := en_i_ge_f c58575
        refine At.enter rfl ?_
        refine r_aload_n e58568 ?_
        refine q_getR (Sh.ref hI58563.1 kx_231 rfl) ?_
        refine r_iload_n e58570 ?_
        refine r_aload_n e58568 ?_
        refine r_bipush 30 rfl ?_
        refine q_inlV 56 rfl [.ref 231, .int 30] [.int x58561, .ref 248] (Nat.le_of_ble_eq_true rfl) rfl ?_
        refine Ev.mk rfl rfl ⟨Nat.le_of_ble_eq_true rfl, Or.inr (q_rc hI58563.1 kx_231 rfl)⟩ ?_
        show At _ none _ _ (0, [(0, .ref 231), (1, .int 30)], [], (_, _)) _
        refine At.enter rfl ?_
        refine r_aload_n rfl ?_
        refine r_aload_n rfl ?_
        obtain ⟨v61099, hv61099⟩ : ∃ v, gJ g58562 231 48 = v := ⟨_, rfl⟩
        refine q_getJv (Sh.long hI58563.1 kx_231 rfl) v61099 hv61099 ?_
        refine r_ldc2 1103 rfl ?_
        refine q_lmulO (fun v61100 lv61100 => ?_)
        refine r_ldc2 12345 rfl ?_
        refine q_laddO (fun v61101 lv61101 => ?_)
        refine r_ldc2 1000003 rfl ?_
        refine q_lremO (by decide) (fun v61102 _ => ?_)
        refine q_putJ (Sh.long hI58563.1 kx_231 rfl) rfl ?_
        have hI61103 := HI.wJ hI58563 kx_231 rfl (p := 231) (b := 48) (v := v61102)
        have hF61104 := Fr.wJ (p := 231) (b := 48) (v := v61102) hF58564 rfl
        refine r_aload_n rfl ?_
        refine q_getJv (Sh.long hI61103.1 kx_231 rfl) v61102 (gJ_sJ_eq hI58563.1 kx_231 rfl _) ?_
        refine r_iload_n rfl ?_
        refine r_i2l 30 rfl ?_
        refine q_lremO (by decide) (fun v61105 _ => ?_)
        refine q_l2iO (fun v61106 hv61106 => ?_)
        refine q_ireti ?_
        refine At.enter rfl ?_
        refine q_iast (Sh.arr hI61103.1 ka_248) (x58561.toInt) rfl (by omega) ?_
        have hI61107 := HI.wA0 hI61103 ka_248 (p := 248) rfl rfl (x58561.toInt) (v61106)
        have hF61108 := Fr.wA (p := 248) (j := x58561.toInt) (v := v61106) hF61104 rfl
        refine q_iinc e58570 (x58561.toInt + 1) rfl (by omega) (fun v61109 hv61109 => ?_)
        refine r_goto ?_
        exact ih58567 (8 - v61109.toInt) _ _ ⟨v61109, by first | rfl | omega, hI61107, hF61108, (w_p1 (by decide) (Or.inr rfl) e58568), (w_p1 (by decide) (Or.inr rfl) e58569), (w_e1 _ _ _), by omega⟩ ⟨by omega, by omega⟩
