def F_X11_meet_231 : List (Nat × Nat) := [(231, 0)]
def A_X11_meet_231 : List Nat := []
set_option maxRecDepth 100000 in
set_option maxHeartbeats 4000000 in
theorem T_X11_meet_231 (d : Nat) {N : Nat} {g0 : List en_E} (hI0 : HI g0) (a1 : Int32) (a2 : Int32) (a3 : Int32) : Ev (d + 5) 258 [.ref 231, .int a1, .int a2, .int a3] (g0, N) (fun w h' => ∃ g', h' = (g', N) ∧ HI g' ∧ Fr F_X11_meet_231 A_X11_meet_231 g0 g' ∧ ∃ r : Int32, w = some (.int r) ∧ ((-1) ≤ r.toInt ∧ r.toInt ≤ 99)) := by
  have hF0 : Fr F_X11_meet_231 A_X11_meet_231 g0 g0 := Fr.rf
  refine Ev.mk rfl rfl ⟨Nat.le_of_ble_eq_true rfl, Or.inr (q_rc hI0.1 kx_231 rfl)⟩ ?_
  show At _ none _ _ (0, [(0, .ref 231), (1, .int a1), (2, .int a2), (3, .int a3)], [], (_, _)) _
  refine At.enter rfl ?_
  refine r_aload_n rfl ?_
  refine r_iconst 0 rfl ?_
  refine q_putI (Sh.int hI0.1 kx_231 rfl) rfl ?_
  have hI659 := HI.wI0 hI0 kx_231 rfl (p := 231) (b := 0) (v := 0) rfl
  have hF660 := Fr.wI (p := 231) (b := 0) (v := 0) hF0 rfl
  refine r_aload_n rfl ?_
  refine r_iload_n rfl ?_
  refine q_inlV 10 rfl [.ref 231, .int a1] [] (Nat.le_of_ble_eq_true rfl) rfl ?_
  refine Ev.mk rfl rfl ⟨Nat.le_of_ble_eq_true rfl, Or.inr (q_rc hI659.1 kx_231 rfl)⟩ ?_
  show At _ none _ _ (0, [(0, .ref 231), (1, .int a1)], [], (_, _)) _
  refine At.enter rfl ?_
  refine r_iload_n rfl ?_
  refine q_i2l (fun v661 hv661 => ?_)
  refine r_lconst 0 rfl ?_
  refine r_aload_n rfl ?_
  refine q_getR (Sh.ref hI659.1 kx_231 rfl) ?_
  refine r_iconst 0 rfl ?_
  obtain ⟨v662, hv662⟩ : ∃ v, eA g0 233 0 = v := ⟨_, rfl⟩
  have tv662 := congrArg Int32.toInt hv662
  have wv662 := HI.t0 hI0
  rw [hv662] at wv662
  refine q_iald (Sh.arr hI659.1 ka_233) 0 rfl (by decide) v662 ((eA_c (gA_sI)).trans hv662) ?_
  refine q_i2l (fun v663 hv663 => ?_)
  refine r_lconst 1 rfl ?_
  refine q_lsub (v663.toInt - 1) rfl (by omega) (fun v664 hv664 => ?_)
  refine q_inlS 15 rfl [.long v661, .long 0, .long v664] [] (Nat.le_of_ble_eq_true rfl) rfl ?_
  refine Ev.mk rfl rfl ⟨Nat.le_of_ble_eq_true rfl, Or.inl rfl⟩ ?_
  show At _ none _ _ (0, [(0, .long v661), (2, .long 0), (4, .long v664)], [], (_, _)) _
  refine At.enter rfl ?_
  refine r_lload_n rfl ?_
  refine r_lload_n rfl ?_
  refine r_lcmp _ rfl ?_
  refine r_ifs 6 rfl (fun c665 => ?_) (fun c665 => ?_)
  · have c665_ : v661.toInt < 0 := en_j_lt_t c665
    refine At.enter rfl ?_
    refine r_iconst 0 rfl ?_
    refine Ar.fall 18 rfl ?_
    refine At.enter rfl ?_
    refine q_iretz (by decide) ?_
    refine At.enter rfl ?_
    refine q_iretz (by decide) ?_
    refine At.enter rfl ?_
    refine r_ift (by decide) ?_
    refine At.enter rfl ?_
    refine r_iconst (-1) rfl ?_
    refine r_ireti ?_
    exact ⟨_, rfl, hI659, hF660, _, rfl, by decide⟩
  · have c665_ : v661.toInt ≥ 0 := en_j_lt_f c665
    refine At.enter rfl ?_
    refine r_lload_n rfl ?_
    refine r_lload rfl ?_
    refine r_lcmp _ rfl ?_
    refine r_ifs 13 rfl (fun c666 => ?_) (fun c666 => ?_)
    · have c666_ : v661.toInt > v664.toInt := en_j_gt_t c666
      refine At.enter rfl ?_
      refine r_iconst 0 rfl ?_
      refine Ar.fall 18 rfl ?_
      refine At.enter rfl ?_
      refine q_iretz (by decide) ?_
      refine At.enter rfl ?_
      refine q_iretz (by decide) ?_
      refine At.enter rfl ?_
      refine r_ift (by decide) ?_
      refine At.enter rfl ?_
      refine r_iconst (-1) rfl ?_
      refine r_ireti ?_
      exact ⟨_, rfl, hI659, hF660, _, rfl, by decide⟩
    · have c666_ : v661.toInt ≤ v664.toInt := en_j_gt_f c666
      refine At.enter rfl ?_
      refine r_iconst 1 rfl ?_
      refine r_goto ?_
      refine At.enter rfl ?_
      refine q_iretz (by decide) ?_
      refine At.enter rfl ?_
      refine q_iretz (by decide) ?_
      refine At.enter rfl ?_
      refine r_iff 13 rfl (by decide) ?_
      refine At.enter rfl ?_
      refine r_aload_n rfl ?_
      refine r_iload_n rfl ?_
      refine q_inlV 18 rfl [.ref 231, .int a2] [] (Nat.le_of_ble_eq_true rfl) rfl ?_
      refine Ev.mk rfl rfl ⟨Nat.le_of_ble_eq_true rfl, Or.inr (q_rc hI659.1 kx_231 rfl)⟩ ?_
      show At _ none _ _ (0, [(0, .ref 231), (1, .int a2)], [], (_, _)) _
      refine At.enter rfl ?_
      refine r_iload_n rfl ?_
      refine q_i2l (fun v667 hv667 => ?_)
      refine r_lconst 0 rfl ?_
      refine r_aload_n rfl ?_
      refine q_getR (Sh.ref hI659.1 kx_231 rfl) ?_
      refine r_iconst 0 rfl ?_
      refine q_iald (Sh.arr hI659.1 ka_233) 0 rfl (by decide) v662 ((eA_c (gA_sI)).trans hv662) ?_
      refine q_i2l (fun v668 hv668 => ?_)
      refine r_lconst 1 rfl ?_
      refine q_lsub (v668.toInt - 1) rfl (by omega) (fun v669 hv669 => ?_)
      refine q_inlS 15 rfl [.long v667, .long 0, .long v669] [] (Nat.le_of_ble_eq_true rfl) rfl ?_
      refine Ev.mk rfl rfl ⟨Nat.le_of_ble_eq_true rfl, Or.inl rfl⟩ ?_
      show At _ none _ _ (0, [(0, .long v667), (2, .long 0), (4, .long v669)], [], (_, _)) _
      refine At.enter rfl ?_
      refine r_lload_n rfl ?_
      refine r_lload_n rfl ?_
      refine r_lcmp _ rfl ?_
      refine r_ifs 6 rfl (fun c670 => ?_) (fun c670 => ?_)
      · have c670_ : v667.toInt < 0 := en_j_lt_t c670
        refine At.enter rfl ?_
        refine r_iconst 0 rfl ?_
        refine Ar.fall 18 rfl ?_
        refine At.enter rfl ?_
        refine q_iretz (by decide) ?_
        refine At.enter rfl ?_
        refine q_iretz (by decide) ?_
        refine At.enter rfl ?_
        refine r_ift (by decide) ?_
        refine At.enter rfl ?_
        refine r_iconst (-1) rfl ?_
        refine r_ireti ?_
        exact ⟨_, rfl, hI659, hF660, _, rfl, by decide⟩
      · have c670_ : v667.toInt ≥ 0 := en_j_lt_f c670
        refine At.enter rfl ?_
        refine r_lload_n rfl ?_
        refine r_lload rfl ?_
        refine r_lcmp _ rfl ?_
        refine r_ifs 13 rfl (fun c671 => ?_) (fun c671 => ?_)
        · have c671_ : v667.toInt > v669.toInt := en_j_gt_t c671
          refine At.enter rfl ?_
          refine r_iconst 0 rfl ?_
          refine Ar.fall 18 rfl ?_
          refine At.enter rfl ?_
          refine q_iretz (by decide) ?_
          refine At.enter rfl ?_
          refine q_iretz (by decide) ?_
          refine At.enter rfl ?_
          refine r_ift (by decide) ?_
          refine At.enter rfl ?_
          refine r_iconst (-1) rfl ?_
          refine r_ireti ?_
          exact ⟨_, rfl, hI659, hF660, _, rfl, by decide⟩
        · have c671_ : v667.toInt ≤ v669.toInt := en_j_gt_f c671
          refine At.enter rfl ?_
          refine r_iconst 1 rfl ?_
          refine r_goto ?_
          refine At.enter rfl ?_
          refine q_iretz (by decide) ?_
          refine At.enter rfl ?_
          refine q_iretz (by decide) ?_
          refine At.enter rfl ?_
          refine r_iff 21 rfl (by decide) ?_
          refine At.enter rfl ?_
          refine r_iload_n rfl ?_
          refine q_i2l (fun v672 hv672 => ?_)
          refine r_lconst 0 rfl ?_
          refine r_lconst 1 rfl ?_
          refine q_inlS 28 rfl [.long v672, .long 0, .long 1] [] (Nat.le_of_ble_eq_true rfl) rfl ?_
          refine Ev.mk rfl rfl ⟨Nat.le_of_ble_eq_true rfl, Or.inl rfl⟩ ?_
          show At _ none _ _ (0, [(0, .long v672), (2, .long 0), (4, .long 1)], [], (_, _)) _
          refine At.enter rfl ?_
          refine r_lload_n rfl ?_
          refine r_lload_n rfl ?_
          refine r_lcmp _ rfl ?_
          refine r_ifs 6 rfl (fun c673 => ?_) (fun c673 => ?_)
          · have c673_ : v672.toInt < 0 := en_j_lt_t c673
            refine At.enter rfl ?_
            refine r_iconst 0 rfl ?_
            refine Ar.fall 18 rfl ?_
            refine At.enter rfl ?_
            refine q_iretz (by decide) ?_
            refine At.enter rfl ?_
            refine r_iff 31 rfl (by decide) ?_
            refine At.enter rfl ?_
            refine r_iconst (-1) rfl ?_
            refine r_ireti ?_
            exact ⟨_, rfl, hI659, hF660, _, rfl, by decide⟩
          · have c673_ : v672.toInt ≥ 0 := en_j_lt_f c673
            refine At.enter rfl ?_
            refine r_lload_n rfl ?_
            refine r_lload rfl ?_
            refine r_lcmp _ rfl ?_
            refine r_ifs 13 rfl (fun c674 => ?_) (fun c674 => ?_)
            · have c674_ : v672.toInt > 1 := en_j_gt_t c674
              refine At.enter rfl ?_
              refine r_iconst 0 rfl ?_
              refine Ar.fall 18 rfl ?_
              refine At.enter rfl ?_
              refine q_iretz (by decide) ?_
              refine At.enter rfl ?_
              refine r_iff 31 rfl (by decide) ?_
              refine At.enter rfl ?_
              refine r_iconst (-1) rfl ?_
              refine r_ireti ?_
              exact ⟨_, rfl, hI659, hF660, _, rfl, by decide⟩
            · have c674_ : v672.toInt ≤ 1 := en_j_gt_f c674
              refine At.enter rfl ?_
              refine r_iconst 1 rfl ?_
              refine r_goto ?_
              refine At.enter rfl ?_
              refine q_iretz (by decide) ?_
              refine At.enter rfl ?_
              refine r_ift (by decide) ?_
              refine At.enter rfl ?_
              refine r_iconst 0 rfl ?_
              refine r_istore ([(4, .int 0), (0, .ref 231), (1, .int a1), (2, .int a2), (3, .int a3)]) rfl ?_
              refine Ar.fall 36 rfl ?_
              have z_968 : (0 : Int32).toInt = 0 := rfl
              refine w_loopI (fun n_ l_ g_ => ∃ x955 : Int32, n_ = 100 - x955.toInt ∧ HI g_ ∧ Fr F_X11_meet_231 A_X11_meet_231 g0 g_ ∧ en_get 0 l_ = some (.ref 231) ∧ en_get 1 l_ = some (.int a1) ∧ en_get 2 l_ = some (.int a2) ∧ en_get 3 l_ = some (.int a3) ∧ en_get 4 l_ = some (.int x955) ∧ (0 ≤ x955.toInt ∧ x955.toInt ≤ 100)) ?_ (100 - 0) ⟨0, by first | rfl | omega, hI659, hF660, rfl, rfl, rfl, rfl, rfl, by decide⟩
              rintro n960 l959 g956 ⟨x955, hm969, hI957, hF958, e962, e963, e964, e965, e966, r967⟩ ih961
              refine At.enter rfl ?_
              refine r_iload e966 ?_
              refine r_bipush 100 rfl ?_
              refine r_ics 43 rfl (fun c970 => ?_) (fun c970 => ?_)
              · have c970_ : x955.toInt ≥ 100 := en_i_ge_t c970
                refine At.enter rfl ?_
                refine r_iconst (-1) rfl ?_
                refine r_ireti ?_
                exact ⟨_, rfl, hI957, hF958, _, rfl, by decide⟩
              · have c970_ : x955.toInt < 100 := en_i_ge_f c970
                refine At.enter rfl ?_
                refine r_aload_n e962 ?_
                refine r_iload_n e963 ?_
                refine r_iload e966 ?_
                refine r_callV 50 rfl [.ref 231, .int a1, .int x955] [] (Nat.le_of_ble_eq_true rfl) rfl (T_X11_after_231 _ hI957 a1 (by omega) x955) ?_
                rintro _ _ ⟨g971, rfl, hI972, hF973, v974, rfl, hr975⟩
                refine At.sti ?_
                have hF976 := Fr.tr hF958 hF973 rfl rfl
                refine At.enter rfl ?_
                refine r_istore _ rfl ?_
                refine r_iload (w_e1 _ _ _) ?_
                refine r_iconst (-1) rfl ?_
                refine r_ics 58 rfl (fun c977 => ?_) (fun c977 => ?_)
                · have c977_ : v974.toInt = (-1) := en_i_eq_t c977
                  refine At.enter rfl ?_
                  refine q_iinc (w_p1 (by decide) (Or.inr rfl) e966) (x955.toInt + 1) rfl (by omega) (fun v978 hv978 => ?_)
                  refine r_goto ?_
                  exact ih961 (100 - v978.toInt) _ _ ⟨v978, by first | rfl | omega, hI972, hF976, (w_p1 (by decide) (Or.inr rfl) (w_p1 (by decide) (Or.inr rfl) e962)), (w_p1 (by decide) (Or.inr rfl) (w_p1 (by decide) (Or.inr rfl) e963)), (w_p1 (by decide) (Or.inr rfl) (w_p1 (by decide) (Or.inr rfl) e964)), (w_p1 (by decide) (Or.inr rfl) (w_p1 (by decide) (Or.inr rfl) e965)), (w_e1 _ _ _), by omega⟩ ⟨by omega, by omega⟩
                · have c977_ : v974.toInt ≠ (-1) := en_i_eq_f c977
                  refine At.enter rfl ?_
                  refine r_iload (w_e1 _ _ _) ?_
                  refine r_aload_n (w_p1 (by decide) (Or.inr rfl) e962) ?_
                  refine r_iload_n (w_p1 (by decide) (Or.inr rfl) e964) ?_
                  refine r_iload (w_p1 (by decide) (Or.inr rfl) e966) ?_
                  refine r_callV 67 rfl [.ref 231, .int a2, .int x955] [.int v974] (Nat.le_of_ble_eq_true rfl) rfl (T_X11_after_231 _ hI972 a2 (by omega) x955) ?_
                  rintro _ _ ⟨g979, rfl, hI980, hF981, v982, rfl, hr983⟩
                  refine At.sti ?_
                  have hF984 := Fr.tr hF976 hF981 rfl rfl
                  refine At.enter rfl ?_
                  refine r_ics 70 rfl (fun c985 => ?_) (fun c985 => ?_)
                  · have c985_ : v974.toInt ≠ v982.toInt := en_i_ne_t c985
                    refine At.enter rfl ?_
                    refine q_iinc (w_p1 (by decide) (Or.inr rfl) e966) (x955.toInt + 1) rfl (by omega) (fun v986 hv986 => ?_)
                    refine r_goto ?_
                    exact ih961 (100 - v986.toInt) _ _ ⟨v986, by first | rfl | omega, hI980, hF984, (w_p1 (by decide) (Or.inr rfl) (w_p1 (by decide) (Or.inr rfl) e962)), (w_p1 (by decide) (Or.inr rfl) (w_p1 (by decide) (Or.inr rfl) e963)), (w_p1 (by decide) (Or.inr rfl) (w_p1 (by decide) (Or.inr rfl) e964)), (w_p1 (by decide) (Or.inr rfl) (w_p1 (by decide) (Or.inr rfl) e965)), (w_e1 _ _ _), by omega⟩ ⟨by omega, by omega⟩
                  · have c985_ : v974.toInt = v982.toInt := en_i_ne_f c985
                    refine At.enter rfl ?_
                    refine r_iload_n (w_p1 (by decide) (Or.inr rfl) e965) ?_
                    refine r_ifs 74 rfl (fun c987 => ?_) (fun c987 => ?_)
                    · have c987_ : a3.toInt ≠ 0 := en_k_ne_t c987
                      refine At.enter rfl ?_
                      refine r_iload (w_e1 _ _ _) ?_
                      refine Ar.fall 81 rfl ?_
                      refine At.enter rfl ?_
                      refine r_ireti ?_
                      exact ⟨_, rfl, hI980, hF984, _, rfl, by omega⟩
                    · have c987_ : a3.toInt = 0 := en_k_ne_f c987
                      refine At.enter rfl ?_
                      refine r_iload (w_p1 (by decide) (Or.inr rfl) e966) ?_
                      refine r_goto ?_
                      refine At.enter rfl ?_
                      refine r_ireti ?_
                      exact ⟨_, rfl, hI980, hF984, _, rfl, by omega⟩

def F_X11_byNoon_231 : List (Nat × Nat) := []
def A_X11_byNoon_231 : List Nat := []
set_option maxRecDepth 100000 in
set_option maxHeartbeats 4000000 in
theorem T_X11_byNoon_231 (d : Nat) {N : Nat} {g0 : List en_E} (hI0 : HI g0) : Ev (d + 1) 260 [.ref 231] (g0, N) (fun w h' => ∃ g', h' = (g', N) ∧ HI g' ∧ Fr F_X11_byNoon_231 A_X11_byNoon_231 g0 g' ∧ ∃ r : Int32, w = some (.int r) ∧ (0 ≤ r.toInt ∧ r.toInt ≤ 8)) := by
  have hF0 : Fr F_X11_byNoon_231 A_X11_byNoon_231 g0 g0 := Fr.rf
  refine Ev.mk rfl rfl ⟨Nat.le_of_ble_eq_true rfl, Or.inr (q_rc hI0.1 kx_231 rfl)⟩ ?_
  show At _ none _ _ (0, [(0, .ref 231)], [], (_, _)) _
  refine At.enter rfl ?_
  refine r_iconst 0 rfl ?_
  refine r_istore_n ([(1, .int 0), (0, .ref 231)]) rfl ?_
  refine r_iconst 0 rfl ?_
  refine r_istore_n ([(2, .int 0), (1, .int 0), (0, .ref 231)]) rfl ?_
  refine Ar.fall 4 rfl ?_
  have z_1404 : (0 : Int32).toInt = 0 := rfl
  have z_1405 : (0 : Int32).toInt = 0 := rfl
  refine w_loopI (fun n_ l_ g_ => ∃ x1390 : Int32, ∃ x1391 : Int32, n_ = 8 - x1391.toInt ∧ HI g_ ∧ Fr F_X11_byNoon_231 A_X11_byNoon_231 g0 g_ ∧ en_get 0 l_ = some (.ref 231) ∧ en_get 1 l_ = some (.int x1390) ∧ en_get 2 l_ = some (.int x1391) ∧ (0 ≤ x1390.toInt ∧ x1390.toInt ≤ 8) ∧ (0 ≤ x1391.toInt ∧ x1391.toInt ≤ 8) ∧ (x1390.toInt ≤ x1391.toInt)) ?_ (8 - 0) ⟨0, 0, by first | rfl | omega, hI0, hF0, rfl, rfl, rfl, by decide, by decide, by omega⟩
  rintro n1396 l1395 g1392 ⟨x1390, x1391, hm1406, hI1393, hF1394, e1398, e1399, e1400, r1401, r1402, q1403⟩ ih1397
  refine At.enter rfl ?_
  refine r_iload_n e1400 ?_
  refine r_aload_n e1398 ?_
  refine q_getR (Sh.ref hI1393.1 kx_231 rfl) ?_
  refine r_iconst 1 rfl ?_
  obtain ⟨v1407, hv1407⟩ : ∃ v, eA g0 233 1 = v := ⟨_, rfl⟩
  have tv1407 := congrArg Int32.toInt hv1407
  have wv1407 := HI.t1 hI0
  rw [hv1407] at wv1407
  refine q_iald (Sh.arr hI1393.1 ka_233) 1 rfl (by decide) v1407 ((eA_c (hF1394.2.1 233 (by decide))).trans hv1407) ?_
  have bv1409 := q_bnd x1391
  have bv1410 := q_bnd v1407
  refine r_ics 14 rfl (fun c1408 => ?_) (fun c1408 => ?_)
  · have c1408_ : x1391.toInt ≥ v1407.toInt := en_i_ge_t c1408
    refine At.enter rfl ?_
    refine r_iload_n e1399 ?_
    refine r_ireti ?_
    exact ⟨_, rfl, hI1393, hF1394, _, rfl, by omega⟩
  · have c1408_ : x1391.toInt < v1407.toInt := en_i_ge_f c1408
    refine At.enter rfl ?_
    refine r_iload_n e1399 ?_
    refine r_aload_n e1398 ?_
    refine q_getR (Sh.ref hI1393.1 kx_231 rfl) ?_
    refine r_iload_n e1400 ?_
    obtain ⟨v1411, hv1411⟩ : ∃ v, eA g0 253 x1391.toInt = v := ⟨_, rfl⟩
    refine q_iald (Sh.arr hI1393.1 ka_253) x1391.toInt rfl (by omega) v1411 ((eA_c (hF1394.2.1 253 (by decide))).trans hv1411) ?_
    refine r_iconst (-1) rfl ?_
    refine r_ics 25 rfl (fun c1412 => ?_) (fun c1412 => ?_)
    · have c1412_ : v1411.toInt = (-1) := en_i_eq_t c1412
      refine At.enter rfl ?_
      refine r_iconst 0 rfl ?_
      refine Ar.fall 45 rfl ?_
      refine At.enter rfl ?_
      refine q_iadd (x1390.toInt + 0) rfl (by omega) (fun v1413 hv1413 => ?_)
      refine r_istore_n _ rfl ?_
      refine q_iinc (w_p1 (by decide) (Or.inr rfl) e1400) (x1391.toInt + 1) rfl (by omega) (fun v1414 hv1414 => ?_)
      refine r_goto ?_
      exact ih1397 (8 - v1414.toInt) _ _ ⟨v1413, v1414, by first | rfl | omega, hI1393, hF1394, (w_p1 (by decide) (Or.inr rfl) (w_p1 (by decide) (Or.inr rfl) e1398)), (w_p1 (by decide) (Or.inr rfl) (w_e1 _ _ _)), (w_e1 _ _ _), by omega, by omega, by omega⟩ ⟨by omega, by omega⟩
    · have c1412_ : v1411.toInt ≠ (-1) := en_i_eq_f c1412
      refine At.enter rfl ?_
      refine r_aload_n e1398 ?_
      refine q_getR (Sh.ref hI1393.1 kx_231 rfl) ?_
      refine r_iload_n e1400 ?_
      refine q_iald (Sh.arr hI1393.1 ka_253) x1391.toInt rfl (by omega) v1411 ((eA_c (hF1394.2.1 253 (by decide))).trans hv1411) ?_
      refine r_aload_n e1398 ?_
      refine q_getR (Sh.ref hI1393.1 kx_231 rfl) ?_
      refine r_iconst 5 rfl ?_
      obtain ⟨v1415, hv1415⟩ : ∃ v, eA g0 233 5 = v := ⟨_, rfl⟩
      have wv1415 := HI.t5 hI0
      rw [hv1415] at wv1415
      refine q_iald (Sh.arr hI1393.1 ka_233) 5 rfl (by decide) v1415 ((eA_c (hF1394.2.1 233 (by decide))).trans hv1415) ?_
      have bv1417 := q_bnd v1411
      have bv1418 := q_bnd v1415
      refine r_ics 40 rfl (fun c1416 => ?_) (fun c1416 => ?_)
      · have c1416_ : v1411.toInt > v1415.toInt := en_i_gt_t c1416
        refine At.enter rfl ?_
        refine r_iconst 0 rfl ?_
        refine Ar.fall 45 rfl ?_
        refine At.enter rfl ?_
        refine q_iadd (x1390.toInt + 0) rfl (by omega) (fun v1419 hv1419 => ?_)
        refine r_istore_n _ rfl ?_
        refine q_iinc (w_p1 (by decide) (Or.inr rfl) e1400) (x1391.toInt + 1) rfl (by omega) (fun v1420 hv1420 => ?_)
        refine r_goto ?_
        exact ih1397 (8 - v1420.toInt) _ _ ⟨v1419, v1420, by first | rfl | omega, hI1393, hF1394, (w_p1 (by decide) (Or.inr rfl) (w_p1 (by decide) (Or.inr rfl) e1398)), (w_p1 (by decide) (Or.inr rfl) (w_e1 _ _ _)), (w_e1 _ _ _), by omega, by omega, by omega⟩ ⟨by omega, by omega⟩
      · have c1416_ : v1411.toInt ≤ v1415.toInt := en_i_gt_f c1416
        refine At.enter rfl ?_
        refine r_iconst 1 rfl ?_
        refine r_goto ?_
        refine At.enter rfl ?_
        refine q_iadd (x1390.toInt + 1) rfl (by omega) (fun v1421 hv1421 => ?_)
        refine r_istore_n _ rfl ?_
        refine q_iinc (w_p1 (by decide) (Or.inr rfl) e1400) (x1391.toInt + 1) rfl (by omega) (fun v1422 hv1422 => ?_)
        refine r_goto ?_
        exact ih1397 (8 - v1422.toInt) _ _ ⟨v1421, v1422, by first | rfl | omega, hI1393, hF1394, (w_p1 (by decide) (Or.inr rfl) (w_p1 (by decide) (Or.inr rfl) e1398)), (w_p1 (by decide) (Or.inr rfl) (w_e1 _ _ _)), (w_e1 _ _ _), by omega, by omega, by omega⟩ ⟨by omega, by omega⟩
