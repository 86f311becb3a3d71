def F_X7_tryNone_220 : List (Nat × Nat) := [(185, 3), (204, 16), (204, 18), (220, 4)]
def A_X7_tryNone_220 : List Nat := [210, 211, 212, 213, 214, 215, 216, 218, 221]
set_option maxRecDepth 100000 in
set_option maxHeartbeats 4000000 in
theorem T_X7_tryNone_220 (d : Nat) {N : Nat} {g0 : List en_E} (hI0 : HI g0) : Ev (d + 6) 86 [.ref 220] (g0, N) (fun w h' => ∃ g', h' = (g', N) ∧ HI g' ∧ Fr F_X7_tryNone_220 A_X7_tryNone_220 g0 g' ∧ w = none) := by
  have hF0 : Fr F_X7_tryNone_220 A_X7_tryNone_220 g0 g0 := Fr.rf
  refine Ev.mk rfl rfl ⟨Nat.le_of_ble_eq_true rfl, Or.inr (q_rc hI0.1 kx_220 rfl)⟩ ?_
  show At _ none _ _ (0, [(0, .ref 220)], [], (_, _)) _
  refine At.enter rfl ?_
  refine r_aload_n rfl ?_
  refine q_getR (Sh.ref hI0.1 kx_220 rfl) ?_
  refine r_aload_n rfl ?_
  obtain ⟨v31, hv31⟩ : ∃ v, gI g0 220 2 = v := ⟨_, rfl⟩
  refine q_getI (Sh.int hI0.1 kx_220 rfl) v31 hv31 ?_
  refine r_aload_n rfl ?_
  refine q_getR (Sh.ref hI0.1 kx_220 rfl) ?_
  obtain ⟨v32, hv32⟩ : ∃ v, gI g0 1 10 = v := ⟨_, rfl⟩
  refine q_getI (Sh.int hI0.1 kx_1 rfl) v32 hv32 ?_
  refine r_callV 18 rfl [.ref 204, .int v31, .int v32] [] (Nat.le_of_ble_eq_true rfl) rfl (T_X1_comesBy_204 _ hI0 v31 v32) ?_
  rintro _ _ ⟨g33, rfl, hI34, hF35, v36, rfl, hr37⟩
  refine At.sti ?_
  have hF38 := Fr.tr hF0 hF35 rfl rfl
  refine At.enter rfl ?_
  refine r_ifs 21 rfl (fun c39 => ?_) (fun c39 => ?_)
  · have c39_ : v36.toInt = 0 := en_k_eq_t c39
    refine At.enter rfl ?_
    refine r_vret ?_
    exact ⟨_, rfl, hI34, hF38, rfl⟩
  · have c39_ : v36.toInt ≠ 0 := en_k_eq_f c39
    refine At.enter rfl ?_
    refine r_aload_n rfl ?_
    refine r_iconst (-1) rfl ?_
    refine r_iconst (-1) rfl ?_
    refine r_iconst (-1) rfl ?_
    refine r_iconst (-1) rfl ?_
    refine r_iconst 1 rfl ?_
    refine r_callV 30 rfl [.ref 220, .int (-1), .int (-1), .int (-1), .int (-1), .int 1] [] (Nat.le_of_ble_eq_true rfl) rfl (T_X7_found_220 _ hI34 (-1) (-1) (-1) (-1) 1 (by decide)) ?_
    rintro _ _ ⟨g40, rfl, hI41, hF42, rfl⟩
    refine At.stn ?_
    have hF45 := Fr.tr hF38 hF42 rfl rfl
    refine At.enter rfl ?_
    refine r_vret ?_
    exact ⟨_, rfl, hI41, hF45, rfl⟩

def F_X7_tryOne_220 : List (Nat × Nat) := [(185, 3), (204, 16), (204, 18), (220, 4)]
def A_X7_tryOne_220 : List Nat := [205, 206, 210, 211, 212, 213, 214, 215, 216, 218, 221]
theorem mf_X7_change_220_220_2 : memF F_X7_change_220 220 2 = false := by decide
theorem mf_X7_change_220_1_10 : memF F_X7_change_220 1 10 = false := by decide
set_option maxRecDepth 100000 in
set_option maxHeartbeats 4000000 in
theorem T_X7_tryOne_220 (d : Nat) {N : Nat} {g0 : List en_E} (hI0 : HI g0) : Ev (d + 6) 87 [.ref 220] (g0, N) (fun w h' => ∃ g', h' = (g', N) ∧ HI g' ∧ Fr F_X7_tryOne_220 A_X7_tryOne_220 g0 g' ∧ w = none) := by
  have hF0 : Fr F_X7_tryOne_220 A_X7_tryOne_220 g0 g0 := Fr.rf
  refine Ev.mk rfl rfl ⟨Nat.le_of_ble_eq_true rfl, Or.inr (q_rc hI0.1 kx_220 rfl)⟩ ?_
  show At _ none _ _ (0, [(0, .ref 220)], [], (_, _)) _
  refine At.enter rfl ?_
  refine r_iconst 0 rfl ?_
  refine r_istore_n ([(1, .int 0), (0, .ref 220)]) rfl ?_
  refine Ar.fall 2 rfl ?_
  have z_6544 : (0 : Int32).toInt = 0 := rfl
  refine w_loopI (fun n_ l_ g_ => ∃ x6534 : Int32, n_ = 12 - x6534.toInt ∧ HI g_ ∧ Fr F_X7_tryOne_220 A_X7_tryOne_220 g0 g_ ∧ en_get 0 l_ = some (.ref 220) ∧ en_get 1 l_ = some (.int x6534) ∧ (0 ≤ x6534.toInt ∧ x6534.toInt ≤ 12)) ?_ (12 - 0) ⟨0, by first | rfl | omega, hI0, hF0, rfl, rfl, by decide⟩
  rintro n6539 l6538 g6535 ⟨x6534, hm6545, hI6536, hF6537, e6541, e6542, r6543⟩ ih6540
  refine At.enter rfl ?_
  refine r_iload_n e6542 ?_
  refine r_aload_n e6541 ?_
  refine q_getR (Sh.ref hI6536.1 kx_220 rfl) ?_
  obtain ⟨v6546, hv6546⟩ : ∃ v, gI g0 1 0 = v := ⟨_, rfl⟩
  have rv6546 := RgF.at hI0.2.1 (p := 1) (b := 0) rfl
  rw [hv6546] at rv6546
  dsimp only at rv6546
  refine q_getI (Sh.int hI6536.1 kx_1 rfl) v6546 ((hF6537.1 1 0 (by decide)).trans hv6546) ?_
  have bv6548 := q_bnd x6534
  have bv6549 := q_bnd v6546
  refine r_ics 13 rfl (fun c6547 => ?_) (fun c6547 => ?_)
  · have c6547_ : x6534.toInt ≥ v6546.toInt := en_i_ge_t c6547
    refine At.enter rfl ?_
    refine r_vret ?_
    exact ⟨_, rfl, hI6536, hF6537, rfl⟩
  · have c6547_ : x6534.toInt < v6546.toInt := en_i_ge_f c6547
    refine At.enter rfl ?_
    refine r_iload_n e6542 ?_
    refine r_iconst 1 rfl ?_
    refine q_iadd (x6534.toInt + 1) rfl (by omega) (fun v6550 hv6550 => ?_)
    refine r_istore_n _ rfl ?_
    refine Ar.fall 17 rfl ?_
    refine w_loopI (fun n_ l_ g_ => ∃ x6591 : Int32, n_ = 12 - x6591.toInt ∧ HI g_ ∧ Fr F_X7_tryOne_220 A_X7_tryOne_220 g0 g_ ∧ en_get 0 l_ = some (.ref 220) ∧ en_get 1 l_ = some (.int x6534) ∧ en_get 2 l_ = some (.int x6591) ∧ (1 ≤ x6591.toInt ∧ x6591.toInt ≤ 12)) ?_ (12 - v6550.toInt) ⟨v6550, by first | rfl | omega, hI6536, hF6537, (w_p1 (by decide) (Or.inr rfl) e6541), (w_p1 (by decide) (Or.inr rfl) e6542), (w_e1 _ _ _), by omega⟩
    rintro n6596 l6595 g6592 ⟨x6591, hm6602, hI6593, hF6594, e6598, e6599, e6600, r6601⟩ ih6597
    refine At.enter rfl ?_
    refine r_iload_n e6600 ?_
    refine r_aload_n e6598 ?_
    refine q_getR (Sh.ref hI6593.1 kx_220 rfl) ?_
    refine q_getI (Sh.int hI6593.1 kx_1 rfl) v6546 ((hF6594.1 1 0 (by decide)).trans hv6546) ?_
    have bv6604 := q_bnd x6591
    refine r_ics 28 rfl (fun c6603 => ?_) (fun c6603 => ?_)
    · have c6603_ : x6591.toInt ≥ v6546.toInt := en_i_ge_t c6603
      refine At.enter rfl ?_
      refine q_iinc e6599 (x6534.toInt + 1) rfl (by omega) (fun v6605 hv6605 => ?_)
      refine r_goto ?_
      exact ih6540 (12 - v6605.toInt) _ _ ⟨v6605, by first | rfl | omega, hI6593, hF6594, (w_p1 (by decide) (Or.inr rfl) e6598), (w_e1 _ _ _), by omega⟩ ⟨by omega, by omega⟩
    · have c6603_ : x6591.toInt < v6546.toInt := en_i_ge_f c6603
      refine At.enter rfl ?_
      refine r_aload_n e6598 ?_
      refine r_iload_n e6599 ?_
      refine r_iload_n e6600 ?_
      refine r_callV 34 rfl [.ref 220, .int x6534, .int x6591] [] (Nat.le_of_ble_eq_true rfl) rfl (T_X7_change_220 _ hI6593 x6534 (by omega) x6591 (by omega)) ?_
      rintro _ _ ⟨g6606, rfl, hI6607, hF6608, rfl⟩
      refine At.stn ?_
      have hF6611 := Fr.tr hF6594 hF6608 rfl rfl
      refine At.enter rfl ?_
      refine r_aload_n e6598 ?_
      refine q_getR (Sh.ref hI6607.1 kx_220 rfl) ?_
      refine r_aload_n e6598 ?_
      obtain ⟨v6612, hv6612⟩ : ∃ v, gI g0 220 2 = v := ⟨_, rfl⟩
      refine q_getI (Sh.int hI6607.1 kx_220 rfl) v6612 (((hF6608.1 220 2 mf_X7_change_220_220_2).trans (hF6594.1 220 2 (by decide))).trans hv6612) ?_
      refine r_aload_n e6598 ?_
      refine q_getR (Sh.ref hI6607.1 kx_220 rfl) ?_
      obtain ⟨v6613, hv6613⟩ : ∃ v, gI g0 1 10 = v := ⟨_, rfl⟩
      refine q_getI (Sh.int hI6607.1 kx_1 rfl) v6613 (((hF6608.1 1 10 mf_X7_change_220_1_10).trans (hF6594.1 1 10 (by decide))).trans hv6613) ?_
      refine r_callV 52 rfl [.ref 204, .int v6612, .int v6613] [] (Nat.le_of_ble_eq_true rfl) rfl (T_X1_comesBy_204 _ hI6607 v6612 v6613) ?_
      rintro _ _ ⟨g6614, rfl, hI6615, hF6616, v6617, rfl, hr6618⟩
      refine At.sti ?_
      have hF6619 := Fr.tr hF6611 hF6616 rfl rfl
      refine At.enter rfl ?_
      refine r_ifs 55 rfl (fun c6620 => ?_) (fun c6620 => ?_)
      · have c6620_ : v6617.toInt = 0 := en_k_eq_t c6620
        refine At.enter rfl ?_
        refine r_aload_n e6598 ?_
        refine r_iload_n e6599 ?_
        refine r_iload_n e6600 ?_
        refine r_callV 70 rfl [.ref 220, .int x6534, .int x6591] [] (Nat.le_of_ble_eq_true rfl) rfl (T_X7_change_220 _ hI6615 x6534 (by omega) x6591 (by omega)) ?_
        rintro _ _ ⟨g6621, rfl, hI6622, hF6623, rfl⟩
        refine At.stn ?_
        have hF6626 := Fr.tr hF6619 hF6623 rfl rfl
        refine At.enter rfl ?_
        refine q_iinc e6600 (x6591.toInt + 1) rfl (by omega) (fun v6627 hv6627 => ?_)
        refine r_goto ?_
        exact ih6597 (12 - v6627.toInt) _ _ ⟨v6627, by first | rfl | omega, hI6622, hF6626, (w_p1 (by decide) (Or.inr rfl) e6598), (w_p1 (by decide) (Or.inr rfl) e6599), (w_e1 _ _ _), by omega⟩ ⟨by omega, by omega⟩
      · have c6620_ : v6617.toInt ≠ 0 := en_k_eq_f c6620
        refine At.enter rfl ?_
        refine r_aload_n e6598 ?_
        refine r_iload_n e6599 ?_
        refine r_iload_n e6600 ?_
        refine r_iconst (-1) rfl ?_
        refine r_iconst (-1) rfl ?_
        refine r_iconst 1 rfl ?_
        refine r_callV 64 rfl [.ref 220, .int x6534, .int x6591, .int (-1), .int (-1), .int 1] [] (Nat.le_of_ble_eq_true rfl) rfl (T_X7_found_220 _ hI6615 x6534 x6591 (-1) (-1) 1 (by decide)) ?_
        rintro _ _ ⟨g6628, rfl, hI6629, hF6630, rfl⟩
        refine At.stn ?_
        have hF6633 := Fr.tr hF6619 hF6630 rfl rfl
        refine At.enter rfl ?_
        refine r_aload_n e6598 ?_
        refine r_iload_n e6599 ?_
        refine r_iload_n e6600 ?_
        refine r_callV 70 rfl [.ref 220, .int x6534, .int x6591] [] (Nat.le_of_ble_eq_true rfl) rfl (T_X7_change_220 _ hI6629 x6534 (by omega) x6591 (by omega)) ?_
        rintro _ _ ⟨g6634, rfl, hI6635, hF6636, rfl⟩
        refine At.stn ?_
        have hF6639 := Fr.tr hF6633 hF6636 rfl rfl
        refine At.enter rfl ?_
        refine q_iinc e6600 (x6591.toInt + 1) rfl (by omega) (fun v6640 hv6640 => ?_)
        refine r_goto ?_
        exact ih6597 (12 - v6640.toInt) _ _ ⟨v6640, by first | rfl | omega, hI6635, hF6639, (w_p1 (by decide) (Or.inr rfl) e6598), (w_p1 (by decide) (Or.inr rfl) e6599), (w_e1 _ _ _), by omega⟩ ⟨by omega, by omega⟩

def F_X7_tryTwo_220 : List (Nat × Nat) := [(185, 3), (204, 16), (204, 18), (220, 4)]
def A_X7_tryTwo_220 : List Nat := [205, 206, 210, 211, 212, 213, 214, 215, 216, 218, 221]
theorem mf_X7_rowsLike_220_2 : memF F_X7_rowsLike 220 2 = false := by decide
theorem mf_X7_rowsLike_1_10 : memF F_X7_rowsLike 1 10 = false := by decide
set_option maxRecDepth 100000 in
set_option maxHeartbeats 4000000 in
theorem T_X7_tryTwo_220 (d : Nat) {N : Nat} {g0 : List en_E} (hI0 : HI g0) : Ev (d + 6) 88 [.ref 220] (g0, N) (fun w h' => ∃ g', h' = (g', N) ∧ HI g' ∧ Fr F_X7_tryTwo_220 A_X7_tryTwo_220 g0 g' ∧ w = none) := by
  have hF0 : Fr F_X7_tryTwo_220 A_X7_tryTwo_220 g0 g0 := Fr.rf
  refine Ev.mk rfl rfl ⟨Nat.le_of_ble_eq_true rfl, Or.inr (q_rc hI0.1 kx_220 rfl)⟩ ?_
  show At _ none _ _ (0, [(0, .ref 220)], [], (_, _)) _
  refine At.enter rfl ?_
  refine r_iconst 0 rfl ?_
  refine r_istore_n ([(1, .int 0), (0, .ref 220)]) rfl ?_
  refine Ar.fall 2 rfl ?_
  have z_260994 : (0 : Int32).toInt = 0 := rfl
  refine w_loopI (fun n_ l_ g_ => ∃ x260984 : Int32, n_ = 12 - x260984.toInt ∧ HI g_ ∧ Fr F_X7_tryTwo_220 A_X7_tryTwo_220 g0 g_ ∧ en_get 0 l_ = some (.ref 220) ∧ en_get 1 l_ = some (.int x260984) ∧ (0 ≤ x260984.toInt ∧ x260984.toInt ≤ 12)) ?_ (12 - 0) ⟨0, by first | rfl | omega, hI0, hF0, rfl, rfl, by decide⟩
  rintro n260989 l260988 g260985 ⟨x260984, hm260995, hI260986, hF260987, e260991, e260992, r260993⟩ ih260990
  refine At.enter rfl ?_
  refine r_iload_n e260992 ?_
  refine r_aload_n e260991 ?_
  refine q_getR (Sh.ref hI260986.1 kx_220 rfl) ?_
  obtain ⟨v260996, hv260996⟩ : ∃ v, gI g0 1 0 = v := ⟨_, rfl⟩
  have rv260996 := RgF.at hI0.2.1 (p := 1) (b := 0) rfl
  rw [hv260996] at rv260996
  dsimp only at rv260996
  refine q_getI (Sh.int hI260986.1 kx_1 rfl) v260996 ((hF260987.1 1 0 (by decide)).trans hv260996) ?_
  have bv260998 := q_bnd x260984
  have bv260999 := q_bnd v260996
  refine r_ics 13 rfl (fun c260997 => ?_) (fun c260997 => ?_)
  · have c260997_ : x260984.toInt ≥ v260996.toInt := en_i_ge_t c260997
    refine At.enter rfl ?_
    refine r_vret ?_
    exact ⟨_, rfl, hI260986, hF260987, rfl⟩
  · have c260997_ : x260984.toInt < v260996.toInt := en_i_ge_f c260997
    refine At.enter rfl ?_
    refine r_iload_n e260992 ?_
    refine r_iconst 1 rfl ?_
    refine q_iadd (x260984.toInt + 1) rfl (by omega) (fun v261000 hv261000 => ?_)
    refine r_istore_n _ rfl ?_
    refine Ar.fall 17 rfl ?_
    refine w_loopI (fun n_ l_ g_ => ∃ x261419 : Int32, n_ = 12 - x261419.toInt ∧ HI g_ ∧ Fr F_X7_tryTwo_220 A_X7_tryTwo_220 g0 g_ ∧ en_get 0 l_ = some (.ref 220) ∧ en_get 1 l_ = some (.int x260984) ∧ en_get 2 l_ = some (.int x261419) ∧ (1 ≤ x261419.toInt ∧ x261419.toInt ≤ 12)) ?_ (12 - v261000.toInt) ⟨v261000, by first | rfl | omega, hI260986, hF260987, (w_p1 (by decide) (Or.inr rfl) e260991), (w_p1 (by decide) (Or.inr rfl) e260992), (w_e1 _ _ _), by omega⟩
    rintro n261424 l261423 g261420 ⟨x261419, hm261430, hI261421, hF261422, e261426, e261427, e261428, r261429⟩ ih261425
    refine At.enter rfl ?_
    refine r_iload_n e261428 ?_
    refine r_aload_n e261426 ?_
    refine q_getR (Sh.ref hI261421.1 kx_220 rfl) ?_
    refine q_getI (Sh.int hI261421.1 kx_1 rfl) v260996 ((hF261422.1 1 0 (by decide)).trans hv260996) ?_
    have bv261432 := q_bnd x261419
    refine r_ics 28 rfl (fun c261431 => ?_) (fun c261431 => ?_)
    · have c261431_ : x261419.toInt ≥ v260996.toInt := en_i_ge_t c261431
      refine At.enter rfl ?_
      refine q_iinc e261427 (x260984.toInt + 1) rfl (by omega) (fun v261433 hv261433 => ?_)
      refine r_goto ?_
      exact ih260990 (12 - v261433.toInt) _ _ ⟨v261433, by first | rfl | omega, hI261421, hF261422, (w_p1 (by decide) (Or.inr rfl) e261426), (w_e1 _ _ _), by omega⟩ ⟨by omega, by omega⟩
    · have c261431_ : x261419.toInt < v260996.toInt := en_i_ge_f c261431
      refine At.enter rfl ?_
      refine r_aload_n e261426 ?_
      refine r_iload_n e261427 ?_
      refine r_iload_n e261428 ?_
      refine r_callV 34 rfl [.ref 220, .int x260984, .int x261419] [] (Nat.le_of_ble_eq_true rfl) rfl (T_X7_change_220 _ hI261421 x260984 (by omega) x261419 (by omega)) ?_
      rintro _ _ ⟨g261434, rfl, hI261435, hF261436, rfl⟩
      refine At.stn ?_
      have hF261439 := Fr.tr hF261422 hF261436 rfl rfl
      refine At.enter rfl ?_
      refine r_iload_n e261427 ?_
      refine r_istore_n _ rfl ?_
      refine Ar.fall 36 rfl ?_
      refine w_loopI (fun n_ l_ g_ => ∃ x261704 : Int32, n_ = 12 - x261704.toInt ∧ HI g_ ∧ Fr F_X7_tryTwo_220 A_X7_tryTwo_220 g0 g_ ∧ en_get 0 l_ = some (.ref 220) ∧ en_get 1 l_ = some (.int x260984) ∧ en_get 2 l_ = some (.int x261419) ∧ en_get 3 l_ = some (.int x261704) ∧ (0 ≤ x261704.toInt ∧ x261704.toInt ≤ 12)) ?_ (12 - x260984.toInt) ⟨x260984, by first | rfl | omega, hI261435, hF261439, (w_p1 (by decide) (Or.inr rfl) e261426), (w_p1 (by decide) (Or.inr rfl) e261427), (w_p1 (by decide) (Or.inr rfl) e261428), (w_e1 _ _ _), by omega⟩
      rintro n261709 l261708 g261705 ⟨x261704, hm261716, hI261706, hF261707, e261711, e261712, e261713, e261714, r261715⟩ ih261710
      refine At.enter rfl ?_
      refine r_iload_n e261714 ?_
      refine r_aload_n e261711 ?_
      refine q_getR (Sh.ref hI261706.1 kx_220 rfl) ?_
      refine q_getI (Sh.int hI261706.1 kx_1 rfl) v260996 ((hF261707.1 1 0 (by decide)).trans hv260996) ?_
      have bv261718 := q_bnd x261704
      refine r_ics 47 rfl (fun c261717 => ?_) (fun c261717 => ?_)
      · have c261717_ : x261704.toInt ≥ v260996.toInt := en_i_ge_t c261717
        refine At.enter rfl ?_
        refine r_aload_n e261711 ?_
        refine r_iload_n e261712 ?_
        refine r_iload_n e261713 ?_
        refine r_callV 143 rfl [.ref 220, .int x260984, .int x261419] [] (Nat.le_of_ble_eq_true rfl) rfl (T_X7_change_220 _ hI261706 x260984 (by omega) x261419 (by omega)) ?_
        rintro _ _ ⟨g261719, rfl, hI261720, hF261721, rfl⟩
        refine At.stn ?_
        have hF261724 := Fr.tr hF261707 hF261721 rfl rfl
        refine At.enter rfl ?_
        refine q_iinc e261713 (x261419.toInt + 1) rfl (by omega) (fun v261725 hv261725 => ?_)
        refine r_goto ?_
        exact ih261425 (12 - v261725.toInt) _ _ ⟨v261725, by first | rfl | omega, hI261720, hF261724, (w_p1 (by decide) (Or.inr rfl) e261711), (w_p1 (by decide) (Or.inr rfl) e261712), (w_e1 _ _ _), by omega⟩ ⟨by omega, by omega⟩
      · have c261717_ : x261704.toInt < v260996.toInt := en_i_ge_f c261717
        refine At.enter rfl ?_
        refine r_iload_n e261714 ?_
        refine r_iconst 1 rfl ?_
        refine q_iadd (x261704.toInt + 1) rfl (by omega) (fun v261726 hv261726 => ?_)
        refine r_istore _ rfl ?_
        refine Ar.fall 52 rfl ?_
        refine w_loopI (fun n_ l_ g_ => ∃ x261781 : Int32, n_ = 12 - x261781.toInt ∧ HI g_ ∧ Fr F_X7_tryTwo_220 A_X7_tryTwo_220 g0 g_ ∧ en_get 0 l_ = some (.ref 220) ∧ en_get 1 l_ = some (.int x260984) ∧ en_get 2 l_ = some (.int x261419) ∧ en_get 3 l_ = some (.int x261704) ∧ en_get 4 l_ = some (.int x261781) ∧ (1 ≤ x261781.toInt ∧ x261781.toInt ≤ 12)) ?_ (12 - v261726.toInt) ⟨v261726, by first | rfl | omega, hI261706, hF261707, (w_p1 (by decide) (Or.inr rfl) e261711), (w_p1 (by decide) (Or.inr rfl) e261712), (w_p1 (by decide) (Or.inr rfl) e261713), (w_p1 (by decide) (Or.inr rfl) e261714), (w_e1 _ _ _), by omega⟩
        rintro n261786 l261785 g261782 ⟨x261781, hm261794, hI261783, hF261784, e261788, e261789, e261790, e261791, e261792, r261793⟩ ih261787
        refine At.enter rfl ?_
        refine r_iload e261792 ?_
        refine r_aload_n e261788 ?_
        refine q_getR (Sh.ref hI261783.1 kx_220 rfl) ?_
        refine q_getI (Sh.int hI261783.1 kx_1 rfl) v260996 ((hF261784.1 1 0 (by decide)).trans hv260996) ?_
        have bv261796 := q_bnd x261781
        refine r_ics 64 rfl (fun c261795 => ?_) (fun c261795 => ?_)
        · have c261795_ : x261781.toInt ≥ v260996.toInt := en_i_ge_t c261795
          refine At.enter rfl ?_
          refine q_iinc e261791 (x261704.toInt + 1) rfl (by omega) (fun v261797 hv261797 => ?_)
          refine r_goto ?_
          exact ih261710 (12 - v261797.toInt) _ _ ⟨v261797, by first | rfl | omega, hI261783, hF261784, (w_p1 (by decide) (Or.inr rfl) e261788), (w_p1 (by decide) (Or.inr rfl) e261789), (w_p1 (by decide) (Or.inr rfl) e261790), (w_e1 _ _ _), by omega⟩ ⟨by omega, by omega⟩
        · have c261795_ : x261781.toInt < v260996.toInt := en_i_ge_f c261795
          refine At.enter rfl ?_
          refine r_iload_n e261789 ?_
          refine r_iload_n e261790 ?_
          refine r_iload_n e261791 ?_
          refine r_iload e261792 ?_
          refine r_callS 72 rfl [.int x260984, .int x261419, .int x261704, .int x261781] [] (Nat.le_of_ble_eq_true rfl) rfl (T_X7_rowsLike _ hI261783 x260984 x261419 x261704 x261781) ?_
          rintro _ _ ⟨g261798, rfl, hI261799, hF261800, v261801, rfl, hr261802⟩
          refine At.sti ?_
          have hF261803 := Fr.tr hF261784 hF261800 rfl rfl
          refine At.enter rfl ?_
          refine r_istore _ rfl ?_
          refine r_aload_n (w_p1 (by decide) (Or.inr rfl) e261788) ?_
          refine r_iload_n (w_p1 (by decide) (Or.inr rfl) e261791) ?_
          refine r_iload (w_p1 (by decide) (Or.inr rfl) e261792) ?_
          refine r_callV 81 rfl [.ref 220, .int x261704, .int x261781] [] (Nat.le_of_ble_eq_true rfl) rfl (T_X7_change_220 _ hI261799 x261704 (by omega) x261781 (by omega)) ?_
          rintro _ _ ⟨g261804, rfl, hI261805, hF261806, rfl⟩
          refine At.stn ?_
          have hF261809 := Fr.tr hF261803 hF261806 rfl rfl
          refine At.enter rfl ?_
          refine r_iload (w_e1 _ _ _) ?_
          refine r_ifs 86 rfl (fun c261810 => ?_) (fun c261810 => ?_)
          · have c261810_ : v261801.toInt ≤ 0 := en_k_le_t c261810
            refine At.enter rfl ?_
            refine r_aload_n (w_p1 (by decide) (Or.inr rfl) e261788) ?_
            refine r_iload_n (w_p1 (by decide) (Or.inr rfl) e261791) ?_
            refine r_iload (w_p1 (by decide) (Or.inr rfl) e261792) ?_
            refine r_callV 125 rfl [.ref 220, .int x261704, .int x261781] [] (Nat.le_of_ble_eq_true rfl) rfl (T_X7_change_220 _ hI261805 x261704 (by omega) x261781 (by omega)) ?_
            rintro _ _ ⟨g261811, rfl, hI261812, hF261813, rfl⟩
            refine At.stn ?_
            have hF261816 := Fr.tr hF261809 hF261813 rfl rfl
            refine At.enter rfl ?_
            refine q_iinc (w_p1 (by decide) (Or.inr rfl) e261792) (x261781.toInt + 1) rfl (by omega) (fun v261817 hv261817 => ?_)
            refine r_goto ?_
            exact ih261787 (12 - v261817.toInt) _ _ ⟨v261817, by first | rfl | omega, hI261812, hF261816, (w_p1 (by decide) (Or.inr rfl) (w_p1 (by decide) (Or.inr rfl) e261788)), (w_p1 (by decide) (Or.inr rfl) (w_p1 (by decide) (Or.inr rfl) e261789)), (w_p1 (by decide) (Or.inr rfl) (w_p1 (by decide) (Or.inr rfl) e261790)), (w_p1 (by decide) (Or.inr rfl) (w_p1 (by decide) (Or.inr rfl) e261791)), (w_e1 _ _ _), by omega⟩ ⟨by omega, by omega⟩
          · have c261810_ : v261801.toInt > 0 := en_k_le_f c261810
            refine At.enter rfl ?_
            refine r_aload_n (w_p1 (by decide) (Or.inr rfl) e261788) ?_
            refine q_getR (Sh.ref hI261805.1 kx_220 rfl) ?_
            refine r_aload_n (w_p1 (by decide) (Or.inr rfl) e261788) ?_
            obtain ⟨v261818, hv261818⟩ : ∃ v, gI g0 220 2 = v := ⟨_, rfl⟩
            refine q_getI (Sh.int hI261805.1 kx_220 rfl) v261818 (((hF261806.1 220 2 mf_X7_change_220_220_2).trans ((hF261800.1 220 2 mf_X7_rowsLike_220_2).trans (hF261784.1 220 2 (by decide)))).trans hv261818) ?_
            refine r_aload_n (w_p1 (by decide) (Or.inr rfl) e261788) ?_
            refine q_getR (Sh.ref hI261805.1 kx_220 rfl) ?_
            obtain ⟨v261819, hv261819⟩ : ∃ v, gI g0 1 10 = v := ⟨_, rfl⟩
            refine q_getI (Sh.int hI261805.1 kx_1 rfl) v261819 (((hF261806.1 1 10 mf_X7_change_220_1_10).trans ((hF261800.1 1 10 mf_X7_rowsLike_1_10).trans (hF261784.1 1 10 (by decide)))).trans hv261819) ?_
            refine r_callV 104 rfl [.ref 204, .int v261818, .int v261819] [] (Nat.le_of_ble_eq_true rfl) rfl (T_X1_comesBy_204 _ hI261805 v261818 v261819) ?_
            rintro _ _ ⟨g261820, rfl, hI261821, hF261822, v261823, rfl, hr261824⟩
            refine At.sti ?_
            have hF261825 := Fr.tr hF261809 hF261822 rfl rfl
            refine At.enter rfl ?_
            refine r_ifs 107 rfl (fun c261826 => ?_) (fun c261826 => ?_)
            · have c261826_ : v261823.toInt = 0 := en_k_eq_t c261826
              refine At.enter rfl ?_
              refine r_aload_n (w_p1 (by decide) (Or.inr rfl) e261788) ?_
              refine r_iload_n (w_p1 (by decide) (Or.inr rfl) e261791) ?_
              refine r_iload (w_p1 (by decide) (Or.inr rfl) e261792) ?_
              refine r_callV 125 rfl [.ref 220, .int x261704, .int x261781] [] (Nat.le_of_ble_eq_true rfl) rfl (T_X7_change_220 _ hI261821 x261704 (by omega) x261781 (by omega)) ?_
              rintro _ _ ⟨g261827, rfl, hI261828, hF261829, rfl⟩
              refine At.stn ?_
              have hF261832 := Fr.tr hF261825 hF261829 rfl rfl
              refine At.enter rfl ?_
              refine q_iinc (w_p1 (by decide) (Or.inr rfl) e261792) (x261781.toInt + 1) rfl (by omega) (fun v261833 hv261833 => ?_)
              refine r_goto ?_
              exact ih261787 (12 - v261833.toInt) _ _ ⟨v261833, by first | rfl | omega, hI261828, hF261832, (w_p1 (by decide) (Or.inr rfl) (w_p1 (by decide) (Or.inr rfl) e261788)), (w_p1 (by decide) (Or.inr rfl) (w_p1 (by decide) (Or.inr rfl) e261789)), (w_p1 (by decide) (Or.inr rfl) (w_p1 (by decide) (Or.inr rfl) e261790)), (w_p1 (by decide) (Or.inr rfl) (w_p1 (by decide) (Or.inr rfl) e261791)), (w_e1 _ _ _), by omega⟩ ⟨by omega, by omega⟩
            · have c261826_ : v261823.toInt ≠ 0 := en_k_eq_f c261826
              refine At.enter rfl ?_
              refine r_aload_n (w_p1 (by decide) (Or.inr rfl) e261788) ?_
              refine r_iload_n (w_p1 (by decide) (Or.inr rfl) e261789) ?_
              refine r_iload_n (w_p1 (by decide) (Or.inr rfl) e261790) ?_
              refine r_iload_n (w_p1 (by decide) (Or.inr rfl) e261791) ?_
              refine r_iload (w_p1 (by decide) (Or.inr rfl) e261792) ?_
              refine r_iload (w_e1 _ _ _) ?_
              refine r_callV 118 rfl [.ref 220, .int x260984, .int x261419, .int x261704, .int x261781, .int v261801] [] (Nat.le_of_ble_eq_true rfl) rfl (T_X7_found_220 _ hI261821 x260984 x261419 x261704 x261781 v261801 (by omega)) ?_
              rintro _ _ ⟨g261834, rfl, hI261835, hF261836, rfl⟩
              refine At.stn ?_
              have hF261839 := Fr.tr hF261825 hF261836 rfl rfl
              refine At.enter rfl ?_
              refine r_aload_n (w_p1 (by decide) (Or.inr rfl) e261788) ?_
              refine r_iload_n (w_p1 (by decide) (Or.inr rfl) e261791) ?_
              refine r_iload (w_p1 (by decide) (Or.inr rfl) e261792) ?_
              refine r_callV 125 rfl [.ref 220, .int x261704, .int x261781] [] (Nat.le_of_ble_eq_true rfl) rfl (T_X7_change_220 _ hI261835 x261704 (by omega) x261781 (by omega)) ?_
              rintro _ _ ⟨g261840, rfl, hI261841, hF261842, rfl⟩
              refine At.stn ?_
              have hF261845 := Fr.tr hF261839 hF261842 rfl rfl
              refine At.enter rfl ?_
              refine q_iinc (w_p1 (by decide) (Or.inr rfl) e261792) (x261781.toInt + 1) rfl (by omega) (fun v261846 hv261846 => ?_)
              refine r_goto ?_
              exact ih261787 (12 - v261846.toInt) _ _ ⟨v261846, by first | rfl | omega, hI261841, hF261845, (w_p1 (by decide) (Or.inr rfl) (w_p1 (by decide) (Or.inr rfl) e261788)), (w_p1 (by decide) (Or.inr rfl) (w_p1 (by decide) (Or.inr rfl) e261789)), (w_p1 (by decide) (Or.inr rfl) (w_p1 (by decide) (Or.inr rfl) e261790)), (w_p1 (by decide) (Or.inr rfl) (w_p1 (by decide) (Or.inr rfl) e261791)), (w_e1 _ _ _), by omega⟩ ⟨by omega, by omega⟩
