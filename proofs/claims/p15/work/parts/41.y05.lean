def F_X10_feed_0 : List (Nat × Nat) := [(174, 1)]
def A_X10_feed_0 : List Nat := [175]
set_option maxRecDepth 100000 in
set_option maxHeartbeats 4000000 in
theorem T_X10_feed_0 (d : Nat) {N : Nat} {g0 : List en_E} (hI0 : HI g0) (a1 : Int32) (a2 : Int32) (a3 : Int32) (a4 : Int32) (a5 : Int32) : Ev (d + 2) 111 [.ref 0, .int a1, .int a2, .int a3, .int a4, .int a5] (g0, N) (fun w h' => ∃ g', h' = (g', N) ∧ HI g' ∧ Fr F_X10_feed_0 A_X10_feed_0 g0 g' ∧ ∃ r : Int32, w = some (.int r) ∧ ((-1) ≤ r.toInt ∧ r.toInt ≤ 400) ∧ (((380 < (gI g0 174 1).toInt → r.toInt = -1 ∧ (gI g' 174 1).toInt = (gI g0 174 1).toInt) ∧ ((gI g0 174 1).toInt ≤ 380 → r.toInt = (gI g0 174 1).toInt + 20 ∧ (gI g' 174 1).toInt = (gI g0 174 1).toInt + 20)) ∧ (∀ i : Int, 0 ≤ i → i < 400 → (eA g' 175 (i)).toInt = if (gI g0 174 1).toInt ≤ 380 ∧ (gI g0 174 1).toInt + 0 ≤ i ∧ i < (gI g0 174 1).toInt + 4 then BYT a1 (i - (gI g0 174 1).toInt - 0) else if (gI g0 174 1).toInt ≤ 380 ∧ (gI g0 174 1).toInt + 4 ≤ i ∧ i < (gI g0 174 1).toInt + 8 then BYT a2 (i - (gI g0 174 1).toInt - 4) else if (gI g0 174 1).toInt ≤ 380 ∧ (gI g0 174 1).toInt + 8 ≤ i ∧ i < (gI g0 174 1).toInt + 12 then BYT a3 (i - (gI g0 174 1).toInt - 8) else if (gI g0 174 1).toInt ≤ 380 ∧ (gI g0 174 1).toInt + 12 ≤ i ∧ i < (gI g0 174 1).toInt + 16 then BYT a4 (i - (gI g0 174 1).toInt - 12) else if (gI g0 174 1).toInt ≤ 380 ∧ (gI g0 174 1).toInt + 16 ≤ i ∧ i < (gI g0 174 1).toInt + 20 then BYT a5 (i - (gI g0 174 1).toInt - 16) else (eA g0 175 (i)).toInt))) := by
  have hF0 : Fr F_X10_feed_0 A_X10_feed_0 g0 g0 := Fr.rf
  refine Ev.mk rfl rfl ⟨Nat.le_of_ble_eq_true rfl, Or.inr (q_rc hI0.1 kx_0 rfl)⟩ ?_
  show At _ none _ _ (0, [(0, .ref 0), (1, .int a1), (2, .int a2), (3, .int a3), (4, .int a4), (5, .int a5)], [], (_, _)) _
  refine At.enter rfl ?_
  refine r_aload_n rfl ?_
  refine q_getR (Sh.ref hI0.1 kx_0 rfl) ?_
  obtain ⟨v97, hv97⟩ : ∃ v, gI g0 174 1 = v := ⟨_, rfl⟩
  have rv97 := RgF.at hI0.2.1 (p := 174) (b := 1) rfl
  rw [hv97] at rv97
  dsimp only at rv97
  refine q_getI (Sh.int hI0.1 kx_174 rfl) v97 hv97 ?_
  refine r_bipush 20 rfl ?_
  refine q_iadd (v97.toInt + 20) rfl (by omega) (fun v98 hv98 => ?_)
  refine r_sipush 400 rfl ?_
  refine r_ics 16 rfl (fun c99 => ?_) (fun c99 => ?_)
  · have c99_ : v98.toInt ≤ 400 := en_i_le_t c99
    refine At.enter rfl ?_
    refine r_aload_n rfl ?_
    refine q_getR (Sh.ref hI0.1 kx_0 rfl) ?_
    refine r_iload_n rfl ?_
    refine r_callV 26 rfl [.ref 174, .int a1] [] (Nat.le_of_ble_eq_true rfl) rfl (T_X8_append_174 _ hI0 a1) ?_
    rintro _ _ ⟨g100, rfl, hI101, hF102, rfl, hr104⟩
    refine At.stn ?_
    have hF105 := Fr.tr hF0 hF102 rfl rfl
    have x106 := HI.eqI hI0 (p := 174) (b := 1) (hv97)
    obtain ⟨v107, hv107⟩ : ∃ v, gI g100 174 1 = v := ⟨_, rfl⟩
    have rv107 := RgF.at hI101.2.1 (p := 174) (b := 1) rfl
    rw [hv107] at rv107
    dsimp only at rv107
    have tv107 := congrArg Int32.toInt hv107
    refine At.enter rfl ?_
    refine r_aload_n rfl ?_
    refine q_getR (Sh.ref hI101.1 kx_0 rfl) ?_
    refine r_iload_n rfl ?_
    refine r_callV 34 rfl [.ref 174, .int a2] [] (Nat.le_of_ble_eq_true rfl) rfl (T_X8_append_174 _ hI101 a2) ?_
    rintro _ _ ⟨g109, rfl, hI110, hF111, rfl, hr113⟩
    refine At.stn ?_
    have hF114 := Fr.tr hF105 hF111 rfl rfl
    obtain ⟨v116, hv116⟩ : ∃ v, gI g109 174 1 = v := ⟨_, rfl⟩
    have rv116 := RgF.at hI110.2.1 (p := 174) (b := 1) rfl
    rw [hv116] at rv116
    dsimp only at rv116
    have tv116 := congrArg Int32.toInt hv116
    refine At.enter rfl ?_
    refine r_aload_n rfl ?_
    refine q_getR (Sh.ref hI110.1 kx_0 rfl) ?_
    refine r_iload_n rfl ?_
    refine r_callV 42 rfl [.ref 174, .int a3] [] (Nat.le_of_ble_eq_true rfl) rfl (T_X8_append_174 _ hI110 a3) ?_
    rintro _ _ ⟨g118, rfl, hI119, hF120, rfl, hr122⟩
    refine At.stn ?_
    have hF123 := Fr.tr hF114 hF120 rfl rfl
    obtain ⟨v125, hv125⟩ : ∃ v, gI g118 174 1 = v := ⟨_, rfl⟩
    have rv125 := RgF.at hI119.2.1 (p := 174) (b := 1) rfl
    rw [hv125] at rv125
    dsimp only at rv125
    have tv125 := congrArg Int32.toInt hv125
    refine At.enter rfl ?_
    refine r_aload_n rfl ?_
    refine q_getR (Sh.ref hI119.1 kx_0 rfl) ?_
    refine r_iload rfl ?_
    refine r_callV 51 rfl [.ref 174, .int a4] [] (Nat.le_of_ble_eq_true rfl) rfl (T_X8_append_174 _ hI119 a4) ?_
    rintro _ _ ⟨g127, rfl, hI128, hF129, rfl, hr131⟩
    refine At.stn ?_
    have hF132 := Fr.tr hF123 hF129 rfl rfl
    obtain ⟨v134, hv134⟩ : ∃ v, gI g127 174 1 = v := ⟨_, rfl⟩
    have rv134 := RgF.at hI128.2.1 (p := 174) (b := 1) rfl
    rw [hv134] at rv134
    dsimp only at rv134
    have tv134 := congrArg Int32.toInt hv134
    refine At.enter rfl ?_
    refine r_aload_n rfl ?_
    refine q_getR (Sh.ref hI128.1 kx_0 rfl) ?_
    refine r_iload rfl ?_
    refine r_callV 60 rfl [.ref 174, .int a5] [] (Nat.le_of_ble_eq_true rfl) rfl (T_X8_append_174 _ hI128 a5) ?_
    rintro _ _ ⟨g136, rfl, hI137, hF138, rfl, hr140⟩
    refine At.stn ?_
    have hF141 := Fr.tr hF132 hF138 rfl rfl
    obtain ⟨v143, hv143⟩ : ∃ v, gI g136 174 1 = v := ⟨_, rfl⟩
    have rv143 := RgF.at hI137.2.1 (p := 174) (b := 1) rfl
    rw [hv143] at rv143
    dsimp only at rv143
    have tv143 := congrArg Int32.toInt hv143
    refine At.enter rfl ?_
    refine r_aload_n rfl ?_
    refine q_getR (Sh.ref hI137.1 kx_0 rfl) ?_
    refine q_getI (Sh.int hI137.1 kx_174 rfl) v143 hv143 ?_
    refine r_ireti ?_
    have x146 := HI.eqI hI0 (p := 174) (b := 1) (hv97)
    exact ⟨_, rfl, hI137, hF141, _, rfl, by omega, ⟨(by omega), (by intro i i0 i1; exact FEED5 (L := (gI g0 174 1).toInt) (F0 := (fun i => (eA g0 175 i).toInt)) (F1 := (fun i => (eA g100 175 i).toInt)) (F2 := (fun i => (eA g109 175 i).toInt)) (F3 := (fun i => (eA g118 175 i).toInt)) (F4 := (fun i => (eA g127 175 i).toInt)) (F5 := (fun i => (eA g136 175 i).toInt)) (by omega) (by omega) (by omega) (by omega) (by omega) ((hr104.2 (by omega))) ((hr113.2 (by omega))) ((hr122.2 (by omega))) ((hr131.2 (by omega))) ((hr140.2 (by omega))) (fun i => rfl) i i0 i1)⟩⟩
  · have c99_ : v98.toInt > 400 := en_i_le_f c99
    refine At.enter rfl ?_
    refine r_iconst (-1) rfl ?_
    refine r_ireti ?_
    have zv147 : ((-1) : Int32).toInt = (-1) := rfl
    have x148 := HI.eqI hI0 (p := 174) (b := 1) (hv97)
    have x149 := HI.eqI hI0 (p := 174) (b := 1) (hv97)
    exact ⟨_, rfl, hI0, hF0, _, rfl, by decide, ⟨(by omega), (by intro i i0 i1; refine Eq.trans ?_ (if_neg (show ¬ ((gI g0 174 1).toInt ≤ 380 ∧ (gI g0 174 1).toInt + 0 ≤ i ∧ i < (gI g0 174 1).toInt + 4) from by omega)).symm; refine Eq.trans ?_ (if_neg (show ¬ ((gI g0 174 1).toInt ≤ 380 ∧ (gI g0 174 1).toInt + 4 ≤ i ∧ i < (gI g0 174 1).toInt + 8) from by omega)).symm; refine Eq.trans ?_ (if_neg (show ¬ ((gI g0 174 1).toInt ≤ 380 ∧ (gI g0 174 1).toInt + 8 ≤ i ∧ i < (gI g0 174 1).toInt + 12) from by omega)).symm; refine Eq.trans ?_ (if_neg (show ¬ ((gI g0 174 1).toInt ≤ 380 ∧ (gI g0 174 1).toInt + 12 ≤ i ∧ i < (gI g0 174 1).toInt + 16) from by omega)).symm; refine Eq.trans ?_ (if_neg (show ¬ ((gI g0 174 1).toInt ≤ 380 ∧ (gI g0 174 1).toInt + 16 ≤ i ∧ i < (gI g0 174 1).toInt + 20) from by omega)).symm; (first | with_reducible rfl | omega | exact eA_ix (by omega) | rfl))⟩⟩

def F_X10_end_0 : List (Nat × Nat) := [(174, 1)]
def A_X10_end_0 : List Nat := []
set_option maxRecDepth 100000 in
set_option maxHeartbeats 4000000 in
theorem T_X10_end_0 (d : Nat) {N : Nat} {g0 : List en_E} (hI0 : HI g0) (a1 : Int32) : Ev (d + 2) 112 [.ref 0, .int a1] (g0, N) (fun w h' => ∃ g', h' = (g', N) ∧ HI g' ∧ Fr F_X10_end_0 A_X10_end_0 g0 g' ∧ ∃ r : Int32, w = some (.int r) ∧ ((-1) ≤ r.toInt ∧ r.toInt ≤ 400) ∧ ((0 ≤ a1.toInt ∧ a1.toInt ≤ (gI g0 174 1).toInt → r.toInt = a1.toInt ∧ (gI g' 174 1).toInt = a1.toInt) ∧ (a1.toInt < 0 ∨ (gI g0 174 1).toInt < a1.toInt → r.toInt = -1 ∧ (gI g' 174 1).toInt = (gI g0 174 1).toInt))) := by
  have hF0 : Fr F_X10_end_0 A_X10_end_0 g0 g0 := Fr.rf
  refine Ev.mk rfl rfl ⟨Nat.le_of_ble_eq_true rfl, Or.inr (q_rc hI0.1 kx_0 rfl)⟩ ?_
  show At _ none _ _ (0, [(0, .ref 0), (1, .int a1)], [], (_, _)) _
  refine At.enter rfl ?_
  refine r_iload_n rfl ?_
  refine r_iconst 0 rfl ?_
  refine r_aload_n rfl ?_
  refine q_getR (Sh.ref hI0.1 kx_0 rfl) ?_
  obtain ⟨v15, hv15⟩ : ∃ v, gI g0 174 1 = v := ⟨_, rfl⟩
  have rv15 := RgF.at hI0.2.1 (p := 174) (b := 1) rfl
  rw [hv15] at rv15
  dsimp only at rv15
  refine q_getI (Sh.int hI0.1 kx_174 rfl) v15 hv15 ?_
  refine q_inlS 12 rfl [.int a1, .int 0, .int v15] [] (Nat.le_of_ble_eq_true rfl) rfl ?_
  refine Ev.mk rfl rfl ⟨Nat.le_of_ble_eq_true rfl, Or.inl rfl⟩ ?_
  show At _ none _ _ (0, [(0, .int a1), (1, .int 0), (2, .int v15)], [], (_, _)) _
  refine At.enter rfl ?_
  refine r_iload_n rfl ?_
  refine r_iload_n rfl ?_
  refine r_ics 5 rfl (fun c16 => ?_) (fun c16 => ?_)
  · have c16_ : a1.toInt < 0 := en_i_lt_t c16
    refine At.enter rfl ?_
    refine r_iconst 0 rfl ?_
    refine Ar.fall 15 rfl ?_
    refine At.enter rfl ?_
    refine q_iretz (by decide) ?_
    refine At.enter rfl ?_
    refine r_iff 15 rfl (by decide) ?_
    refine At.enter rfl ?_
    refine r_iconst (-1) rfl ?_
    refine r_ireti ?_
    have zv17 : ((-1) : Int32).toInt = (-1) := rfl
    have x18 := HI.eqI hI0 (p := 174) (b := 1) (hv15)
    have x19 := HI.eqI hI0 (p := 174) (b := 1) (hv15)
    exact ⟨_, rfl, hI0, hF0, _, rfl, by decide, (by omega)⟩
  · have c16_ : a1.toInt ≥ 0 := en_i_lt_f c16
    refine At.enter rfl ?_
    refine r_iload_n rfl ?_
    refine r_iload_n rfl ?_
    have bv21 := q_bnd a1
    have bv22 := q_bnd v15
    refine r_ics 10 rfl (fun c20 => ?_) (fun c20 => ?_)
    · have c20_ : a1.toInt > v15.toInt := en_i_gt_t c20
      refine At.enter rfl ?_
      refine r_iconst 0 rfl ?_
      refine Ar.fall 15 rfl ?_
      refine At.enter rfl ?_
      refine q_iretz (by decide) ?_
      refine At.enter rfl ?_
      refine r_iff 15 rfl (by decide) ?_
      refine At.enter rfl ?_
      refine r_iconst (-1) rfl ?_
      refine r_ireti ?_
      have zv23 : ((-1) : Int32).toInt = (-1) := rfl
      have x24 := HI.eqI hI0 (p := 174) (b := 1) (hv15)
      have x25 := HI.eqI hI0 (p := 174) (b := 1) (hv15)
      exact ⟨_, rfl, hI0, hF0, _, rfl, by decide, (by omega)⟩
    · have c20_ : a1.toInt ≤ v15.toInt := en_i_gt_f c20
      refine At.enter rfl ?_
      refine r_iconst 1 rfl ?_
      refine r_goto ?_
      refine At.enter rfl ?_
      refine q_iretz (by decide) ?_
      refine At.enter rfl ?_
      refine r_ift (by decide) ?_
      refine At.enter rfl ?_
      refine r_aload_n rfl ?_
      refine q_getR (Sh.ref hI0.1 kx_0 rfl) ?_
      refine r_iload_n rfl ?_
      refine q_putI (Sh.int hI0.1 kx_174 rfl) rfl ?_
      have hI26 := HI.wI1 hI0 kx_174 rfl (p := 174) (b := 1) (v := a1) rfl (by dsimp only; omega)
      have hF27 := Fr.wI (p := 174) (b := 1) (v := a1) hF0 rfl
      refine r_iload_n rfl ?_
      refine r_ireti ?_
      have x28 := HI.eqI hI26 (p := 174) (b := 1) ((gI_sI_eq hI0.1 kx_174 rfl _))
      have x29 := HI.eqI hI0 (p := 174) (b := 1) (hv15)
      exact ⟨_, rfl, hI26, hF27, _, rfl, by omega, (by omega)⟩

def F_X10_row_0 : List (Nat × Nat) := [(0, 14), (0, 16), (0, 17), (1, 4), (174, 1), (220, 2), (222, 2), (223, 5), (223, 10)]
def A_X10_row_0 : List Nat := [5, 230]
theorem mf_X10_changed_0_174_1 : memF F_X10_changed_0 174 1 = false := by decide
theorem mf_X8_at_174_174_1 : memF F_X8_at_174 174 1 = false := by decide
theorem mf_X10_refused_0_174_1 : memF F_X10_refused_0 174 1 = false := by decide
set_option maxRecDepth 100000 in
set_option maxHeartbeats 4000000 in
theorem T_X10_row_0 (d : Nat) {N : Nat} {g0 : List en_E} (hI0 : HI g0) : Ev (d + 4) 113 [.ref 0] (g0, N) (fun w h' => ∃ g', h' = (g', N) ∧ HI g' ∧ Fr F_X10_row_0 A_X10_row_0 g0 g' ∧ ∃ r : Int32, w = some (.int r) ∧ True ∧ (gI g' 174 1).toInt = 0) := by
  have hF0 : Fr F_X10_row_0 A_X10_row_0 g0 g0 := Fr.rf
  refine Ev.mk rfl rfl ⟨Nat.le_of_ble_eq_true rfl, Or.inr (q_rc hI0.1 kx_0 rfl)⟩ ?_
  show At _ none _ _ (0, [(0, .ref 0)], [], (_, _)) _
  refine At.enter rfl ?_
  refine r_aload_n rfl ?_
  refine q_getR (Sh.ref hI0.1 kx_0 rfl) ?_
  obtain ⟨v4633, hv4633⟩ : ∃ v, gI g0 174 1 = v := ⟨_, rfl⟩
  have rv4633 := RgF.at hI0.2.1 (p := 174) (b := 1) rfl
  rw [hv4633] at rv4633
  dsimp only at rv4633
  refine q_getI (Sh.int hI0.1 kx_174 rfl) v4633 hv4633 ?_
  refine r_istore_n ([(1, .int v4633), (0, .ref 0)]) rfl ?_
  refine r_iload_n rfl ?_
  refine r_ifs 12 rfl (fun c4634 => ?_) (fun c4634 => ?_)
  · have c4634_ : v4633.toInt ≠ 0 := en_k_ne_t c4634
    refine At.enter rfl ?_
    refine r_iconst 0 rfl ?_
    refine r_istore_n ([(2, .int 0), (1, .int v4633), (0, .ref 0)]) rfl ?_
    refine r_iconst 0 rfl ?_
    refine r_istore_n ([(3, .int 0), (2, .int 0), (1, .int v4633), (0, .ref 0)]) rfl ?_
    refine r_iconst 0 rfl ?_
    refine r_istore ([(4, .int 0), (3, .int 0), (2, .int 0), (1, .int v4633), (0, .ref 0)]) rfl ?_
    refine Ar.fall 26 rfl ?_
    have z_6846 : (0 : Int32).toInt = 0 := rfl
    have z_6847 : (0 : Int32).toInt = 0 := rfl
    have z_6848 : (0 : Int32).toInt = 0 := rfl
    refine w_loopI (fun n_ l_ g_ => ∃ x6831 : Int32, ∃ x6832 : Int32, ∃ x6833 : Int32, n_ = 405 - x6833.toInt ∧ HI g_ ∧ Fr F_X10_row_0 A_X10_row_0 g0 g_ ∧ en_get 0 l_ = some (.ref 0) ∧ en_get 1 l_ = some (.int v4633) ∧ en_get 2 l_ = some (.int x6831) ∧ en_get 3 l_ = some (.int x6832) ∧ en_get 4 l_ = some (.int x6833) ∧ (0 ≤ x6833.toInt ∧ x6833.toInt ≤ 405)) ?_ (405 - 0) ⟨0, 0, 0, by first | rfl | omega, hI0, hF0, rfl, rfl, rfl, rfl, rfl, by decide⟩
    rintro n6838 l6837 g6834 ⟨x6831, x6832, x6833, hm6849, hI6835, hF6836, e6840, e6841, e6842, e6843, e6844, r6845⟩ ih6839
    refine At.enter rfl ?_
    refine r_iload e6844 ?_
    refine r_iload_n e6841 ?_
    have bv6851 := q_bnd x6833
    have bv6852 := q_bnd v4633
    refine r_ics 32 rfl (fun c6850 => ?_) (fun c6850 => ?_)
    · have c6850_ : x6833.toInt ≥ v4633.toInt := en_i_ge_t c6850
      refine At.enter rfl ?_
      refine r_aload_n e6840 ?_
      refine q_getR (Sh.ref hI6835.1 kx_0 rfl) ?_
      refine r_iconst 0 rfl ?_
      refine q_putI (Sh.int hI6835.1 kx_174 rfl) rfl ?_
      have hI6853 := HI.wI1 hI6835 kx_174 rfl (p := 174) (b := 1) (v := 0) rfl (by decide)
      have hF6854 := Fr.wI (p := 174) (b := 1) (v := 0) hF6836 rfl
      refine r_aload_n e6840 ?_
      refine r_iload_n e6843 ?_
      refine q_putI (Sh.int hI6853.1 kx_0 rfl) rfl ?_
      have hI6855 := HI.wI0 hI6853 kx_0 rfl (p := 0) (b := 16) (v := x6832) rfl
      have hF6856 := Fr.wI (p := 0) (b := 16) (v := x6832) hF6854 rfl
      refine r_aload_n e6840 ?_
      refine r_callV 82 rfl [.ref 0] [] (Nat.le_of_ble_eq_true rfl) rfl (T_X10_changed_0 _ hI6855) ?_
      rintro _ _ ⟨g6857, rfl, hI6858, hF6859, rfl⟩
      refine At.stn ?_
      have hF6862 := Fr.tr hF6856 hF6859 rfl rfl
      refine At.enter rfl ?_
      refine r_aload_n e6840 ?_
      refine r_iload_n e6842 ?_
      refine q_inlV 87 rfl [.ref 0, .int x6831] [] (Nat.le_of_ble_eq_true rfl) rfl ?_
      refine Ev.mk rfl rfl ⟨Nat.le_of_ble_eq_true rfl, Or.inr (q_rc hI6858.1 kx_0 rfl)⟩ ?_
      show At _ none _ _ (0, [(0, .ref 0), (1, .int x6831)], [], (_, _)) _
      refine At.enter rfl ?_
      refine r_aload_n rfl ?_
      refine r_iconst 0 rfl ?_
      refine q_putI (Sh.int hI6858.1 kx_0 rfl) rfl ?_
      have hI6863 := HI.wI0 hI6858 kx_0 rfl (p := 0) (b := 17) (v := 0) rfl
      have hF6864 := Fr.wI (p := 0) (b := 17) (v := 0) hF6862 rfl
      refine r_iload_n rfl ?_
      refine q_ireti ?_
      refine At.enter rfl ?_
      refine r_ireti ?_
      have x6865 := HI.eqI hI6863 (p := 174) (b := 1) (((gI_sI_ne (by decide)).trans ((hF6859.1 174 1 mf_X10_changed_0_174_1).trans ((gI_sI_ne (by decide)).trans (gI_sI_eq hI6835.1 kx_174 rfl _)))))
      have zv6866 : (0 : Int32).toInt = 0 := rfl
      exact ⟨_, rfl, hI6863, hF6864, _, rfl, trivial, (by omega)⟩
    · have c6850_ : x6833.toInt < v4633.toInt := en_i_ge_f c6850
      refine At.enter rfl ?_
      refine r_iload e6844 ?_
      refine r_bipush 6 rfl ?_
      refine q_iadd (x6833.toInt + 6) rfl (by omega) (fun v6867 hv6867 => ?_)
      refine r_iload_n e6841 ?_
      have bv6869 := q_bnd v6867
      refine r_ics 41 rfl (fun c6868 => ?_) (fun c6868 => ?_)
      · have c6868_ : v6867.toInt > v4633.toInt := en_i_gt_t c6868
        refine At.enter rfl ?_
        refine q_iincO e6843 (fun v6870 _ => ?_)
        refine Ar.fall 59 rfl ?_
        refine At.enter rfl ?_
        refine q_iinc (w_p1 (by decide) (Or.inr rfl) e6844) (x6833.toInt + 6) rfl (by omega) (fun v6871 hv6871 => ?_)
        refine r_goto ?_
        have bv6872 := q_bnd x6831
        have bv6873 := q_bnd v6870
        exact ih6839 (405 - v6871.toInt) _ _ ⟨x6831, v6870, v6871, by first | rfl | omega, hI6835, hF6836, (w_p1 (by decide) (Or.inr rfl) (w_p1 (by decide) (Or.inr rfl) e6840)), (w_p1 (by decide) (Or.inr rfl) (w_p1 (by decide) (Or.inr rfl) e6841)), (w_p1 (by decide) (Or.inr rfl) (w_p1 (by decide) (Or.inr rfl) e6842)), (w_p1 (by decide) (Or.inr rfl) (w_e1 _ _ _)), (w_e1 _ _ _), by omega⟩ ⟨by omega, by omega⟩
      · have c6868_ : v6867.toInt ≤ v4633.toInt := en_i_gt_f c6868
        refine At.enter rfl ?_
        refine r_aload_n e6840 ?_
        refine r_iload e6844 ?_
        refine q_inlV 47 rfl [.ref 0, .int x6833] [] (Nat.le_of_ble_eq_true rfl) rfl ?_
        refine Ev.mk rfl rfl ⟨Nat.le_of_ble_eq_true rfl, Or.inr (q_rc hI6835.1 kx_0 rfl)⟩ ?_
        show At _ none _ _ (0, [(0, .ref 0), (1, .int x6833)], [], (_, _)) _
        refine At.enter rfl ?_
        refine r_aload_n rfl ?_
        refine q_getR (Sh.ref hI6835.1 kx_0 rfl) ?_
        refine r_iload_n rfl ?_
        refine r_iconst 0 rfl ?_
        refine q_iadd (x6833.toInt + 0) rfl (by omega) (fun v6874 hv6874 => ?_)
        refine r_callV 10 rfl [.ref 174, .int v6874] [] (Nat.le_of_ble_eq_true rfl) rfl (T_X8_at_174 _ hI6835 v6874) ?_
        rintro _ _ ⟨g6875, rfl, hI6876, hF6877, v6878, rfl, hr6879⟩
        refine At.sti ?_
        have hF6880 := Fr.tr hF6836 hF6877 rfl rfl
        obtain ⟨v6881, hv6881⟩ : ∃ v, gI g6834 174 1 = v := ⟨_, rfl⟩
        have rv6881 := RgF.at hI6835.2.1 (p := 174) (b := 1) rfl
        rw [hv6881] at rv6881
        dsimp only at rv6881
        have tv6881 := congrArg Int32.toInt hv6881
        refine At.enter rfl ?_
        refine r_istore_n ([(2, .int v6878), (0, .ref 0), (1, .int x6833)]) rfl ?_
        refine r_aload_n rfl ?_
        refine q_getR (Sh.ref hI6876.1 kx_0 rfl) ?_
        refine r_iload_n rfl ?_
        refine r_iconst 1 rfl ?_
        refine q_iadd (x6833.toInt + 1) rfl (by omega) (fun v6884 hv6884 => ?_)
        refine r_callV 21 rfl [.ref 174, .int v6884] [] (Nat.le_of_ble_eq_true rfl) rfl (T_X8_at_174 _ hI6876 v6884) ?_
        rintro _ _ ⟨g6885, rfl, hI6886, hF6887, v6888, rfl, hr6889⟩
        refine At.sti ?_
        have hF6890 := Fr.tr hF6880 hF6887 rfl rfl
        have x6891 := HI.eqI hI6876 (p := 174) (b := 1) (((hF6877.1 174 1 mf_X8_at_174_174_1).trans hv6881))
        refine At.enter rfl ?_
        refine r_istore_n ([(3, .int v6888), (2, .int v6878), (0, .ref 0), (1, .int x6833)]) rfl ?_
        refine r_aload_n rfl ?_
        refine q_getR (Sh.ref hI6886.1 kx_0 rfl) ?_
        refine r_iload_n rfl ?_
        refine r_iconst 2 rfl ?_
        refine q_iadd (x6833.toInt + 2) rfl (by omega) (fun v6893 hv6893 => ?_)
        refine r_callV 32 rfl [.ref 174, .int v6893] [] (Nat.le_of_ble_eq_true rfl) rfl (T_X8_at_174 _ hI6886 v6893) ?_
        rintro _ _ ⟨g6894, rfl, hI6895, hF6896, v6897, rfl, hr6898⟩
        refine At.sti ?_
        have hF6899 := Fr.tr hF6890 hF6896 rfl rfl
        have x6900 := HI.eqI hI6886 (p := 174) (b := 1) ((((hF6887.1 174 1 mf_X8_at_174_174_1).trans (hF6877.1 174 1 mf_X8_at_174_174_1)).trans hv6881))
        refine At.enter rfl ?_
        refine r_istore ([(4, .int v6897), (3, .int v6888), (2, .int v6878), (0, .ref 0), (1, .int x6833)]) rfl ?_
        refine r_aload_n rfl ?_
        refine q_getR (Sh.ref hI6895.1 kx_0 rfl) ?_
        refine r_iload_n rfl ?_
        refine r_iconst 3 rfl ?_
        refine q_iadd (x6833.toInt + 3) rfl (by omega) (fun v6902 hv6902 => ?_)
        refine r_callV 44 rfl [.ref 174, .int v6902] [] (Nat.le_of_ble_eq_true rfl) rfl (T_X8_at_174 _ hI6895 v6902) ?_
        rintro _ _ ⟨g6903, rfl, hI6904, hF6905, v6906, rfl, hr6907⟩
        refine At.sti ?_
        have hF6908 := Fr.tr hF6899 hF6905 rfl rfl
        have x6909 := HI.eqI hI6895 (p := 174) (b := 1) ((((hF6896.1 174 1 mf_X8_at_174_174_1).trans ((hF6887.1 174 1 mf_X8_at_174_174_1).trans (hF6877.1 174 1 mf_X8_at_174_174_1))).trans hv6881))
        refine At.enter rfl ?_
        refine r_istore ([(5, .int v6906), (4, .int v6897), (3, .int v6888), (2, .int v6878), (0, .ref 0), (1, .int x6833)]) rfl ?_
        refine r_aload_n rfl ?_
        refine q_getR (Sh.ref hI6904.1 kx_0 rfl) ?_
        refine r_iload_n rfl ?_
        refine r_iconst 4 rfl ?_
        refine q_iadd (x6833.toInt + 4) rfl (by omega) (fun v6911 hv6911 => ?_)
        refine r_callV 56 rfl [.ref 174, .int v6911] [] (Nat.le_of_ble_eq_true rfl) rfl (T_X8_at_174 _ hI6904 v6911) ?_
        rintro _ _ ⟨g6912, rfl, hI6913, hF6914, v6915, rfl, hr6916⟩
        refine At.sti ?_
        have hF6917 := Fr.tr hF6908 hF6914 rfl rfl
        have x6918 := HI.eqI hI6904 (p := 174) (b := 1) ((((hF6905.1 174 1 mf_X8_at_174_174_1).trans ((hF6896.1 174 1 mf_X8_at_174_174_1).trans ((hF6887.1 174 1 mf_X8_at_174_174_1).trans (hF6877.1 174 1 mf_X8_at_174_174_1)))).trans hv6881))
        refine At.enter rfl ?_
        refine r_istore ([(6, .int v6915), (5, .int v6906), (4, .int v6897), (3, .int v6888), (2, .int v6878), (0, .ref 0), (1, .int x6833)]) rfl ?_
        refine r_aload_n rfl ?_
        refine q_getR (Sh.ref hI6913.1 kx_0 rfl) ?_
        refine r_iload_n rfl ?_
        refine r_iconst 5 rfl ?_
        refine q_iadd (x6833.toInt + 5) rfl (by omega) (fun v6920 hv6920 => ?_)
        refine r_callV 68 rfl [.ref 174, .int v6920] [] (Nat.le_of_ble_eq_true rfl) rfl (T_X8_at_174 _ hI6913 v6920) ?_
        rintro _ _ ⟨g6921, rfl, hI6922, hF6923, v6924, rfl, hr6925⟩
        refine At.sti ?_
        have hF6926 := Fr.tr hF6917 hF6923 rfl rfl
        have x6927 := HI.eqI hI6913 (p := 174) (b := 1) ((((hF6914.1 174 1 mf_X8_at_174_174_1).trans ((hF6905.1 174 1 mf_X8_at_174_174_1).trans ((hF6896.1 174 1 mf_X8_at_174_174_1).trans ((hF6887.1 174 1 mf_X8_at_174_174_1).trans (hF6877.1 174 1 mf_X8_at_174_174_1))))).trans hv6881))
        refine At.enter rfl ?_
        refine r_istore ([(7, .int v6924), (6, .int v6915), (5, .int v6906), (4, .int v6897), (3, .int v6888), (2, .int v6878), (0, .ref 0), (1, .int x6833)]) rfl ?_
        refine r_aload_n rfl ?_
        refine r_iload_n rfl ?_
        refine r_iload_n rfl ?_
        refine r_iload rfl ?_
        refine r_iload rfl ?_
        refine r_iload rfl ?_
        refine r_iload rfl ?_
        refine r_callV 84 rfl [.ref 0, .int v6878, .int v6888, .int v6897, .int v6906, .int v6915, .int v6924] [] (Nat.le_of_ble_eq_true rfl) rfl (T_X10_whyNoLoad_0 _ hI6922 v6878 v6888 v6897 v6906 v6915 v6924) ?_
        rintro _ _ ⟨g6929, rfl, hI6930, hF6931, v6932, rfl, hr6933⟩
        refine At.sti ?_
        have hF6934 := Fr.tr hF6926 hF6931 rfl rfl
        refine At.enter rfl ?_
        refine r_ifs 87 rfl (fun c6935 => ?_) (fun c6935 => ?_)
        · have c6935_ : v6932.toInt = 0 := en_k_eq_t c6935
          refine At.enter rfl ?_
          refine r_aload_n rfl ?_
          refine q_getR (Sh.ref hI6930.1 kx_0 rfl) ?_
          refine r_iload_n rfl ?_
          refine r_iload_n rfl ?_
          refine r_iload rfl ?_
          refine r_iload rfl ?_
          refine r_iload rfl ?_
          refine r_iload rfl ?_
          refine r_callV 106 rfl [.ref 1, .int v6878, .int v6888, .int v6897, .int v6906, .int v6915, .int v6924] [] (Nat.le_of_ble_eq_true rfl) rfl (T_X0_addLoad_1 _ hI6930 v6878 v6888 v6897 v6906 v6915 v6924) ?_
          rintro _ _ ⟨g6936, rfl, hI6937, hF6938, v6939, rfl, hr6940⟩
          refine At.sti ?_
          have hF6941 := Fr.tr hF6934 hF6938 rfl rfl
          refine At.enter rfl ?_
          refine r_pop rfl ?_
          refine r_iconst 1 rfl ?_
          refine q_iretz (by decide) ?_
          refine At.enter rfl ?_
          refine r_iff 50 rfl (by decide) ?_
          refine At.enter rfl ?_
          refine q_iincO e6842 (fun v6942 _ => ?_)
          refine r_goto ?_
          refine At.enter rfl ?_
          refine q_iinc (w_p1 (by decide) (Or.inr rfl) e6844) (x6833.toInt + 6) rfl (by omega) (fun v6943 hv6943 => ?_)
          refine r_goto ?_
          have bv6944 := q_bnd v6942
          have bv6945 := q_bnd x6832
          exact ih6839 (405 - v6943.toInt) _ _ ⟨v6942, x6832, v6943, by first | rfl | omega, hI6937, hF6941, (w_p1 (by decide) (Or.inr rfl) (w_p1 (by decide) (Or.inr rfl) e6840)), (w_p1 (by decide) (Or.inr rfl) (w_p1 (by decide) (Or.inr rfl) e6841)), (w_p1 (by decide) (Or.inr rfl) (w_e1 _ _ _)), (w_p1 (by decide) (Or.inr rfl) (w_p1 (by decide) (Or.inr rfl) e6843)), (w_e1 _ _ _), by omega⟩ ⟨by omega, by omega⟩
        · have c6935_ : v6932.toInt ≠ 0 := en_k_eq_f c6935
          refine At.enter rfl ?_
          refine r_iconst 0 rfl ?_
          refine q_iretz (by decide) ?_
          refine At.enter rfl ?_
          refine r_ift (by decide) ?_
          refine At.enter rfl ?_
          refine q_iincO e6843 (fun v6946 _ => ?_)
          refine Ar.fall 59 rfl ?_
          refine At.enter rfl ?_
          refine q_iinc (w_p1 (by decide) (Or.inr rfl) e6844) (x6833.toInt + 6) rfl (by omega) (fun v6947 hv6947 => ?_)
          refine r_goto ?_
          have bv6948 := q_bnd x6831
          have bv6949 := q_bnd v6946
          exact ih6839 (405 - v6947.toInt) _ _ ⟨x6831, v6946, v6947, by first | rfl | omega, hI6930, hF6934, (w_p1 (by decide) (Or.inr rfl) (w_p1 (by decide) (Or.inr rfl) e6840)), (w_p1 (by decide) (Or.inr rfl) (w_p1 (by decide) (Or.inr rfl) e6841)), (w_p1 (by decide) (Or.inr rfl) (w_p1 (by decide) (Or.inr rfl) e6842)), (w_p1 (by decide) (Or.inr rfl) (w_e1 _ _ _)), (w_e1 _ _ _), by omega⟩ ⟨by omega, by omega⟩
  · have c4634_ : v4633.toInt = 0 := en_k_ne_f c4634
    refine At.enter rfl ?_
    refine r_aload_n rfl ?_
    refine r_bipush (-6) rfl ?_
    refine r_callV 18 rfl [.ref 0, .int (-6)] [] (Nat.le_of_ble_eq_true rfl) rfl (T_X10_refused_0 _ hI0 (-6) (by decide)) ?_
    rintro _ _ ⟨g6950, rfl, hI6951, hF6952, v6953, rfl, hr6954⟩
    refine At.sti ?_
    have hF6955 := Fr.tr hF0 hF6952 rfl rfl
    have zv6956 : ((-6) : Int32).toInt = (-6) := rfl
    refine At.enter rfl ?_
    refine r_ireti ?_
    have x6957 := HI.eqI hI6951 (p := 174) (b := 1) (((hF6952.1 174 1 mf_X10_refused_0_174_1).trans hv4633))
    exact ⟨_, rfl, hI6951, hF6955, _, rfl, trivial, (by omega)⟩
