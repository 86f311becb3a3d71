def F_X10_feed_0 : List (Nat × Nat) := [(174, 1)]
def A_X10_feed_0 : List Nat := [175]
set_option maxRecDepth 100000 in
set_option maxHeartbeats 4000000 in
theorem T_X10_feed_0 (d : Nat) {N : Nat} {g0 : List en_E} (hI0 : HI g0) (a1 : Int32) (a2 : Int32) (a3 : Int32) (a4 : Int32) (a5 : Int32) : Ev (d + 2) 111 [.ref 0, .int a1, .int a2, .int a3, .int a4, .int a5] (g0, N) (fun w h' => ∃ g', h' = (g', N) ∧ HI g' ∧ Fr F_X10_feed_0 A_X10_feed_0 g0 g' ∧ ∃ r : Int32, w = some (.int r) ∧ ((-1) ≤ r.toInt ∧ r.toInt ≤ 400) ∧ ((380 < (gI g0 174 1).toInt → r.toInt = -1 ∧ (gI g' 174 1).toInt = (gI g0 174 1).toInt) ∧ ((gI g0 174 1).toInt ≤ 380 → r.toInt = (gI g0 174 1).toInt + 20 ∧ (gI g' 174 1).toInt = (gI g0 174 1).toInt + 20))) := by
  have hF0 : Fr F_X10_feed_0 A_X10_feed_0 g0 g0 := Fr.rf
  refine Ev.mk rfl rfl ⟨Nat.le_of_ble_eq_true rfl, Or.inr (q_rc hI0.1 kx_0 rfl)⟩ ?_
  show At _ none _ _ (0, [(0, .ref 0), (1, .int a1), (2, .int a2), (3, .int a3), (4, .int a4), (5, .int a5)], [], (_, _)) _
  refine At.enter rfl ?_
  refine r_aload_n rfl ?_
  refine q_getR (Sh.ref hI0.1 kx_0 rfl) ?_
  obtain ⟨v97, hv97⟩ : ∃ v, gI g0 174 1 = v := ⟨_, rfl⟩
  have rv97 := RgF.at hI0.2.1 (p := 174) (b := 1) rfl
  rw [hv97] at rv97
  dsimp only at rv97
  refine q_getI (Sh.int hI0.1 kx_174 rfl) v97 hv97 ?_
  refine r_bipush 20 rfl ?_
  refine q_iadd (v97.toInt + 20) rfl (by omega) (fun v98 hv98 => ?_)
  refine r_sipush 400 rfl ?_
  refine r_ics 16 rfl (fun c99 => ?_) (fun c99 => ?_)
  · have c99_ : v98.toInt ≤ 400 := en_i_le_t c99
    refine At.enter rfl ?_
    refine r_aload_n rfl ?_
    refine q_getR (Sh.ref hI0.1 kx_0 rfl) ?_
    refine r_iload_n rfl ?_
    refine r_callV 26 rfl [.ref 174, .int a1] [] (Nat.le_of_ble_eq_true rfl) rfl (T_X8_append_174 _ hI0 a1) ?_
    rintro _ _ ⟨g100, rfl, hI101, hF102, rfl, hr104⟩
    refine At.stn ?_
    have hF105 := Fr.tr hF0 hF102 rfl rfl
    have x106 := HI.eqI hI0 (p := 174) (b := 1) (hv97)
    obtain ⟨v107, hv107⟩ : ∃ v, gI g100 174 1 = v := ⟨_, rfl⟩
    have rv107 := RgF.at hI101.2.1 (p := 174) (b := 1) rfl
    rw [hv107] at rv107
    dsimp only at rv107
    have tv107 := congrArg Int32.toInt hv107
    have x108 := HI.eqI hI101 (p := 174) (b := 1) (hv107)
    refine At.enter rfl ?_
    refine r_aload_n rfl ?_
    refine q_getR (Sh.ref hI101.1 kx_0 rfl) ?_
    refine r_iload_n rfl ?_
    refine r_callV 34 rfl [.ref 174, .int a2] [] (Nat.le_of_ble_eq_true rfl) rfl (T_X8_append_174 _ hI101 a2) ?_
    rintro _ _ ⟨g109, rfl, hI110, hF111, rfl, hr113⟩
    refine At.stn ?_
    have hF114 := Fr.tr hF105 hF111 rfl rfl
    have x115 := HI.eqI hI101 (p := 174) (b := 1) (hv107)
    obtain ⟨v116, hv116⟩ : ∃ v, gI g109 174 1 = v := ⟨_, rfl⟩
    have rv116 := RgF.at hI110.2.1 (p := 174) (b := 1) rfl
    rw [hv116] at rv116
    dsimp only at rv116
    have tv116 := congrArg Int32.toInt hv116
    have x117 := HI.eqI hI110 (p := 174) (b := 1) (hv116)
    refine At.enter rfl ?_
    refine r_aload_n rfl ?_
    refine q_getR (Sh.ref hI110.1 kx_0 rfl) ?_
    refine r_iload_n rfl ?_
    refine r_callV 42 rfl [.ref 174, .int a3] [] (Nat.le_of_ble_eq_true rfl) rfl (T_X8_append_174 _ hI110 a3) ?_
    rintro _ _ ⟨g118, rfl, hI119, hF120, rfl, hr122⟩
    refine At.stn ?_
    have hF123 := Fr.tr hF114 hF120 rfl rfl
    have x124 := HI.eqI hI110 (p := 174) (b := 1) (hv116)
    obtain ⟨v125, hv125⟩ : ∃ v, gI g118 174 1 = v := ⟨_, rfl⟩
    have rv125 := RgF.at hI119.2.1 (p := 174) (b := 1) rfl
    rw [hv125] at rv125
    dsimp only at rv125
    have tv125 := congrArg Int32.toInt hv125
    have x126 := HI.eqI hI119 (p := 174) (b := 1) (hv125)
    refine At.enter rfl ?_
    refine r_aload_n rfl ?_
    refine q_getR (Sh.ref hI119.1 kx_0 rfl) ?_
    refine r_iload rfl ?_
    refine r_callV 51 rfl [.ref 174, .int a4] [] (Nat.le_of_ble_eq_true rfl) rfl (T_X8_append_174 _ hI119 a4) ?_
    rintro _ _ ⟨g127, rfl, hI128, hF129, rfl, hr131⟩
    refine At.stn ?_
    have hF132 := Fr.tr hF123 hF129 rfl rfl
    have x133 := HI.eqI hI119 (p := 174) (b := 1) (hv125)
    obtain ⟨v134, hv134⟩ : ∃ v, gI g127 174 1 = v := ⟨_, rfl⟩
    have rv134 := RgF.at hI128.2.1 (p := 174) (b := 1) rfl
    rw [hv134] at rv134
    dsimp only at rv134
    have tv134 := congrArg Int32.toInt hv134
    have x135 := HI.eqI hI128 (p := 174) (b := 1) (hv134)
    refine At.enter rfl ?_
    refine r_aload_n rfl ?_
    refine q_getR (Sh.ref hI128.1 kx_0 rfl) ?_
    refine r_iload rfl ?_
    refine r_callV 60 rfl [.ref 174, .int a5] [] (Nat.le_of_ble_eq_true rfl) rfl (T_X8_append_174 _ hI128 a5) ?_
    rintro _ _ ⟨g136, rfl, hI137, hF138, rfl, hr140⟩
    refine At.stn ?_
    have hF141 := Fr.tr hF132 hF138 rfl rfl
    have x142 := HI.eqI hI128 (p := 174) (b := 1) (hv134)
    obtain ⟨v143, hv143⟩ : ∃ v, gI g136 174 1 = v := ⟨_, rfl⟩
    have rv143 := RgF.at hI137.2.1 (p := 174) (b := 1) rfl
    rw [hv143] at rv143
    dsimp only at rv143
    have tv143 := congrArg Int32.toInt hv143
    have x144 := HI.eqI hI137 (p := 174) (b := 1) (hv143)
    refine At.enter rfl ?_
    refine r_aload_n rfl ?_
    refine q_getR (Sh.ref hI137.1 kx_0 rfl) ?_
    refine q_getI (Sh.int hI137.1 kx_174 rfl) v143 hv143 ?_
    refine r_ireti ?_
    have x145 := HI.eqI hI137 (p := 174) (b := 1) (hv143)
    have x146 := HI.eqI hI0 (p := 174) (b := 1) (hv97)
    exact ⟨_, rfl, hI137, hF141, _, rfl, by omega, (by omega)⟩
  · have c99_ : v98.toInt > 400 := en_i_le_f c99
    refine At.enter rfl ?_
    refine r_iconst (-1) rfl ?_
    refine r_ireti ?_
    have zv147 : ((-1) : Int32).toInt = (-1) := rfl
    have x148 := HI.eqI hI0 (p := 174) (b := 1) (hv97)
    have x149 := HI.eqI hI0 (p := 174) (b := 1) (hv97)
    exact ⟨_, rfl, hI0, hF0, _, rfl, by decide, (by omega)⟩

def F_X10_end_0 : List (Nat × Nat) := [(174, 1)]
def A_X10_end_0 : List Nat := []
set_option maxRecDepth 100000 in
set_option maxHeartbeats 4000000 in
theorem T_X10_end_0 (d : Nat) {N : Nat} {g0 : List en_E} (hI0 : HI g0) (a1 : Int32) : Ev (d + 2) 112 [.ref 0, .int a1] (g0, N) (fun w h' => ∃ g', h' = (g', N) ∧ HI g' ∧ Fr F_X10_end_0 A_X10_end_0 g0 g' ∧ ∃ r : Int32, w = some (.int r) ∧ ((-1) ≤ r.toInt ∧ r.toInt ≤ 400) ∧ ((0 ≤ a1.toInt ∧ a1.toInt ≤ (gI g0 174 1).toInt → r.toInt = a1.toInt ∧ (gI g' 174 1).toInt = a1.toInt) ∧ (a1.toInt < 0 ∨ (gI g0 174 1).toInt < a1.toInt → r.toInt = -1 ∧ (gI g' 174 1).toInt = (gI g0 174 1).toInt))) := by
  have hF0 : Fr F_X10_end_0 A_X10_end_0 g0 g0 := Fr.rf
  refine Ev.mk rfl rfl ⟨Nat.le_of_ble_eq_true rfl, Or.inr (q_rc hI0.1 kx_0 rfl)⟩ ?_
  show At _ none _ _ (0, [(0, .ref 0), (1, .int a1)], [], (_, _)) _
  refine At.enter rfl ?_
  refine r_iload_n rfl ?_
  refine r_iconst 0 rfl ?_
  refine r_aload_n rfl ?_
  refine q_getR (Sh.ref hI0.1 kx_0 rfl) ?_
  obtain ⟨v15, hv15⟩ : ∃ v, gI g0 174 1 = v := ⟨_, rfl⟩
  have rv15 := RgF.at hI0.2.1 (p := 174) (b := 1) rfl
  rw [hv15] at rv15
  dsimp only at rv15
  refine q_getI (Sh.int hI0.1 kx_174 rfl) v15 hv15 ?_
  refine q_inlS 12 rfl [.int a1, .int 0, .int v15] [] (Nat.le_of_ble_eq_true rfl) rfl ?_
  refine Ev.mk rfl rfl ⟨Nat.le_of_ble_eq_true rfl, Or.inl rfl⟩ ?_
  show At _ none _ _ (0, [(0, .int a1), (1, .int 0), (2, .int v15)], [], (_, _)) _
  refine At.enter rfl ?_
  refine r_iload_n rfl ?_
  refine r_iload_n rfl ?_
  refine r_ics 5 rfl (fun c16 => ?_) (fun c16 => ?_)
  · have c16_ : a1.toInt < 0 := en_i_lt_t c16
    refine At.enter rfl ?_
    refine r_iconst 0 rfl ?_
    refine Ar.fall 15 rfl ?_
    refine At.enter rfl ?_
    refine q_iretz (by decide) ?_
    refine At.enter rfl ?_
    refine r_iff 15 rfl (by decide) ?_
    refine At.enter rfl ?_
    refine r_iconst (-1) rfl ?_
    refine r_ireti ?_
    have zv17 : ((-1) : Int32).toInt = (-1) := rfl
    have x18 := HI.eqI hI0 (p := 174) (b := 1) (hv15)
    have x19 := HI.eqI hI0 (p := 174) (b := 1) (hv15)
    exact ⟨_, rfl, hI0, hF0, _, rfl, by decide, (by omega)⟩
  · have c16_ : a1.toInt ≥ 0 := en_i_lt_f c16
    refine At.enter rfl ?_
    refine r_iload_n rfl ?_
    refine r_iload_n rfl ?_
    have bv21 := q_bnd a1
    have bv22 := q_bnd v15
    refine r_ics 10 rfl (fun c20 => ?_) (fun c20 => ?_)
    · have c20_ : a1.toInt > v15.toInt := en_i_gt_t c20
      refine At.enter rfl ?_
      refine r_iconst 0 rfl ?_
      refine Ar.fall 15 rfl ?_
      refine At.enter rfl ?_
      refine q_iretz (by decide) ?_
      refine At.enter rfl ?_
      refine r_iff 15 rfl (by decide) ?_
      refine At.enter rfl ?_
      refine r_iconst (-1) rfl ?_
      refine r_ireti ?_
      have zv23 : ((-1) : Int32).toInt = (-1) := rfl
      have x24 := HI.eqI hI0 (p := 174) (b := 1) (hv15)
      have x25 := HI.eqI hI0 (p := 174) (b := 1) (hv15)
      exact ⟨_, rfl, hI0, hF0, _, rfl, by decide, (by omega)⟩
    · have c20_ : a1.toInt ≤ v15.toInt := en_i_gt_f c20
      refine At.enter rfl ?_
      refine r_iconst 1 rfl ?_
      refine r_goto ?_
      refine At.enter rfl ?_
      refine q_iretz (by decide) ?_
      refine At.enter rfl ?_
      refine r_ift (by decide) ?_
      refine At.enter rfl ?_
      refine r_aload_n rfl ?_
      refine q_getR (Sh.ref hI0.1 kx_0 rfl) ?_
      refine r_iload_n rfl ?_
      refine q_putI (Sh.int hI0.1 kx_174 rfl) rfl ?_
      have hI26 := HI.wI1 hI0 kx_174 rfl (p := 174) (b := 1) (v := a1) rfl (by dsimp only; omega)
      have hF27 := Fr.wI (p := 174) (b := 1) (v := a1) hF0 rfl
      refine r_iload_n rfl ?_
      refine r_ireti ?_
      have x28 := HI.eqI hI26 (p := 174) (b := 1) ((gI_sI_eq hI0.1 kx_174 rfl _))
      have x29 := HI.eqI hI0 (p := 174) (b := 1) (hv15)
      exact ⟨_, rfl, hI26, hF27, _, rfl, by omega, (by omega)⟩

def F_X10_row_0 : List (Nat × Nat) := [(0, 14), (0, 16), (0, 17), (1, 4), (174, 1), (220, 2), (222, 2), (223, 5), (223, 10)]
def A_X10_row_0 : List Nat := [5, 230]
set_option maxRecDepth 100000 in
set_option maxHeartbeats 4000000 in
theorem T_X10_row_0 (d : Nat) {N : Nat} {g0 : List en_E} (hI0 : HI g0) : Ev (d + 4) 113 [.ref 0] (g0, N) (fun w h' => ∃ g', h' = (g', N) ∧ HI g' ∧ Fr F_X10_row_0 A_X10_row_0 g0 g' ∧ ∃ r : Int32, w = some (.int r) ∧ True ∧ (gI g' 174 1).toInt = 0) := by
  have hF0 : Fr F_X10_row_0 A_X10_row_0 g0 g0 := Fr.rf
  refine Ev.mk rfl rfl ⟨Nat.le_of_ble_eq_true rfl, Or.inr (q_rc hI0.1 kx_0 rfl)⟩ ?_
  show At _ none _ _ (0, [(0, .ref 0)], [], (_, _)) _
  refine At.enter rfl ?_
  refine r_aload_n rfl ?_
  refine q_getR (Sh.ref hI0.1 kx_0 rfl) ?_
  obtain ⟨v4345, hv4345⟩ : ∃ v, gI g0 174 1 = v := ⟨_, rfl⟩
  have rv4345 := RgF.at hI0.2.1 (p := 174) (b := 1) rfl
  rw [hv4345] at rv4345
  dsimp only at rv4345
  refine q_getI (Sh.int hI0.1 kx_174 rfl) v4345 hv4345 ?_
  refine r_istore_n ([(1, .int v4345), (0, .ref 0)]) rfl ?_
  refine r_iload_n rfl ?_
  refine r_ifs 12 rfl (fun c4346 => ?_) (fun c4346 => ?_)
  · have c4346_ : v4345.toInt ≠ 0 := en_k_ne_t c4346
    refine At.enter rfl ?_
    refine r_iconst 0 rfl ?_
    refine r_istore_n ([(2, .int 0), (1, .int v4345), (0, .ref 0)]) rfl ?_
    refine r_iconst 0 rfl ?_
    refine r_istore_n ([(3, .int 0), (2, .int 0), (1, .int v4345), (0, .ref 0)]) rfl ?_
    refine r_iconst 0 rfl ?_
    refine r_istore ([(4, .int 0), (3, .int 0), (2, .int 0), (1, .int v4345), (0, .ref 0)]) rfl ?_
    refine Ar.fall 26 rfl ?_
    have z_6420 : (0 : Int32).toInt = 0 := rfl
    have z_6421 : (0 : Int32).toInt = 0 := rfl
    have z_6422 : (0 : Int32).toInt = 0 := rfl
    refine w_loopI (fun n_ l_ g_ => ∃ x6405 : Int32, ∃ x6406 : Int32, ∃ x6407 : Int32, n_ = 405 - x6407.toInt ∧ HI g_ ∧ Fr F_X10_row_0 A_X10_row_0 g0 g_ ∧ en_get 0 l_ = some (.ref 0) ∧ en_get 1 l_ = some (.int v4345) ∧ en_get 2 l_ = some (.int x6405) ∧ en_get 3 l_ = some (.int x6406) ∧ en_get 4 l_ = some (.int x6407) ∧ (0 ≤ x6407.toInt ∧ x6407.toInt ≤ 405)) ?_ (405 - 0) ⟨0, 0, 0, by first | rfl | omega, hI0, hF0, rfl, rfl, rfl, rfl, rfl, by decide⟩
    rintro n6412 l6411 g6408 ⟨x6405, x6406, x6407, hm6423, hI6409, hF6410, e6414, e6415, e6416, e6417, e6418, r6419⟩ ih6413
    refine At.enter rfl ?_
    refine r_iload e6418 ?_
    refine r_iload_n e6415 ?_
    have bv6425 := q_bnd x6407
    have bv6426 := q_bnd v4345
    refine r_ics 32 rfl (fun c6424 => ?_) (fun c6424 => ?_)
    · have c6424_ : x6407.toInt ≥ v4345.toInt := en_i_ge_t c6424
      refine At.enter rfl ?_
      refine r_aload_n e6414 ?_
      refine q_getR (Sh.ref hI6409.1 kx_0 rfl) ?_
      refine r_iconst 0 rfl ?_
      refine q_putI (Sh.int hI6409.1 kx_174 rfl) rfl ?_
      have hI6427 := HI.wI1 hI6409 kx_174 rfl (p := 174) (b := 1) (v := 0) rfl (by decide)
      have hF6428 := Fr.wI (p := 174) (b := 1) (v := 0) hF6410 rfl
      refine r_aload_n e6414 ?_
      refine r_iload_n e6417 ?_
      refine q_putI (Sh.int hI6427.1 kx_0 rfl) rfl ?_
      have hI6429 := HI.wI0 hI6427 kx_0 rfl (p := 0) (b := 16) (v := x6406) rfl
      have hF6430 := Fr.wI (p := 0) (b := 16) (v := x6406) hF6428 rfl
      refine r_aload_n e6414 ?_
      refine r_callV 82 rfl [.ref 0] [] (Nat.le_of_ble_eq_true rfl) rfl (T_X10_changed_0 _ hI6429) ?_
      rintro _ _ ⟨g6431, rfl, hI6432, hF6433, rfl⟩
      refine At.stn ?_
      have hF6436 := Fr.tr hF6430 hF6433 rfl rfl
      refine At.enter rfl ?_
      refine r_aload_n e6414 ?_
      refine r_iload_n e6416 ?_
      refine q_inlV 87 rfl [.ref 0, .int x6405] [] (Nat.le_of_ble_eq_true rfl) rfl ?_
      refine Ev.mk rfl rfl ⟨Nat.le_of_ble_eq_true rfl, Or.inr (q_rc hI6432.1 kx_0 rfl)⟩ ?_
      show At _ none _ _ (0, [(0, .ref 0), (1, .int x6405)], [], (_, _)) _
      refine At.enter rfl ?_
      refine r_aload_n rfl ?_
      refine r_iconst 0 rfl ?_
      refine q_putI (Sh.int hI6432.1 kx_0 rfl) rfl ?_
      have hI6437 := HI.wI0 hI6432 kx_0 rfl (p := 0) (b := 17) (v := 0) rfl
      have hF6438 := Fr.wI (p := 0) (b := 17) (v := 0) hF6436 rfl
      refine r_iload_n rfl ?_
      refine q_ireti ?_
      refine At.enter rfl ?_
      refine r_ireti ?_
      have x6439 := HI.eqI hI6437 (p := 174) (b := 1) (((gI_sI_ne (by decide)).trans ((hF6433.1 174 1 (by decide)).trans ((gI_sI_ne (by decide)).trans (gI_sI_eq hI6409.1 kx_174 rfl _)))))
      have zv6440 : (0 : Int32).toInt = 0 := rfl
      exact ⟨_, rfl, hI6437, hF6438, _, rfl, trivial, (by omega)⟩
    · have c6424_ : x6407.toInt < v4345.toInt := en_i_ge_f c6424
      refine At.enter rfl ?_
      refine r_iload e6418 ?_
      refine r_bipush 6 rfl ?_
      refine q_iadd (x6407.toInt + 6) rfl (by omega) (fun v6441 hv6441 => ?_)
      refine r_iload_n e6415 ?_
      have bv6443 := q_bnd v6441
      refine r_ics 41 rfl (fun c6442 => ?_) (fun c6442 => ?_)
      · have c6442_ : v6441.toInt > v4345.toInt := en_i_gt_t c6442
        refine At.enter rfl ?_
        refine q_iincO e6417 (fun v6444 _ => ?_)
        refine Ar.fall 59 rfl ?_
        refine At.enter rfl ?_
        refine q_iinc (w_p1 (by decide) (Or.inr rfl) e6418) (x6407.toInt + 6) rfl (by omega) (fun v6445 hv6445 => ?_)
        refine r_goto ?_
        have bv6446 := q_bnd x6405
        have bv6447 := q_bnd v6444
        exact ih6413 (405 - v6445.toInt) _ _ ⟨x6405, v6444, v6445, by first | rfl | omega, hI6409, hF6410, (w_p1 (by decide) (Or.inr rfl) (w_p1 (by decide) (Or.inr rfl) e6414)), (w_p1 (by decide) (Or.inr rfl) (w_p1 (by decide) (Or.inr rfl) e6415)), (w_p1 (by decide) (Or.inr rfl) (w_p1 (by decide) (Or.inr rfl) e6416)), (w_p1 (by decide) (Or.inr rfl) (w_e1 _ _ _)), (w_e1 _ _ _), by omega⟩ ⟨by omega, by omega⟩
      · have c6442_ : v6441.toInt ≤ v4345.toInt := en_i_gt_f c6442
        refine At.enter rfl ?_
        refine r_aload_n e6414 ?_
        refine r_iload e6418 ?_
        refine q_inlV 47 rfl [.ref 0, .int x6407] [] (Nat.le_of_ble_eq_true rfl) rfl ?_
        refine Ev.mk rfl rfl ⟨Nat.le_of_ble_eq_true rfl, Or.inr (q_rc hI6409.1 kx_0 rfl)⟩ ?_
        show At _ none _ _ (0, [(0, .ref 0), (1, .int x6407)], [], (_, _)) _
        refine At.enter rfl ?_
        refine r_aload_n rfl ?_
        refine q_getR (Sh.ref hI6409.1 kx_0 rfl) ?_
        refine r_iload_n rfl ?_
        refine r_iconst 0 rfl ?_
        refine q_iadd (x6407.toInt + 0) rfl (by omega) (fun v6448 hv6448 => ?_)
        refine r_callV 10 rfl [.ref 174, .int v6448] [] (Nat.le_of_ble_eq_true rfl) rfl (T_X8_at_174 _ hI6409 v6448) ?_
        rintro _ _ ⟨g6449, rfl, hI6450, hF6451, v6452, rfl, hr6453⟩
        refine At.sti ?_
        have hF6454 := Fr.tr hF6410 hF6451 rfl rfl
        obtain ⟨v6455, hv6455⟩ : ∃ v, gI g6408 174 1 = v := ⟨_, rfl⟩
        have rv6455 := RgF.at hI6409.2.1 (p := 174) (b := 1) rfl
        rw [hv6455] at rv6455
        dsimp only at rv6455
        have tv6455 := congrArg Int32.toInt hv6455
        have x6456 := HI.eqI hI6409 (p := 174) (b := 1) (hv6455)
        refine At.enter rfl ?_
        refine r_istore_n ([(2, .int v6452), (0, .ref 0), (1, .int x6407)]) rfl ?_
        refine r_aload_n rfl ?_
        refine q_getR (Sh.ref hI6450.1 kx_0 rfl) ?_
        refine r_iload_n rfl ?_
        refine r_iconst 1 rfl ?_
        refine q_iadd (x6407.toInt + 1) rfl (by omega) (fun v6457 hv6457 => ?_)
        refine r_callV 21 rfl [.ref 174, .int v6457] [] (Nat.le_of_ble_eq_true rfl) rfl (T_X8_at_174 _ hI6450 v6457) ?_
        rintro _ _ ⟨g6458, rfl, hI6459, hF6460, v6461, rfl, hr6462⟩
        refine At.sti ?_
        have hF6463 := Fr.tr hF6454 hF6460 rfl rfl
        have x6464 := HI.eqI hI6450 (p := 174) (b := 1) (((hF6451.1 174 1 (by decide)).trans hv6455))
        refine At.enter rfl ?_
        refine r_istore_n ([(3, .int v6461), (2, .int v6452), (0, .ref 0), (1, .int x6407)]) rfl ?_
        refine r_aload_n rfl ?_
        refine q_getR (Sh.ref hI6459.1 kx_0 rfl) ?_
        refine r_iload_n rfl ?_
        refine r_iconst 2 rfl ?_
        refine q_iadd (x6407.toInt + 2) rfl (by omega) (fun v6465 hv6465 => ?_)
        refine r_callV 32 rfl [.ref 174, .int v6465] [] (Nat.le_of_ble_eq_true rfl) rfl (T_X8_at_174 _ hI6459 v6465) ?_
        rintro _ _ ⟨g6466, rfl, hI6467, hF6468, v6469, rfl, hr6470⟩
        refine At.sti ?_
        have hF6471 := Fr.tr hF6463 hF6468 rfl rfl
        have x6472 := HI.eqI hI6459 (p := 174) (b := 1) ((((hF6460.1 174 1 (by decide)).trans (hF6451.1 174 1 (by decide))).trans hv6455))
        refine At.enter rfl ?_
        refine r_istore ([(4, .int v6469), (3, .int v6461), (2, .int v6452), (0, .ref 0), (1, .int x6407)]) rfl ?_
        refine r_aload_n rfl ?_
        refine q_getR (Sh.ref hI6467.1 kx_0 rfl) ?_
        refine r_iload_n rfl ?_
        refine r_iconst 3 rfl ?_
        refine q_iadd (x6407.toInt + 3) rfl (by omega) (fun v6473 hv6473 => ?_)
        refine r_callV 44 rfl [.ref 174, .int v6473] [] (Nat.le_of_ble_eq_true rfl) rfl (T_X8_at_174 _ hI6467 v6473) ?_
        rintro _ _ ⟨g6474, rfl, hI6475, hF6476, v6477, rfl, hr6478⟩
        refine At.sti ?_
        have hF6479 := Fr.tr hF6471 hF6476 rfl rfl
        have x6480 := HI.eqI hI6467 (p := 174) (b := 1) ((((hF6468.1 174 1 (by decide)).trans ((hF6460.1 174 1 (by decide)).trans (hF6451.1 174 1 (by decide)))).trans hv6455))
        refine At.enter rfl ?_
        refine r_istore ([(5, .int v6477), (4, .int v6469), (3, .int v6461), (2, .int v6452), (0, .ref 0), (1, .int x6407)]) rfl ?_
        refine r_aload_n rfl ?_
        refine q_getR (Sh.ref hI6475.1 kx_0 rfl) ?_
        refine r_iload_n rfl ?_
        refine r_iconst 4 rfl ?_
        refine q_iadd (x6407.toInt + 4) rfl (by omega) (fun v6481 hv6481 => ?_)
        refine r_callV 56 rfl [.ref 174, .int v6481] [] (Nat.le_of_ble_eq_true rfl) rfl (T_X8_at_174 _ hI6475 v6481) ?_
        rintro _ _ ⟨g6482, rfl, hI6483, hF6484, v6485, rfl, hr6486⟩
        refine At.sti ?_
        have hF6487 := Fr.tr hF6479 hF6484 rfl rfl
        have x6488 := HI.eqI hI6475 (p := 174) (b := 1) ((((hF6476.1 174 1 (by decide)).trans ((hF6468.1 174 1 (by decide)).trans ((hF6460.1 174 1 (by decide)).trans (hF6451.1 174 1 (by decide))))).trans hv6455))
        refine At.enter rfl ?_
        refine r_istore ([(6, .int v6485), (5, .int v6477), (4, .int v6469), (3, .int v6461), (2, .int v6452), (0, .ref 0), (1, .int x6407)]) rfl ?_
        refine r_aload_n rfl ?_
        refine q_getR (Sh.ref hI6483.1 kx_0 rfl) ?_
        refine r_iload_n rfl ?_
        refine r_iconst 5 rfl ?_
        refine q_iadd (x6407.toInt + 5) rfl (by omega) (fun v6489 hv6489 => ?_)
        refine r_callV 68 rfl [.ref 174, .int v6489] [] (Nat.le_of_ble_eq_true rfl) rfl (T_X8_at_174 _ hI6483 v6489) ?_
        rintro _ _ ⟨g6490, rfl, hI6491, hF6492, v6493, rfl, hr6494⟩
        refine At.sti ?_
        have hF6495 := Fr.tr hF6487 hF6492 rfl rfl
        have x6496 := HI.eqI hI6483 (p := 174) (b := 1) ((((hF6484.1 174 1 (by decide)).trans ((hF6476.1 174 1 (by decide)).trans ((hF6468.1 174 1 (by decide)).trans ((hF6460.1 174 1 (by decide)).trans (hF6451.1 174 1 (by decide)))))).trans hv6455))
        refine At.enter rfl ?_
        refine r_istore ([(7, .int v6493), (6, .int v6485), (5, .int v6477), (4, .int v6469), (3, .int v6461), (2, .int v6452), (0, .ref 0), (1, .int x6407)]) rfl ?_
        refine r_aload_n rfl ?_
        refine r_iload_n rfl ?_
        refine r_iload_n rfl ?_
        refine r_iload rfl ?_
        refine r_iload rfl ?_
        refine r_iload rfl ?_
        refine r_iload rfl ?_
        refine r_callV 84 rfl [.ref 0, .int v6452, .int v6461, .int v6469, .int v6477, .int v6485, .int v6493] [] (Nat.le_of_ble_eq_true rfl) rfl (T_X10_whyNoLoad_0 _ hI6491 v6452 v6461 v6469 v6477 v6485 v6493) ?_
        rintro _ _ ⟨g6497, rfl, hI6498, hF6499, v6500, rfl, hr6501⟩
        refine At.sti ?_
        have hF6502 := Fr.tr hF6495 hF6499 rfl rfl
        refine At.enter rfl ?_
        refine r_ifs 87 rfl (fun c6503 => ?_) (fun c6503 => ?_)
        · have c6503_ : v6500.toInt = 0 := en_k_eq_t c6503
          refine At.enter rfl ?_
          refine r_aload_n rfl ?_
          refine q_getR (Sh.ref hI6498.1 kx_0 rfl) ?_
          refine r_iload_n rfl ?_
          refine r_iload_n rfl ?_
          refine r_iload rfl ?_
          refine r_iload rfl ?_
          refine r_iload rfl ?_
          refine r_iload rfl ?_
          refine r_callV 106 rfl [.ref 1, .int v6452, .int v6461, .int v6469, .int v6477, .int v6485, .int v6493] [] (Nat.le_of_ble_eq_true rfl) rfl (T_X0_addLoad_1 _ hI6498 v6452 v6461 v6469 v6477 v6485 v6493) ?_
          rintro _ _ ⟨g6504, rfl, hI6505, hF6506, v6507, rfl, hr6508⟩
          refine At.sti ?_
          have hF6509 := Fr.tr hF6502 hF6506 rfl rfl
          refine At.enter rfl ?_
          refine r_pop rfl ?_
          refine r_iconst 1 rfl ?_
          refine q_iretz (by decide) ?_
          refine At.enter rfl ?_
          refine r_iff 50 rfl (by decide) ?_
          refine At.enter rfl ?_
          refine q_iincO e6416 (fun v6510 _ => ?_)
          refine r_goto ?_
          refine At.enter rfl ?_
          refine q_iinc (w_p1 (by decide) (Or.inr rfl) e6418) (x6407.toInt + 6) rfl (by omega) (fun v6511 hv6511 => ?_)
          refine r_goto ?_
          have bv6512 := q_bnd v6510
          have bv6513 := q_bnd x6406
          exact ih6413 (405 - v6511.toInt) _ _ ⟨v6510, x6406, v6511, by first | rfl | omega, hI6505, hF6509, (w_p1 (by decide) (Or.inr rfl) (w_p1 (by decide) (Or.inr rfl) e6414)), (w_p1 (by decide) (Or.inr rfl) (w_p1 (by decide) (Or.inr rfl) e6415)), (w_p1 (by decide) (Or.inr rfl) (w_e1 _ _ _)), (w_p1 (by decide) (Or.inr rfl) (w_p1 (by decide) (Or.inr rfl) e6417)), (w_e1 _ _ _), by omega⟩ ⟨by omega, by omega⟩
        · have c6503_ : v6500.toInt ≠ 0 := en_k_eq_f c6503
          refine At.enter rfl ?_
          refine r_iconst 0 rfl ?_
          refine q_iretz (by decide) ?_
          refine At.enter rfl ?_
          refine r_ift (by decide) ?_
          refine At.enter rfl ?_
          refine q_iincO e6417 (fun v6514 _ => ?_)
          refine Ar.fall 59 rfl ?_
          refine At.enter rfl ?_
          refine q_iinc (w_p1 (by decide) (Or.inr rfl) e6418) (x6407.toInt + 6) rfl (by omega) (fun v6515 hv6515 => ?_)
          refine r_goto ?_
          have bv6516 := q_bnd x6405
          have bv6517 := q_bnd v6514
          exact ih6413 (405 - v6515.toInt) _ _ ⟨x6405, v6514, v6515, by first | rfl | omega, hI6498, hF6502, (w_p1 (by decide) (Or.inr rfl) (w_p1 (by decide) (Or.inr rfl) e6414)), (w_p1 (by decide) (Or.inr rfl) (w_p1 (by decide) (Or.inr rfl) e6415)), (w_p1 (by decide) (Or.inr rfl) (w_p1 (by decide) (Or.inr rfl) e6416)), (w_p1 (by decide) (Or.inr rfl) (w_e1 _ _ _)), (w_e1 _ _ _), by omega⟩ ⟨by omega, by omega⟩
  · have c4346_ : v4345.toInt = 0 := en_k_ne_f c4346
    refine At.enter rfl ?_
    refine r_aload_n rfl ?_
    refine r_bipush (-6) rfl ?_
    refine r_callV 18 rfl [.ref 0, .int (-6)] [] (Nat.le_of_ble_eq_true rfl) rfl (T_X10_refused_0 _ hI0 (-6) (by decide)) ?_
    rintro _ _ ⟨g6518, rfl, hI6519, hF6520, v6521, rfl, hr6522⟩
    refine At.sti ?_
    have hF6523 := Fr.tr hF0 hF6520 rfl rfl
    have zv6524 : ((-6) : Int32).toInt = (-6) := rfl
    refine At.enter rfl ?_
    refine r_ireti ?_
    have x6525 := HI.eqI hI6519 (p := 174) (b := 1) (((hF6520.1 174 1 (by decide)).trans hv4345))
    exact ⟨_, rfl, hI6519, hF6523, _, rfl, trivial, (by omega)⟩
