def F_X10_feed_0 : List (Nat × Nat) := [(174, 1)]
def A_X10_feed_0 : List Nat := [175]
set_option maxRecDepth 100000 in
set_option maxHeartbeats 4000000 in
theorem T_X10_feed_0 (d : Nat) {N : Nat} {g0 : List en_E} (hI0 : HI g0) (a1 : Int32) (a2 : Int32) (a3 : Int32) (a4 : Int32) (a5 : Int32) : Ev (d + 2) 111 [.ref 0, .int a1, .int a2, .int a3, .int a4, .int a5] (g0, N) (fun w h' => ∃ g', h' = (g', N) ∧ HI g' ∧ Fr F_X10_feed_0 A_X10_feed_0 g0 g' ∧ ∃ r : Int32, w = some (.int r) ∧ ((-1) ≤ r.toInt ∧ r.toInt ≤ 400) ∧ ((380 < (gI g0 174 1).toInt → r.toInt = -1 ∧ (gI g' 174 1).toInt = (gI g0 174 1).toInt) ∧ ((gI g0 174 1).toInt ≤ 380 → r.toInt = (gI g0 174 1).toInt + 20 ∧ (gI g' 174 1).toInt = (gI g0 174 1).toInt + 20))) := by
  have hF0 : Fr F_X10_feed_0 A_X10_feed_0 g0 g0 := Fr.rf
  refine Ev.mk rfl rfl ⟨Nat.le_of_ble_eq_true rfl, Or.inr (q_rc hI0.1 kx_0 rfl)⟩ ?_
  show At _ none _ _ (0, [(0, .ref 0), (1, .int a1), (2, .int a2), (3, .int a3), (4, .int a4), (5, .int a5)], [], (_, _)) _
  refine At.enter rfl ?_
  refine r_aload_n rfl ?_
  refine q_getR (Sh.ref hI0.1 kx_0 rfl) ?_
  obtain ⟨v97, hv97⟩ : ∃ v, gI g0 174 1 = v := ⟨_, rfl⟩
  have rv97 := RgF.at hI0.2.1 (p := 174) (b := 1) rfl
  rw [hv97] at rv97
  dsimp only at rv97
  refine q_getI (Sh.int hI0.1 kx_174 rfl) v97 hv97 ?_
  refine r_bipush 20 rfl ?_
  refine q_iadd (v97.toInt + 20) rfl (by omega) (fun v98 hv98 => ?_)
  refine r_sipush 400 rfl ?_
  refine r_ics 16 rfl (fun c99 => ?_) (fun c99 => ?_)
  · have c99_ : v98.toInt ≤ 400 := en_i_le_t c99
    refine At.enter rfl ?_
    refine r_aload_n rfl ?_
    refine q_getR (Sh.ref hI0.1 kx_0 rfl) ?_
    refine r_iload_n rfl ?_
    refine r_callV 26 rfl [.ref 174, .int a1] [] (Nat.le_of_ble_eq_true rfl) rfl (T_X8_append_174 _ hI0 a1) ?_
    rintro _ _ ⟨g100, rfl, hI101, hF102, rfl, hr104⟩
    refine At.stn ?_
    have hF105 := Fr.tr hF0 hF102 rfl rfl
    have x106 := HI.eqI hI0 (p := 174) (b := 1) (hv97)
    obtain ⟨v107, hv107⟩ : ∃ v, gI g100 174 1 = v := ⟨_, rfl⟩
    have rv107 := RgF.at hI101.2.1 (p := 174) (b := 1) rfl
    rw [hv107] at rv107
    dsimp only at rv107
    have tv107 := congrArg Int32.toInt hv107
    have x108 := HI.eqI hI101 (p := 174) (b := 1) (hv107)
    refine At.enter rfl ?_
    refine r_aload_n rfl ?_
    refine q_getR (Sh.ref hI101.1 kx_0 rfl) ?_
    refine r_iload_n rfl ?_
    refine r_callV 34 rfl [.ref 174, .int a2] [] (Nat.le_of_ble_eq_true rfl) rfl (T_X8_append_174 _ hI101 a2) ?_
    rintro _ _ ⟨g109, rfl, hI110, hF111, rfl, hr113⟩
    refine At.stn ?_
    have hF114 := Fr.tr hF105 hF111 rfl rfl
    have x115 := HI.eqI hI101 (p := 174) (b := 1) (hv107)
    obtain ⟨v116, hv116⟩ : ∃ v, gI g109 174 1 = v := ⟨_, rfl⟩
    have rv116 := RgF.at hI110.2.1 (p := 174) (b := 1) rfl
    rw [hv116] at rv116
    dsimp only at rv116
    have tv116 := congrArg Int32.toInt hv116
    have x117 := HI.eqI hI110 (p := 174) (b := 1) (hv116)
    refine At.enter rfl ?_
    refine r_aload_n rfl ?_
    refine q_getR (Sh.ref hI110.1 kx_0 rfl) ?_
    refine r_iload_n rfl ?_
    refine r_callV 42 rfl [.ref 174, .int a3] [] (Nat.le_of_ble_eq_true rfl) rfl (T_X8_append_174 _ hI110 a3) ?_
    rintro _ _ ⟨g118, rfl, hI119, hF120, rfl, hr122⟩
    refine At.stn ?_
    have hF123 := Fr.tr hF114 hF120 rfl rfl
    have x124 := HI.eqI hI110 (p := 174) (b := 1) (hv116)
    obtain ⟨v125, hv125⟩ : ∃ v, gI g118 174 1 = v := ⟨_, rfl⟩
    have rv125 := RgF.at hI119.2.1 (p := 174) (b := 1) rfl
    rw [hv125] at rv125
    dsimp only at rv125
    have tv125 := congrArg Int32.toInt hv125
    have x126 := HI.eqI hI119 (p := 174) (b := 1) (hv125)
    refine At.enter rfl ?_
    refine r_aload_n rfl ?_
    refine q_getR (Sh.ref hI119.1 kx_0 rfl) ?_
    refine r_iload rfl ?_
    refine r_callV 51 rfl [.ref 174, .int a4] [] (Nat.le_of_ble_eq_true rfl) rfl (T_X8_append_174 _ hI119 a4) ?_
    rintro _ _ ⟨g127, rfl, hI128, hF129, rfl, hr131⟩
    refine At.stn ?_
    have hF132 := Fr.tr hF123 hF129 rfl rfl
    have x133 := HI.eqI hI119 (p := 174) (b := 1) (hv125)
    obtain ⟨v134, hv134⟩ : ∃ v, gI g127 174 1 = v := ⟨_, rfl⟩
    have rv134 := RgF.at hI128.2.1 (p := 174) (b := 1) rfl
    rw [hv134] at rv134
    dsimp only at rv134
    have tv134 := congrArg Int32.toInt hv134
    have x135 := HI.eqI hI128 (p := 174) (b := 1) (hv134)
    refine At.enter rfl ?_
    refine r_aload_n rfl ?_
    refine q_getR (Sh.ref hI128.1 kx_0 rfl) ?_
    refine r_iload rfl ?_
    refine r_callV 60 rfl [.ref 174, .int a5] [] (Nat.le_of_ble_eq_true rfl) rfl (T_X8_append_174 _ hI128 a5) ?_
    rintro _ _ ⟨g136, rfl, hI137, hF138, rfl, hr140⟩
    refine At.stn ?_
    have hF141 := Fr.tr hF132 hF138 rfl rfl
    have x142 := HI.eqI hI128 (p := 174) (b := 1) (hv134)
    obtain ⟨v143, hv143⟩ : ∃ v, gI g136 174 1 = v := ⟨_, rfl⟩
    have rv143 := RgF.at hI137.2.1 (p := 174) (b := 1) rfl
    rw [hv143] at rv143
    dsimp only at rv143
    have tv143 := congrArg Int32.toInt hv143
    have x144 := HI.eqI hI137 (p := 174) (b := 1) (hv143)
    refine At.enter rfl ?_
    refine r_aload_n rfl ?_
    refine q_getR (Sh.ref hI137.1 kx_0 rfl) ?_
    refine q_getI (Sh.int hI137.1 kx_174 rfl) v143 hv143 ?_
    refine r_ireti ?_
    have x145 := HI.eqI hI137 (p := 174) (b := 1) (hv143)
    have x146 := HI.eqI hI0 (p := 174) (b := 1) (hv97)
    exact ⟨_, rfl, hI137, hF141, _, rfl, by omega, (by omega)⟩
  · have c99_ : v98.toInt > 400 := en_i_le_f c99
    refine At.enter rfl ?_
    refine r_iconst (-1) rfl ?_
    refine r_ireti ?_
    have zv147 : ((-1) : Int32).toInt = (-1) := rfl
    have x148 := HI.eqI hI0 (p := 174) (b := 1) (hv97)
    have x149 := HI.eqI hI0 (p := 174) (b := 1) (hv97)
    exact ⟨_, rfl, hI0, hF0, _, rfl, by decide, (by omega)⟩

def F_X10_end_0 : List (Nat × Nat) := [(174, 1)]
def A_X10_end_0 : List Nat := []
set_option maxRecDepth 100000 in
set_option maxHeartbeats 4000000 in
theorem T_X10_end_0 (d : Nat) {N : Nat} {g0 : List en_E} (hI0 : HI g0) (a1 : Int32) : Ev (d + 2) 112 [.ref 0, .int a1] (g0, N) (fun w h' => ∃ g', h' = (g', N) ∧ HI g' ∧ Fr F_X10_end_0 A_X10_end_0 g0 g' ∧ ∃ r : Int32, w = some (.int r) ∧ ((-1) ≤ r.toInt ∧ r.toInt ≤ 400) ∧ ((0 ≤ a1.toInt ∧ a1.toInt ≤ (gI g0 174 1).toInt → r.toInt = a1.toInt ∧ (gI g' 174 1).toInt = a1.toInt) ∧ (a1.toInt < 0 ∨ (gI g0 174 1).toInt < a1.toInt → r.toInt = -1 ∧ (gI g' 174 1).toInt = (gI g0 174 1).toInt))) := by
  have hF0 : Fr F_X10_end_0 A_X10_end_0 g0 g0 := Fr.rf
  refine Ev.mk rfl rfl ⟨Nat.le_of_ble_eq_true rfl, Or.inr (q_rc hI0.1 kx_0 rfl)⟩ ?_
  show At _ none _ _ (0, [(0, .ref 0), (1, .int a1)], [], (_, _)) _
  refine At.enter rfl ?_
  refine r_iload_n rfl ?_
  refine r_iconst 0 rfl ?_
  refine r_aload_n rfl ?_
  refine q_getR (Sh.ref hI0.1 kx_0 rfl) ?_
  obtain ⟨v15, hv15⟩ : ∃ v, gI g0 174 1 = v := ⟨_, rfl⟩
  have rv15 := RgF.at hI0.2.1 (p := 174) (b := 1) rfl
  rw [hv15] at rv15
  dsimp only at rv15
  refine q_getI (Sh.int hI0.1 kx_174 rfl) v15 hv15 ?_
  refine q_inlS 12 rfl [.int a1, .int 0, .int v15] [] (Nat.le_of_ble_eq_true rfl) rfl ?_
  refine Ev.mk rfl rfl ⟨Nat.le_of_ble_eq_true rfl, Or.inl rfl⟩ ?_
  show At _ none _ _ (0, [(0, .int a1), (1, .int 0), (2, .int v15)], [], (_, _)) _
  refine At.enter rfl ?_
  refine r_iload_n rfl ?_
  refine r_iload_n rfl ?_
  refine r_ics 5 rfl (fun c16 => ?_) (fun c16 => ?_)
  · have c16_ : a1.toInt < 0 := en_i_lt_t c16
    refine At.enter rfl ?_
    refine r_iconst 0 rfl ?_
    refine Ar.fall 15 rfl ?_
    refine At.enter rfl ?_
    refine q_iretz (by decide) ?_
    refine At.enter rfl ?_
    refine r_iff 15 rfl (by decide) ?_
    refine At.enter rfl ?_
    refine r_iconst (-1) rfl ?_
    refine r_ireti ?_
    have zv17 : ((-1) : Int32).toInt = (-1) := rfl
    have x18 := HI.eqI hI0 (p := 174) (b := 1) (hv15)
    have x19 := HI.eqI hI0 (p := 174) (b := 1) (hv15)
    exact ⟨_, rfl, hI0, hF0, _, rfl, by decide, (by omega)⟩
  · have c16_ : a1.toInt ≥ 0 := en_i_lt_f c16
    refine At.enter rfl ?_
    refine r_iload_n rfl ?_
    refine r_iload_n rfl ?_
    have bv21 := q_bnd a1
    have bv22 := q_bnd v15
    refine r_ics 10 rfl (fun c20 => ?_) (fun c20 => ?_)
    · have c20_ : a1.toInt > v15.toInt := en_i_gt_t c20
      refine At.enter rfl ?_
      refine r_iconst 0 rfl ?_
      refine Ar.fall 15 rfl ?_
      refine At.enter rfl ?_
      refine q_iretz (by decide) ?_
      refine At.enter rfl ?_
      refine r_iff 15 rfl (by decide) ?_
      refine At.enter rfl ?_
      refine r_iconst (-1) rfl ?_
      refine r_ireti ?_
      have zv23 : ((-1) : Int32).toInt = (-1) := rfl
      have x24 := HI.eqI hI0 (p := 174) (b := 1) (hv15)
      have x25 := HI.eqI hI0 (p := 174) (b := 1) (hv15)
      exact ⟨_, rfl, hI0, hF0, _, rfl, by decide, (by omega)⟩
    · have c20_ : a1.toInt ≤ v15.toInt := en_i_gt_f c20
      refine At.enter rfl ?_
      refine r_iconst 1 rfl ?_
      refine r_goto ?_
      refine At.enter rfl ?_
      refine q_iretz (by decide) ?_
      refine At.enter rfl ?_
      refine r_ift (by decide) ?_
      refine At.enter rfl ?_
      refine r_aload_n rfl ?_
      refine q_getR (Sh.ref hI0.1 kx_0 rfl) ?_
      refine r_iload_n rfl ?_
      refine q_putI (Sh.int hI0.1 kx_174 rfl) rfl ?_
      have hI26 := HI.wI1 hI0 kx_174 rfl (p := 174) (b := 1) (v := a1) rfl (by dsimp only; omega)
      have hF27 := Fr.wI (p := 174) (b := 1) (v := a1) hF0 rfl
      refine r_iload_n rfl ?_
      refine r_ireti ?_
      have x28 := HI.eqI hI26 (p := 174) (b := 1) ((gI_sI_eq hI0.1 kx_174 rfl _))
      have x29 := HI.eqI hI0 (p := 174) (b := 1) (hv15)
      exact ⟨_, rfl, hI26, hF27, _, rfl, by omega, (by omega)⟩

def F_X10_row_0 : List (Nat × Nat) := [(0, 14), (0, 16), (0, 17), (1, 4), (174, 1), (220, 2), (222, 2), (223, 5), (223, 10)]
def A_X10_row_0 : List Nat := [5, 230]
set_option maxRecDepth 100000 in
set_option maxHeartbeats 4000000 in
theorem T_X10_row_0 (d : Nat) {N : Nat} {g0 : List en_E} (hI0 : HI g0) : Ev (d + 4) 113 [.ref 0] (g0, N) (fun w h' => ∃ g', h' = (g', N) ∧ HI g' ∧ Fr F_X10_row_0 A_X10_row_0 g0 g' ∧ ∃ r : Int32, w = some (.int r) ∧ True ∧ (gI g' 174 1).toInt = 0) := by
  have hF0 : Fr F_X10_row_0 A_X10_row_0 g0 g0 := Fr.rf
  refine Ev.mk rfl rfl ⟨Nat.le_of_ble_eq_true rfl, Or.inr (q_rc hI0.1 kx_0 rfl)⟩ ?_
  show At _ none _ _ (0, [(0, .ref 0)], [], (_, _)) _
  refine At.enter rfl ?_
  refine r_aload_n rfl ?_
  refine q_getR (Sh.ref hI0.1 kx_0 rfl) ?_
  obtain ⟨v4345, hv4345⟩ : ∃ v, gI g0 174 1 = v := ⟨_, rfl⟩
  have rv4345 := RgF.at hI0.2.1 (p := 174) (b := 1) rfl
  rw [hv4345] at rv4345
  dsimp only at rv4345
  refine q_getI (Sh.int hI0.1 kx_174 rfl) v4345 hv4345 ?_
  refine r_istore_n ([(1, .int v4345), (0, .ref 0)]) rfl ?_
  refine r_iload_n rfl ?_
  refine r_ifs 12 rfl (fun c4346 => ?_) (fun c4346 => ?_)
  · have c4346_ : v4345.toInt ≠ 0 := en_k_ne_t c4346
    refine At.enter rfl ?_
    refine r_iconst 0 rfl ?_
    refine r_istore_n ([(2, .int 0), (1, .int v4345), (0, .ref 0)]) rfl ?_
    refine r_iconst 0 rfl ?_
    refine r_istore_n ([(3, .int 0), (2, .int 0), (1, .int v4345), (0, .ref 0)]) rfl ?_
    refine r_iconst 0 rfl ?_
    refine r_istore ([(4, .int 0), (3, .int 0), (2, .int 0), (1, .int v4345), (0, .ref 0)]) rfl ?_
    refine Ar.fall 26 rfl ?_
    have z_6420 : (0 : Int32).toInt = 0 := rfl
    have z_6421 : (0 : Int32).toInt = 0 := rfl
    have z_6422 : (0 : Int32).toInt = 0 := rfl
    refine w_loopI (fun n_ l_ g_ => ∃ x6405 : Int32, ∃ x6406 : Int32, ∃ x6407 : Int32, n_ = 405 - x6407.toInt ∧ HI g_ ∧ Fr F_X10_row_0 A_X10_row_0 g0 g_ ∧ en_get 0 l_ = some (.ref 0) ∧ en_get 1 l_ = some (.int v4345) ∧ en_get 2 l_ = some (.int x6405) ∧ en_get 3 l_ = some (.int x6406) ∧ en_get 4 l_ = some (.int x6407) ∧ (0 ≤ x6407.toInt ∧ x6407.toInt ≤ 405)) ?_ (405 - 0) ⟨0, 0, 0, by first | rfl | omega, hI0, hF0, rfl, rfl, rfl, rfl, rfl, by decide⟩
    rintro n6412 l6411 g6408 ⟨x6405, x6406, x6407, hm6423, hI6409, hF6410, e6414, e6415, e6416, e6417, e6418, r6419⟩ ih6413
    refine At.enter rfl ?_
    refine r_iload e6418 ?_
    refine r_iload_n e6415 ?_
    have bv6425 := q_bnd x6407
    have bv6426 := q_bnd v4345
    refine r_ics 32 rfl (fun c6424 => ?_) (fun c6424 => ?_)
    · have c6424_ : x6407.toInt ≥ v4345.toInt := en_i_ge_t c6424
      refine At.enter rfl ?_
      refine r_aload_n e6414 ?_
      refine q_getR (Sh.ref hI6409.1 kx_0 rfl) ?_
      refine r_iconst 0 rfl ?_
      refine q_putI (Sh.int hI6409.1 kx_174 rfl) rfl ?_
      have hI6427 := HI.wI1 hI6409 kx_174 rfl (p := 174) (b := 1) (v := 0) rfl (by decide)
      have hF6428 := Fr.wI (p := 174) (b := 1) (v := 0) hF6410 rfl
      refine r_aload_n e6414 ?_
      refine r_iload_n e6417 ?_
      refine q_putI (Sh.int hI6427.1 kx_0 rfl) rfl ?_
      have hI6429 := HI.wI0 hI6427 kx_0 rfl (p := 0) (b := 16) (v := x6406) rfl
      have hF6430 := Fr.wI (p := 0) (b := 16) (v := x6406) hF6428 rfl
      refine r_aload_n e6414 ?_
      refine r_callV 82 rfl [.ref 0] [] (Nat.le_of_ble_eq_true rfl) rfl (T_X10_changed_0 _ hI6429) ?_
      rintro _ _ ⟨g6431, rfl, hI6432, hF6433, rfl⟩
      refine At.stn ?_
      have hF6436 := Fr.tr hF6430 hF6433 rfl rfl
      refine At.enter rfl ?_
      refine r_aload_n e6414 ?_
      refine r_iload_n e6416 ?_
      refine q_inlV 87 rfl [.ref 0, .int x6405] [] (Nat.le_of_ble_eq_true rfl) rfl ?_
      refine Ev.mk rfl rfl ⟨Nat.le_of_ble_eq_true rfl, Or.inr (q_rc hI6432.1 kx_0 rfl)⟩ ?_
      show At _ none _ _ (0, [(0, .ref 0), (1, .int x6405)], [], (_, _)) _
      refine At.enter rfl ?_
      refine r_aload_n rfl ?_
      refine r_iconst 0 rfl ?_
      refine q_putI (Sh.int hI6432.1 kx_0 rfl) rfl ?_
      have hI6437 := HI.wI0 hI6432 kx_0 rfl (p := 0) (b := 17) (v := 0) rfl
      have hF6438 := Fr.wI (p := 0) (b := 17) (v := 0) hF6436 rfl
      refine r_iload_n rfl ?_
      refine q_ireti ?_
      refine At.enter rfl ?_
      refine r_ireti ?_
      have x6439 := HI.eqI hI6437 (p := 174) (b := 1) (((gI_sI_ne (by decide)).trans ((hF6433.1 174 1 (by decide)).trans ((gI_sI_ne (by decide)).trans (gI_sI_eq hI6409.1 kx_174 rfl _)))))
      have zv6440 : (0 : Int32).toInt = 0 := rfl
      exact ⟨_, rfl, hI6437, hF6438, _, rfl, trivial, (by omega)⟩
    · have c6424_ : x6407.toInt < v4345.toInt := en_i_ge_f c6424
      refine At.enter rfl ?_
      refine r_iload e6418 ?_
      refine r_bipush 6 rfl ?_
      refine q_iadd (x6407.toInt + 6) rfl (by omega) (fun v6441 hv6441 => ?_)
      refine r_iload_n e6415 ?_
      have bv6443 := q_bnd v6441
      refine r_ics 41 rfl (fun c6442 => ?_) (fun c6442 => ?_)
      · have c6442_ : v6441.toInt > v4345.toInt := en_i_gt_t c6442
        refine At.enter rfl ?_
        refine q_iincO e6417 (fun v6444 _ => ?_)
        refine Ar.fall 59 rfl ?_
        refine At.enter rfl ?_
        refine q_iinc (w_p1 (by decide) (Or.inr rfl) e6418) (x6407.toInt + 6) rfl (by omega) (fun v6445 hv6445 => ?_)
        refine r_goto ?_
        have bv6446 := q_bnd x6405
        have bv6447 := q_bnd v6444
        exact ih6413 (405 - v6445.toInt) _ _ ⟨x6405, v6444, v6445, by first | rfl | omega, hI6409, hF6410, (w_p1 (by decide) (Or.inr rfl) (w_p1 (by decide) (Or.inr rfl) e6414)), (w_p1 (by decide) (Or.inr rfl) (w_p1 (by decide) (Or.inr rfl) e6415)), (w_p1 (by decide) (Or.inr rfl) (w_p1 (by decide) (Or.inr rfl) e6416)), (w_p1 (by decide) (Or.inr rfl) (w_e1 _ _ _)), (w_e1 _ _ _), by omega⟩ ⟨by omega, by omega⟩
      · have c6442_ : v6441.toInt ≤ v4345.toInt := en_i_gt_f c6442
        refine At.enter rfl ?_
        refine r_aload_n e6414 ?_
        refine r_iload e6418 ?_
        refine q_inlV 47 rfl [.ref 0, .int x6407] [] (Nat.le_of_ble_eq_true rfl) rfl ?_
        refine Ev.mk rfl rfl ⟨Nat.le_of_ble_eq_true rfl, Or.inr (q_rc hI6409.1 kx_0 rfl)⟩ ?_
        show At _ none _ _ (0, [(0, .ref 0), (1, .int x6407)], [], (_, _)) _
        refine At.enter rfl ?_
        refine r_aload_n rfl ?_
        refine q_getR (Sh.ref hI6409.1 kx_0 rfl) ?_
        refine r_iload_n rfl ?_
        refine r_iconst 0 rfl ?_
        refine q_iadd (x6407.toInt + 0) rfl (by omega) (fun v6448 hv6448 => ?_)
        refine r_callV 10 rfl [.ref 174, .int v6448] [] (Nat.le_of_ble_eq_true rfl) rfl (T_X8_at_174 _ hI6409 v6448) ?_
        rintro _ _ ⟨g6449, rfl, hI6450, hF6451, v6452, rfl, hr6453⟩
        refine At.sti ?_
        have hF6454 := Fr.tr hF6410 hF6451 rfl rfl
        obtain ⟨v6455, hv6455⟩ : ∃ v, gI g6408 174 1 = v := ⟨_, rfl⟩
        have rv6455 := RgF.at hI6409.2.1 (p := 174) (b := 1) rfl
        rw [hv6455] at rv6455
        dsimp only at rv6455
        have tv6455 := congrArg Int32.toInt hv6455
        have x6456 := HI.eqI hI6409 (p := 174) (b := 1) (hv6455)
        refine At.enter rfl ?_
        refine r_istore_n ([(2, .int v6452), (0, .ref 0), (1, .int x6407)]) rfl ?_
        refine r_aload_n rfl ?_
        refine q_getR (Sh.ref hI6450.1 kx_0 rfl) ?_
        refine r_iload_n rfl ?_
        refine r_iconst 1 rfl ?_
        refine q_iadd (x6407.toInt + 1) rfl (by omega) (fun v6457 hv6457 => ?_)
        refine r_callV 21 rfl [.ref 174, .int v6457] [] (Nat.le_of_ble_eq_true rfl) rfl (T_X8_at_174 _ hI6450 v6457) ?_
        rintro _ _ ⟨g6458, rfl, hI6459, hF6460, v6461, rfl, hr6462⟩
        refine At.sti ?_
        have hF6463 := Fr.tr hF6454 hF6460 rfl rfl
        have x6464 := HI.eqI hI6450 (p := 174) (b := 1) (((hF6451.1 174 1 (by decide)).trans hv6455))
        refine At.enter rfl ?_
        refine r_istore_n ([(3, .int v6461), (2, .int v6452), (0, .ref 0), (1, .int x6407)]) rfl ?_
        refine r_aload_n rfl ?_
        refine q_getR (Sh.ref hI6459.1 kx_0 rfl) ?_
        refine r_iload_n rfl ?_
        refine r_iconst 2 rfl ?_
        refine q_iadd (x6407.toInt + 2) rfl (by omega) (fun v6465 hv6465 => ?_)
        refine r_callV 32 rfl [.ref 174, .int v6465] [] (Nat.le_of_ble_eq_true rfl) rfl (T_X8_at_174 _ hI6459 v6465) ?_
        rintro _ _ ⟨g6466, rfl, hI6467, hF6468, v6469, rfl, hr6470⟩
        refine At.sti ?_
        have hF6471 := Fr.tr hF6463 hF6468 rfl rfl
        have x6472 := HI.eqI hI6459 (p := 174) (b := 1) ((((hF6460.1 174 1 (by decide)).trans (hF6451.1 174 1 (by decide))).trans hv6455))
        refine At.enter rfl ?_
        refine r_istore ([(4, .int v6469), (3, .int v6461), (2, .int v6452), (0, .ref 0), (1, .int x6407)]) rfl ?_
        refine r_aload_n rfl ?_
        refine q_getR (Sh.ref hI6467.1 kx_0 rfl) ?_
        refine r_iload_n rfl ?_
        refine r_iconst 3 rfl ?_
        refine q_iadd (x6407.toInt + 3) rfl (by omega) (fun v6473 hv6473 => ?_)
        refine r_callV 44 rfl [.ref 174, .int v6473] [] (Nat.le_of_ble_eq_true rfl) rfl (T_X8_at_174 _ hI6467 v6473) ?_
        rintro _ _ ⟨g6474, rfl, hI6475, hF6476, v6477, rfl, hr6478⟩
        refine At.sti ?_
        have hF6479 := Fr.tr hF6471 hF6476 rfl rfl
        have x6480 := HI.eqI hI6467 (p := 174) (b := 1) ((((hF6468.1 174 1 (by decide)).trans ((hF6460.1 174 1 (by decide)).trans (hF6451.1 174 1 (by decide)))).trans hv6455))
        refine At.enter rfl ?_
        refine r_istore ([(5, .int v6477), (4, .int v6469), (3, .int v6461), (2, .int v6452), (0, .ref 0), (1, .int x6407)]) rfl ?_
        refine r_aload_n rfl ?_
        refine q_getR (Sh.ref hI6475.1 kx_0 rfl) ?_
        refine r_iload_n rfl ?_
        refine r_iconst 4 rfl ?_
        refine q_iadd (x6407.toInt + 4) rfl (by omega) (fun v6481 hv6481 => ?_)
        refine r_callV 56 rfl [.ref 174, .int v6481] [] (Nat.le_of_ble_eq_true rfl) rfl (T_X8_at_174 _ hI6475 v6481) ?_
        rintro _ _ ⟨g6482, rfl, hI6483, hF6484, v6485, rfl, hr6486⟩
        refine At.sti ?_
        have hF6487 := Fr.tr hF6479 hF6484 rfl rfl
        have x6488 := HI.eqI hI6475 (p := 174) (b := 1) ((((hF6476.1 174 1 (by decide)).trans ((hF6468.1 174 1 (by decide)).trans ((hF6460.1 174 1 (by decide)).trans (hF6451.1 174 1 (by decide))))).trans hv6455))
        refine At.enter rfl ?_
        refine r_istore ([(6, .int v6485), (5, .int v6477), (4, .int v6469), (3, .int v6461), (2, .int v6452), (0, .ref 0), (1, .int x6407)]) rfl ?_
        refine r_aload_n rfl ?_
        refine q_getR (Sh.ref hI6483.1 kx_0 rfl) ?_
        refine r_iload_n rfl ?_
        refine r_iconst 5 rfl ?_
        refine q_iadd (x6407.toInt + 5) rfl (by omega) (fun v6489 hv6489 => ?_)
        refine r_callV 68 rfl [.ref 174, .int v6489] [] (Nat.le_of_ble_eq_true rfl) rfl (T_X8_at_174 _ hI6483 v6489) ?_
        rintro _ _ ⟨g6490, rfl, hI6491, hF6492, v6493, rfl, hr6494⟩
        refine At.sti ?_
        have hF6495 := Fr.tr hF6487 hF6492 rfl rfl
        have x6496 := HI.eqI hI6483 (p := 174) (b := 1) ((((hF6484.1 174 1 (by decide)).trans ((hF6476.1 174 1 (by decide)).trans ((hF6468.1 174 1 (by decide)).trans ((hF6460.1 174 1 (by decide)).trans (hF6451.1 174 1 (by decide)))))).trans hv6455))
        refine At.enter rfl ?_
        refine r_istore ([(7, .int v6493), (6, .int v6485), (5, .int v6477), (4, .int v6469), (3, .int v6461), (2, .int v6452), (0, .ref 0), (1, .int x6407)]) rfl ?_
        refine r_aload_n rfl ?_
        refine r_iload_n rfl ?_
        refine r_iload_n rfl ?_
        refine r_iload rfl ?_
        refine r_iload rfl ?_
        refine r_iload rfl ?_
        refine r_iload rfl ?_
        refine r_callV 84 rfl [.ref 0, .int v6452, .int v6461, .int v6469, .int v6477, .int v6485, .int v6493] [] (Nat.le_of_ble_eq_true rfl) rfl (T_X10_whyNoLoad_0 _ hI6491 v6452 v6461 v6469 v6477 v6485 v6493) ?_
        rintro _ _ ⟨g6497, rfl, hI6498, hF6499, v6500, rfl, hr6501⟩
        refine At.sti ?_
        have hF6502 := Fr.tr hF6495 hF6499 rfl rfl
        refine At.enter rfl ?_
        refine r_ifs 87 rfl (fun c6503 => ?_) (fun c6503 => ?_)
        · have c6503_ : v6500.toInt = 0 := en_k_eq_t c6503
          refine At.enter rfl ?_
          refine r_aload_n rfl ?_
          refine q_getR (Sh.ref hI6498.1 kx_0 rfl) ?_
          refine r_iload_n rfl ?_
          refine r_iload_n rfl ?_
          refine r_iload rfl ?_
          refine r_iload rfl ?_
          refine r_iload rfl ?_
          refine r_iload rfl ?_
          refine r_callV 106 rfl [.ref 1, .int v6452, .int v6461, .int v6469, .int v6477, .int v6485, .int v6493] [] (Nat.le_of_ble_eq_true rfl) rfl (T_X0_addLoad_1 _ hI6498 v6452 v6461 v6469 v6477 v6485 v6493) ?_
          rintro _ _ ⟨g6504, rfl, hI6505, hF6506, v6507, rfl, hr6508⟩
          refine At.sti ?_
          have hF6509 := Fr.tr hF6502 hF6506 rfl rfl
          refine At.enter rfl ?_
          refine r_pop rfl ?_
          refine r_iconst 1 rfl ?_
          refine q_iretz (by decide) ?_
          refine At.enter rfl ?_
          refine r_iff 50 rfl (by decide) ?_
          refine At.enter rfl ?_
          refine q_iincO e6416 (fun v6510 _ => ?_)
          refine r_goto ?_
          refine At.enter rfl ?_
          refine q_iinc (w_p1 (by decide) (Or.inr rfl) e6418) (x6407.toInt + 6) rfl (by omega) (fun v6511 hv6511 => ?_)
          refine r_goto ?_
          have bv6512 := q_bnd v6510
          have bv6513 := q_bnd x6406
          exact ih6413 (405 - v6511.toInt) _ _ ⟨v6510, x6406, v6511, by first | rfl | omega, hI6505, hF6509, (w_p1 (by decide) (Or.inr rfl) (w_p1 (by decide) (Or.inr rfl) e6414)), (w_p1 (by decide) (Or.inr rfl) (w_p1 (by decide) (Or.inr rfl) e6415)), (w_p1 (by decide) (Or.inr rfl) (w_e1 _ _ _)), (w_p1 (by decide) (Or.inr rfl) (w_p1 (by decide) (Or.inr rfl) e6417)), (w_e1 _ _ _), by omega⟩ ⟨by omega, by omega⟩
        · have c6503_ : v6500.toInt ≠ 0 := en_k_eq_f c6503
          refine At.enter rfl ?_
          refine r_iconst 0 rfl ?_
          refine q_iretz (by decide) ?_
          refine At.enter rfl ?_
          refine r_ift (by decide) ?_
          refine At.enter rfl ?_
          refine q_iincO e6417 (fun v6514 _ => ?_)
          refine Ar.fall 59 rfl ?_
          refine At.enter rfl ?_
          refine q_iinc (w_p1 (by decide) (Or.inr rfl) e6418) (x6407.toInt + 6) rfl (by omega) (fun v6515 hv6515 => ?_)
          refine r_goto ?_
          have bv6516 := q_bnd x6405
          have bv6517 := q_bnd v6514
          exact ih6413 (405 - v6515.toInt) _ _ ⟨x6405, v6514, v6515, by first | rfl | omega, hI6498, hF6502, (w_p1 (by decide) (Or.inr rfl) (w_p1 (by decide) (Or.inr rfl) e6414)), (w_p1 (by decide) (Or.inr rfl) (w_p1 (by decide) (Or.inr rfl) e6415)), (w_p1 (by decide) (Or.inr rfl) (w_p1 (by decide) (Or.inr rfl) e6416)), (w_p1 (by decide) (Or.inr rfl) (w_e1 _ _ _)), (w_e1 _ _ _), by omega⟩ ⟨by omega, by omega⟩
  · have c4346_ : v4345.toInt = 0 := en_k_ne_f c4346
    refine At.enter rfl ?_
    refine r_aload_n rfl ?_
    refine r_bipush (-6) rfl ?_
    refine r_callV 18 rfl [.ref 0, .int (-6)] [] (Nat.le_of_ble_eq_true rfl) rfl (T_X10_refused_0 _ hI0 (-6) (by decide)) ?_
    rintro _ _ ⟨g6518, rfl, hI6519, hF6520, v6521, rfl, hr6522⟩
    refine At.sti ?_
    have hF6523 := Fr.tr hF0 hF6520 rfl rfl
    have zv6524 : ((-6) : Int32).toInt = (-6) := rfl
    refine At.enter rfl ?_
    refine r_ireti ?_
    have x6525 := HI.eqI hI6519 (p := 174) (b := 1) (((hF6520.1 174 1 (by decide)).trans hv4345))
    exact ⟨_, rfl, hI6519, hF6523, _, rfl, trivial, (by omega)⟩

def F_X10_dropped_0 : List (Nat × Nat) := []
def A_X10_dropped_0 : List Nat := []
set_option maxRecDepth 100000 in
set_option maxHeartbeats 4000000 in
theorem T_X10_dropped_0 (d : Nat) {N : Nat} {g0 : List en_E} (hI0 : HI g0) : Ev (d + 1) 114 [.ref 0] (g0, N) (fun w h' => ∃ g', h' = (g', N) ∧ HI g' ∧ Fr F_X10_dropped_0 A_X10_dropped_0 g0 g' ∧ ∃ r : Int32, w = some (.int r) ∧ True) := by
  have hF0 : Fr F_X10_dropped_0 A_X10_dropped_0 g0 g0 := Fr.rf
  refine Ev.mk rfl rfl ⟨Nat.le_of_ble_eq_true rfl, Or.inr (q_rc hI0.1 kx_0 rfl)⟩ ?_
  show At _ none _ _ (0, [(0, .ref 0)], [], (_, _)) _
  refine At.enter rfl ?_
  refine r_aload_n rfl ?_
  obtain ⟨v3, hv3⟩ : ∃ v, gI g0 0 16 = v := ⟨_, rfl⟩
  refine q_getI (Sh.int hI0.1 kx_0 rfl) v3 hv3 ?_
  refine r_ireti ?_
  exact ⟨_, rfl, hI0, hF0, _, rfl, trivial⟩

def F_X10_fault_0 : List (Nat × Nat) := []
def A_X10_fault_0 : List Nat := []
set_option maxRecDepth 100000 in
set_option maxHeartbeats 4000000 in
theorem T_X10_fault_0 (d : Nat) {N : Nat} {g0 : List en_E} (hI0 : HI g0) : Ev (d + 1) 116 [.ref 0] (g0, N) (fun w h' => ∃ g', h' = (g', N) ∧ HI g' ∧ Fr F_X10_fault_0 A_X10_fault_0 g0 g' ∧ ∃ r : Int32, w = some (.int r) ∧ True) := by
  have hF0 : Fr F_X10_fault_0 A_X10_fault_0 g0 g0 := Fr.rf
  refine Ev.mk rfl rfl ⟨Nat.le_of_ble_eq_true rfl, Or.inr (q_rc hI0.1 kx_0 rfl)⟩ ?_
  show At _ none _ _ (0, [(0, .ref 0)], [], (_, _)) _
  refine At.enter rfl ?_
  refine r_aload_n rfl ?_
  refine q_getR (Sh.ref hI0.1 kx_0 rfl) ?_
  obtain ⟨v3, hv3⟩ : ∃ v, gI g0 176 2 = v := ⟨_, rfl⟩
  refine q_getI (Sh.int hI0.1 kx_176 rfl) v3 hv3 ?_
  refine r_ireti ?_
  exact ⟨_, rfl, hI0, hF0, _, rfl, trivial⟩

def F_X10_force_0 : List (Nat × Nat) := [(0, 14), (0, 17), (1, 9), (220, 2), (222, 2), (223, 5), (223, 10)]
def A_X10_force_0 : List Nat := [230]
set_option maxRecDepth 100000 in
set_option maxHeartbeats 4000000 in
theorem T_X10_force_0 (d : Nat) {N : Nat} {g0 : List en_E} (hI0 : HI g0) (a1 : Int32) : Ev (d + 3) 117 [.ref 0, .int a1] (g0, N) (fun w h' => ∃ g', h' = (g', N) ∧ HI g' ∧ Fr F_X10_force_0 A_X10_force_0 g0 g' ∧ ∃ r : Int32, w = some (.int r) ∧ True) := by
  have hF0 : Fr F_X10_force_0 A_X10_force_0 g0 g0 := Fr.rf
  refine Ev.mk rfl rfl ⟨Nat.le_of_ble_eq_true rfl, Or.inr (q_rc hI0.1 kx_0 rfl)⟩ ?_
  show At _ none _ _ (0, [(0, .ref 0), (1, .int a1)], [], (_, _)) _
  refine At.enter rfl ?_
  refine r_iload_n rfl ?_
  refine r_iconst (-1) rfl ?_
  refine r_ics 5 rfl (fun c87 => ?_) (fun c87 => ?_)
  · have c87_ : a1.toInt = (-1) := en_i_eq_t c87
    refine At.enter rfl ?_
    refine r_aload_n rfl ?_
    refine q_getR (Sh.ref hI0.1 kx_0 rfl) ?_
    obtain ⟨v88, hv88⟩ : ∃ v, gI g0 1 9 = v := ⟨_, rfl⟩
    refine q_getI (Sh.int hI0.1 kx_1 rfl) v88 hv88 ?_
    refine r_istore_n ([(2, .int v88), (0, .ref 0), (1, .int a1)]) rfl ?_
    refine r_aload_n rfl ?_
    refine q_getR (Sh.ref hI0.1 kx_0 rfl) ?_
    refine r_iload_n rfl ?_
    refine q_putI (Sh.int hI0.1 kx_1 rfl) rfl ?_
    have hI89 := HI.wI0 hI0 kx_1 rfl (p := 1) (b := 9) (v := a1) rfl
    have hF90 := Fr.wI (p := 1) (b := 9) (v := a1) hF0 rfl
    refine r_aload_n rfl ?_
    refine r_callV 49 rfl [.ref 0] [] (Nat.le_of_ble_eq_true rfl) rfl (T_X10_changed_0 _ hI89) ?_
    rintro _ _ ⟨g91, rfl, hI92, hF93, rfl⟩
    refine At.stn ?_
    have hF96 := Fr.tr hF90 hF93 rfl rfl
    refine At.enter rfl ?_
    refine r_aload_n rfl ?_
    refine r_iload_n rfl ?_
    refine q_inlV 54 rfl [.ref 0, .int v88] [] (Nat.le_of_ble_eq_true rfl) rfl ?_
    refine Ev.mk rfl rfl ⟨Nat.le_of_ble_eq_true rfl, Or.inr (q_rc hI92.1 kx_0 rfl)⟩ ?_
    show At _ none _ _ (0, [(0, .ref 0), (1, .int v88)], [], (_, _)) _
    refine At.enter rfl ?_
    refine r_aload_n rfl ?_
    refine r_iconst 0 rfl ?_
    refine q_putI (Sh.int hI92.1 kx_0 rfl) rfl ?_
    have hI97 := HI.wI0 hI92 kx_0 rfl (p := 0) (b := 17) (v := 0) rfl
    have hF98 := Fr.wI (p := 0) (b := 17) (v := 0) hF96 rfl
    refine r_iload_n rfl ?_
    refine q_ireti ?_
    refine At.enter rfl ?_
    refine r_ireti ?_
    exact ⟨_, rfl, hI97, hF98, _, rfl, trivial⟩
  · have c87_ : a1.toInt ≠ (-1) := en_i_eq_f c87
    refine At.enter rfl ?_
    refine r_iload_n rfl ?_
    refine r_iconst 0 rfl ?_
    refine r_aload_n rfl ?_
    refine q_getR (Sh.ref hI0.1 kx_0 rfl) ?_
    obtain ⟨v99, hv99⟩ : ∃ v, gI g0 1 6 = v := ⟨_, rfl⟩
    have rv99 := RgF.at hI0.2.1 (p := 1) (b := 6) rfl
    rw [hv99] at rv99
    dsimp only at rv99
    refine q_getI (Sh.int hI0.1 kx_1 rfl) v99 hv99 ?_
    refine r_iconst 1 rfl ?_
    refine q_isub (v99.toInt - 1) rfl (by omega) (fun v100 hv100 => ?_)
    refine q_inlS 19 rfl [.int a1, .int 0, .int v100] [] (Nat.le_of_ble_eq_true rfl) rfl ?_
    refine Ev.mk rfl rfl ⟨Nat.le_of_ble_eq_true rfl, Or.inl rfl⟩ ?_
    show At _ none _ _ (0, [(0, .int a1), (1, .int 0), (2, .int v100)], [], (_, _)) _
    refine At.enter rfl ?_
    refine r_iload_n rfl ?_
    refine r_iload_n rfl ?_
    refine r_ics 5 rfl (fun c101 => ?_) (fun c101 => ?_)
    · have c101_ : a1.toInt < 0 := en_i_lt_t c101
      refine At.enter rfl ?_
      refine r_iconst 0 rfl ?_
      refine Ar.fall 15 rfl ?_
      refine At.enter rfl ?_
      refine q_iretz (by decide) ?_
      refine At.enter rfl ?_
      refine r_iff 22 rfl (by decide) ?_
      refine At.enter rfl ?_
      refine r_aload_n rfl ?_
      refine r_bipush (-2) rfl ?_
      refine r_callV 28 rfl [.ref 0, .int (-2)] [] (Nat.le_of_ble_eq_true rfl) rfl (T_X10_refused_0 _ hI0 (-2) (by decide)) ?_
      rintro _ _ ⟨g102, rfl, hI103, hF104, v105, rfl, hr106⟩
      refine At.sti ?_
      have hF107 := Fr.tr hF0 hF104 rfl rfl
      have zv108 : ((-2) : Int32).toInt = (-2) := rfl
      refine At.enter rfl ?_
      refine r_ireti ?_
      exact ⟨_, rfl, hI103, hF107, _, rfl, trivial⟩
    · have c101_ : a1.toInt ≥ 0 := en_i_lt_f c101
      refine At.enter rfl ?_
      refine r_iload_n rfl ?_
      refine r_iload_n rfl ?_
      have bv110 := q_bnd a1
      have bv111 := q_bnd v100
      refine r_ics 10 rfl (fun c109 => ?_) (fun c109 => ?_)
      · have c109_ : a1.toInt > v100.toInt := en_i_gt_t c109
        refine At.enter rfl ?_
        refine r_iconst 0 rfl ?_
        refine Ar.fall 15 rfl ?_
        refine At.enter rfl ?_
        refine q_iretz (by decide) ?_
        refine At.enter rfl ?_
        refine r_iff 22 rfl (by decide) ?_
        refine At.enter rfl ?_
        refine r_aload_n rfl ?_
        refine r_bipush (-2) rfl ?_
        refine r_callV 28 rfl [.ref 0, .int (-2)] [] (Nat.le_of_ble_eq_true rfl) rfl (T_X10_refused_0 _ hI0 (-2) (by decide)) ?_
        rintro _ _ ⟨g112, rfl, hI113, hF114, v115, rfl, hr116⟩
        refine At.sti ?_
        have hF117 := Fr.tr hF0 hF114 rfl rfl
        have zv118 : ((-2) : Int32).toInt = (-2) := rfl
        refine At.enter rfl ?_
        refine r_ireti ?_
        exact ⟨_, rfl, hI113, hF117, _, rfl, trivial⟩
      · have c109_ : a1.toInt ≤ v100.toInt := en_i_gt_f c109
        refine At.enter rfl ?_
        refine r_iconst 1 rfl ?_
        refine r_goto ?_
        refine At.enter rfl ?_
        refine q_iretz (by decide) ?_
        refine At.enter rfl ?_
        refine r_ift (by decide) ?_
        refine At.enter rfl ?_
        refine r_aload_n rfl ?_
        refine q_getR (Sh.ref hI0.1 kx_0 rfl) ?_
        obtain ⟨v119, hv119⟩ : ∃ v, gI g0 1 9 = v := ⟨_, rfl⟩
        refine q_getI (Sh.int hI0.1 kx_1 rfl) v119 hv119 ?_
        refine r_istore_n ([(2, .int v119), (0, .ref 0), (1, .int a1)]) rfl ?_
        refine r_aload_n rfl ?_
        refine q_getR (Sh.ref hI0.1 kx_0 rfl) ?_
        refine r_iload_n rfl ?_
        refine q_putI (Sh.int hI0.1 kx_1 rfl) rfl ?_
        have hI120 := HI.wI0 hI0 kx_1 rfl (p := 1) (b := 9) (v := a1) rfl
        have hF121 := Fr.wI (p := 1) (b := 9) (v := a1) hF0 rfl
        refine r_aload_n rfl ?_
        refine r_callV 49 rfl [.ref 0] [] (Nat.le_of_ble_eq_true rfl) rfl (T_X10_changed_0 _ hI120) ?_
        rintro _ _ ⟨g122, rfl, hI123, hF124, rfl⟩
        refine At.stn ?_
        have hF127 := Fr.tr hF121 hF124 rfl rfl
        refine At.enter rfl ?_
        refine r_aload_n rfl ?_
        refine r_iload_n rfl ?_
        refine q_inlV 54 rfl [.ref 0, .int v119] [] (Nat.le_of_ble_eq_true rfl) rfl ?_
        refine Ev.mk rfl rfl ⟨Nat.le_of_ble_eq_true rfl, Or.inr (q_rc hI123.1 kx_0 rfl)⟩ ?_
        show At _ none _ _ (0, [(0, .ref 0), (1, .int v119)], [], (_, _)) _
        refine At.enter rfl ?_
        refine r_aload_n rfl ?_
        refine r_iconst 0 rfl ?_
        refine q_putI (Sh.int hI123.1 kx_0 rfl) rfl ?_
        have hI128 := HI.wI0 hI123 kx_0 rfl (p := 0) (b := 17) (v := 0) rfl
        have hF129 := Fr.wI (p := 0) (b := 17) (v := 0) hF127 rfl
        refine r_iload_n rfl ?_
        refine q_ireti ?_
        refine At.enter rfl ?_
        refine r_ireti ?_
        exact ⟨_, rfl, hI128, hF129, _, rfl, trivial⟩

def F_X10_way_0 : List (Nat × Nat) := []
def A_X10_way_0 : List Nat := []
set_option maxRecDepth 100000 in
set_option maxHeartbeats 4000000 in
theorem T_X10_way_0 (d : Nat) {N : Nat} {g0 : List en_E} (hI0 : HI g0) (a1 : Int32) (a2 : Int32) : Ev (d + 5) 118 [.ref 0, .int a1, .int a2] (g0, N) (fun w h' => ∃ g', h' = (g', N) ∧ HI g' ∧ Fr F_X10_way_0 A_X10_way_0 g0 g' ∧ ∃ r : Int32, w = some (.int r) ∧ True) := by
  have hF0 : Fr F_X10_way_0 A_X10_way_0 g0 g0 := Fr.rf
  refine Ev.mk rfl rfl ⟨Nat.le_of_ble_eq_true rfl, Or.inr (q_rc hI0.1 kx_0 rfl)⟩ ?_
  show At _ none _ _ (0, [(0, .ref 0), (1, .int a1), (2, .int a2)], [], (_, _)) _
  refine At.enter rfl ?_
  refine r_aload_n rfl ?_
  refine q_getR (Sh.ref hI0.1 kx_0 rfl) ?_
  refine r_iload_n rfl ?_
  refine q_inlV 8 rfl [.ref 1, .int a1] [] (Nat.le_of_ble_eq_true rfl) rfl ?_
  refine Ev.mk rfl rfl ⟨Nat.le_of_ble_eq_true rfl, Or.inr (q_rc hI0.1 kx_1 rfl)⟩ ?_
  show At _ none _ _ (0, [(0, .ref 1), (1, .int a1)], [], (_, _)) _
  refine At.enter rfl ?_
  refine r_iload_n rfl ?_
  refine r_ifs 4 rfl (fun c37 => ?_) (fun c37 => ?_)
  · have c37_ : a1.toInt < 0 := en_k_lt_t c37
    refine At.enter rfl ?_
    refine r_iconst 0 rfl ?_
    refine Ar.fall 17 rfl ?_
    refine At.enter rfl ?_
    refine q_iretz (by decide) ?_
    refine At.enter rfl ?_
    refine r_iff 11 rfl (by decide) ?_
    refine At.enter rfl ?_
    refine r_iconst (-1) rfl ?_
    refine r_ireti ?_
    exact ⟨_, rfl, hI0, hF0, _, rfl, trivial⟩
  · have c37_ : a1.toInt ≥ 0 := en_k_lt_f c37
    refine At.enter rfl ?_
    refine r_iload_n rfl ?_
    refine r_aload_n rfl ?_
    obtain ⟨v38, hv38⟩ : ∃ v, gI g0 1 4 = v := ⟨_, rfl⟩
    have rv38 := RgF.at hI0.2.1 (p := 1) (b := 4) rfl
    rw [hv38] at rv38
    dsimp only at rv38
    refine q_getI (Sh.int hI0.1 kx_1 rfl) v38 hv38 ?_
    have bv40 := q_bnd a1
    have bv41 := q_bnd v38
    refine r_ics 12 rfl (fun c39 => ?_) (fun c39 => ?_)
    · have c39_ : a1.toInt ≥ v38.toInt := en_i_ge_t c39
      refine At.enter rfl ?_
      refine r_iconst 0 rfl ?_
      refine Ar.fall 17 rfl ?_
      refine At.enter rfl ?_
      refine q_iretz (by decide) ?_
      refine At.enter rfl ?_
      refine r_iff 11 rfl (by decide) ?_
      refine At.enter rfl ?_
      refine r_iconst (-1) rfl ?_
      refine r_ireti ?_
      exact ⟨_, rfl, hI0, hF0, _, rfl, trivial⟩
    · have c39_ : a1.toInt < v38.toInt := en_i_ge_f c39
      refine At.enter rfl ?_
      refine r_iconst 1 rfl ?_
      refine r_goto ?_
      refine At.enter rfl ?_
      refine q_iretz (by decide) ?_
      refine At.enter rfl ?_
      refine r_ift (by decide) ?_
      refine At.enter rfl ?_
      refine r_iload_n rfl ?_
      refine r_iconst (-1) rfl ?_
      refine r_ics 18 rfl (fun c42 => ?_) (fun c42 => ?_)
      · have c42_ : a2.toInt ≠ (-1) := en_i_ne_t c42
        refine At.enter rfl ?_
        refine r_aload_n rfl ?_
        refine q_getR (Sh.ref hI0.1 kx_0 rfl) ?_
        refine r_iload_n rfl ?_
        refine r_iload_n rfl ?_
        refine r_callV 38 rfl [.ref 184, .int a1, .int a2] [] (Nat.le_of_ble_eq_true rfl) rfl (T_X9_standOf_184 _ hI0 a1 a2) ?_
        rintro _ _ ⟨g43, rfl, hI44, hF45, v46, rfl, hr47⟩
        refine At.sti ?_
        have hF48 := Fr.tr hF0 hF45 rfl rfl
        refine At.enter rfl ?_
        refine r_ireti ?_
        exact ⟨_, rfl, hI44, hF48, _, rfl, trivial⟩
      · have c42_ : a2.toInt = (-1) := en_i_ne_f c42
        refine At.enter rfl ?_
        refine r_aload_n rfl ?_
        refine q_getR (Sh.ref hI0.1 kx_0 rfl) ?_
        refine r_iload_n rfl ?_
        refine r_callV 26 rfl [.ref 1, .int a1] [] (Nat.le_of_ble_eq_true rfl) rfl (T_X0_handsOf_1 _ hI0 a1) ?_
        rintro _ _ ⟨g49, rfl, hI50, hF51, v52, rfl, hr53⟩
        refine At.sti ?_
        have hF54 := Fr.tr hF0 hF51 rfl rfl
        refine At.enter rfl ?_
        refine r_goto ?_
        refine At.enter rfl ?_
        refine r_ireti ?_
        exact ⟨_, rfl, hI50, hF54, _, rfl, trivial⟩

def F_X10_enter_0 : List (Nat × Nat) := []
def A_X10_enter_0 : List Nat := []
set_option maxRecDepth 100000 in
set_option maxHeartbeats 4000000 in
theorem T_X10_enter_0 (d : Nat) {N : Nat} {g0 : List en_E} (hI0 : HI g0) (a1 : Int32) (a2 : Int32) : Ev (d + 4) 119 [.ref 0, .int a1, .int a2] (g0, N) (fun w h' => ∃ g', h' = (g', N) ∧ HI g' ∧ Fr F_X10_enter_0 A_X10_enter_0 g0 g' ∧ ∃ r : Int32, w = some (.int r) ∧ True) := by
  have hF0 : Fr F_X10_enter_0 A_X10_enter_0 g0 g0 := Fr.rf
  refine Ev.mk rfl rfl ⟨Nat.le_of_ble_eq_true rfl, Or.inr (q_rc hI0.1 kx_0 rfl)⟩ ?_
  show At _ none _ _ (0, [(0, .ref 0), (1, .int a1), (2, .int a2)], [], (_, _)) _
  refine At.enter rfl ?_
  refine r_aload_n rfl ?_
  refine q_getR (Sh.ref hI0.1 kx_0 rfl) ?_
  refine r_iload_n rfl ?_
  refine q_inlV 8 rfl [.ref 1, .int a1] [] (Nat.le_of_ble_eq_true rfl) rfl ?_
  refine Ev.mk rfl rfl ⟨Nat.le_of_ble_eq_true rfl, Or.inr (q_rc hI0.1 kx_1 rfl)⟩ ?_
  show At _ none _ _ (0, [(0, .ref 1), (1, .int a1)], [], (_, _)) _
  refine At.enter rfl ?_
  refine r_iload_n rfl ?_
  refine r_ifs 4 rfl (fun c29 => ?_) (fun c29 => ?_)
  · have c29_ : a1.toInt < 0 := en_k_lt_t c29
    refine At.enter rfl ?_
    refine r_iconst 0 rfl ?_
    refine Ar.fall 17 rfl ?_
    refine At.enter rfl ?_
    refine q_iretz (by decide) ?_
    refine At.enter rfl ?_
    refine r_ift (by decide) ?_
    refine At.enter rfl ?_
    refine r_iconst (-1) rfl ?_
    refine Ar.fall 38 rfl ?_
    refine At.enter rfl ?_
    refine r_ireti ?_
    exact ⟨_, rfl, hI0, hF0, _, rfl, trivial⟩
  · have c29_ : a1.toInt ≥ 0 := en_k_lt_f c29
    refine At.enter rfl ?_
    refine r_iload_n rfl ?_
    refine r_aload_n rfl ?_
    obtain ⟨v30, hv30⟩ : ∃ v, gI g0 1 0 = v := ⟨_, rfl⟩
    have rv30 := RgF.at hI0.2.1 (p := 1) (b := 0) rfl
    rw [hv30] at rv30
    dsimp only at rv30
    refine q_getI (Sh.int hI0.1 kx_1 rfl) v30 hv30 ?_
    have bv32 := q_bnd a1
    have bv33 := q_bnd v30
    refine r_ics 12 rfl (fun c31 => ?_) (fun c31 => ?_)
    · have c31_ : a1.toInt ≥ v30.toInt := en_i_ge_t c31
      refine At.enter rfl ?_
      refine r_iconst 0 rfl ?_
      refine Ar.fall 17 rfl ?_
      refine At.enter rfl ?_
      refine q_iretz (by decide) ?_
      refine At.enter rfl ?_
      refine r_ift (by decide) ?_
      refine At.enter rfl ?_
      refine r_iconst (-1) rfl ?_
      refine Ar.fall 38 rfl ?_
      refine At.enter rfl ?_
      refine r_ireti ?_
      exact ⟨_, rfl, hI0, hF0, _, rfl, trivial⟩
    · have c31_ : a1.toInt < v30.toInt := en_i_ge_f c31
      refine At.enter rfl ?_
      refine r_iconst 1 rfl ?_
      refine r_goto ?_
      refine At.enter rfl ?_
      refine q_iretz (by decide) ?_
      refine At.enter rfl ?_
      refine r_iff 11 rfl (by decide) ?_
      refine At.enter rfl ?_
      refine r_iload_n rfl ?_
      refine r_aload_n rfl ?_
      refine q_getR (Sh.ref hI0.1 kx_0 rfl) ?_
      refine q_getI (Sh.int hI0.1 kx_1 rfl) v30 hv30 ?_
      refine q_inlS 22 rfl [.int a2, .int v30] [] (Nat.le_of_ble_eq_true rfl) rfl ?_
      refine Ev.mk rfl rfl ⟨Nat.le_of_ble_eq_true rfl, Or.inl rfl⟩ ?_
      show At _ none _ _ (0, [(0, .int a2), (1, .int v30)], [], (_, _)) _
      refine At.enter rfl ?_
      refine r_iload_n rfl ?_
      refine r_ifs 4 rfl (fun c34 => ?_) (fun c34 => ?_)
      · have c34_ : a2.toInt < 0 := en_k_lt_t c34
        refine At.enter rfl ?_
        refine r_iconst 0 rfl ?_
        refine Ar.fall 15 rfl ?_
        refine At.enter rfl ?_
        refine q_iretz (by decide) ?_
        refine At.enter rfl ?_
        refine r_ift (by decide) ?_
        refine At.enter rfl ?_
        refine r_iconst (-1) rfl ?_
        refine Ar.fall 38 rfl ?_
        refine At.enter rfl ?_
        refine r_ireti ?_
        exact ⟨_, rfl, hI0, hF0, _, rfl, trivial⟩
      · have c34_ : a2.toInt ≥ 0 := en_k_lt_f c34
        refine At.enter rfl ?_
        refine r_iload_n rfl ?_
        refine r_iload_n rfl ?_
        refine q_ishrO (fun v35 hv35 => ?_)
        refine r_ifs 10 rfl (fun c36 => ?_) (fun c36 => ?_)
        · have c36_ : v35.toInt ≠ 0 := en_k_ne_t c36
          refine At.enter rfl ?_
          refine r_iconst 0 rfl ?_
          refine Ar.fall 15 rfl ?_
          refine At.enter rfl ?_
          refine q_iretz (by decide) ?_
          refine At.enter rfl ?_
          refine r_ift (by decide) ?_
          refine At.enter rfl ?_
          refine r_iconst (-1) rfl ?_
          refine Ar.fall 38 rfl ?_
          refine At.enter rfl ?_
          refine r_ireti ?_
          exact ⟨_, rfl, hI0, hF0, _, rfl, trivial⟩
        · have c36_ : v35.toInt = 0 := en_k_ne_f c36
          refine At.enter rfl ?_
          refine r_iconst 1 rfl ?_
          refine r_goto ?_
          refine At.enter rfl ?_
          refine q_iretz (by decide) ?_
          refine At.enter rfl ?_
          refine r_iff 25 rfl (by decide) ?_
          refine At.enter rfl ?_
          refine r_aload_n rfl ?_
          refine q_getR (Sh.ref hI0.1 kx_0 rfl) ?_
          refine r_iload_n rfl ?_
          refine r_iload_n rfl ?_
          refine r_callV 34 rfl [.ref 184, .int a1, .int a2] [] (Nat.le_of_ble_eq_true rfl) rfl (T_X9_comersTo_184 _ hI0 a1 a2) ?_
          rintro _ _ ⟨g37, rfl, hI38, hF39, v40, rfl, hr41⟩
          refine At.sti ?_
          have hF42 := Fr.tr hF0 hF39 rfl rfl
          refine At.enter rfl ?_
          refine r_goto ?_
          refine At.enter rfl ?_
          refine r_ireti ?_
          exact ⟨_, rfl, hI38, hF42, _, rfl, trivial⟩

def F_X10_day_0 : List (Nat × Nat) := [(0, 14), (185, 3), (188, 16), (188, 18)]
def A_X10_day_0 : List Nat := [189, 190, 191, 192, 193, 194, 195, 196, 197, 198, 199, 200, 202, 203]
set_option maxRecDepth 100000 in
set_option maxHeartbeats 4000000 in
theorem T_X10_day_0 (d : Nat) {N : Nat} {g0 : List en_E} (hI0 : HI g0) (a1 : Int32) (a2 : Int32) : Ev (d + 7) 120 [.ref 0, .int a1, .int a2] (g0, N) (fun w h' => ∃ g', h' = (g', N) ∧ HI g' ∧ Fr F_X10_day_0 A_X10_day_0 g0 g' ∧ ∃ r : Int32, w = some (.int r) ∧ True) := by
  have hF0 : Fr F_X10_day_0 A_X10_day_0 g0 g0 := Fr.rf
  refine Ev.mk rfl rfl ⟨Nat.le_of_ble_eq_true rfl, Or.inr (q_rc hI0.1 kx_0 rfl)⟩ ?_
  show At _ none _ _ (0, [(0, .ref 0), (1, .int a1), (2, .int a2)], [], (_, _)) _
  refine At.enter rfl ?_
  refine r_aload_n rfl ?_
  refine q_getR (Sh.ref hI0.1 kx_0 rfl) ?_
  refine r_iload_n rfl ?_
  refine q_inlV 8 rfl [.ref 1, .int a1] [] (Nat.le_of_ble_eq_true rfl) rfl ?_
  refine Ev.mk rfl rfl ⟨Nat.le_of_ble_eq_true rfl, Or.inr (q_rc hI0.1 kx_1 rfl)⟩ ?_
  show At _ none _ _ (0, [(0, .ref 1), (1, .int a1)], [], (_, _)) _
  refine At.enter rfl ?_
  refine r_iload_n rfl ?_
  refine r_ifs 4 rfl (fun c83 => ?_) (fun c83 => ?_)
  · have c83_ : a1.toInt < 0 := en_k_lt_t c83
    refine At.enter rfl ?_
    refine r_iconst 0 rfl ?_
    refine Ar.fall 17 rfl ?_
    refine At.enter rfl ?_
    refine q_iretz (by decide) ?_
    refine At.enter rfl ?_
    refine r_iff 11 rfl (by decide) ?_
    refine At.enter rfl ?_
    refine r_iconst (-1) rfl ?_
    refine r_ireti ?_
    exact ⟨_, rfl, hI0, hF0, _, rfl, trivial⟩
  · have c83_ : a1.toInt ≥ 0 := en_k_lt_f c83
    refine At.enter rfl ?_
    refine r_iload_n rfl ?_
    refine r_aload_n rfl ?_
    obtain ⟨v84, hv84⟩ : ∃ v, gI g0 1 4 = v := ⟨_, rfl⟩
    have rv84 := RgF.at hI0.2.1 (p := 1) (b := 4) rfl
    rw [hv84] at rv84
    dsimp only at rv84
    refine q_getI (Sh.int hI0.1 kx_1 rfl) v84 hv84 ?_
    have bv86 := q_bnd a1
    have bv87 := q_bnd v84
    refine r_ics 12 rfl (fun c85 => ?_) (fun c85 => ?_)
    · have c85_ : a1.toInt ≥ v84.toInt := en_i_ge_t c85
      refine At.enter rfl ?_
      refine r_iconst 0 rfl ?_
      refine Ar.fall 17 rfl ?_
      refine At.enter rfl ?_
      refine q_iretz (by decide) ?_
      refine At.enter rfl ?_
      refine r_iff 11 rfl (by decide) ?_
      refine At.enter rfl ?_
      refine r_iconst (-1) rfl ?_
      refine r_ireti ?_
      exact ⟨_, rfl, hI0, hF0, _, rfl, trivial⟩
    · have c85_ : a1.toInt < v84.toInt := en_i_ge_f c85
      refine At.enter rfl ?_
      refine r_iconst 1 rfl ?_
      refine r_goto ?_
      refine At.enter rfl ?_
      refine q_iretz (by decide) ?_
      refine At.enter rfl ?_
      refine r_ift (by decide) ?_
      refine At.enter rfl ?_
      refine r_aload_n rfl ?_
      refine q_inlV 17 rfl [.ref 0] [] (Nat.le_of_ble_eq_true rfl) rfl ?_
      refine Ev.mk rfl rfl ⟨Nat.le_of_ble_eq_true rfl, Or.inr (q_rc hI0.1 kx_0 rfl)⟩ ?_
      show At _ none _ _ (0, [(0, .ref 0)], [], (_, _)) _
      refine At.enter rfl ?_
      refine r_aload_n rfl ?_
      obtain ⟨v88, hv88⟩ : ∃ v, gI g0 0 14 = v := ⟨_, rfl⟩
      refine q_getI (Sh.int hI0.1 kx_0 rfl) v88 hv88 ?_
      refine r_ifs 7 rfl (fun c89 => ?_) (fun c89 => ?_)
      · have c89_ : v88.toInt ≠ 0 := en_k_ne_t c89
        refine At.enter rfl ?_
        refine r_aload_n rfl ?_
        refine q_getR (Sh.ref hI0.1 kx_0 rfl) ?_
        refine q_aret ?_
        refine At.enter rfl ?_
        refine r_astore_n ([(3, .ref 188), (0, .ref 0), (1, .int a1), (2, .int a2)]) rfl ?_
        refine r_aload_n rfl ?_
        refine q_getR (Sh.ref hI0.1 kx_188 rfl) ?_
        refine r_iload_n rfl ?_
        obtain ⟨v90, hv90⟩ : ∃ v, eA g0 196 a1.toInt = v := ⟨_, rfl⟩
        refine q_iald (Sh.arr hI0.1 ka_196) a1.toInt rfl (by omega) v90 hv90 ?_
        refine r_istore ([(4, .int v90), (3, .ref 188), (0, .ref 0), (1, .int a1), (2, .int a2)]) rfl ?_
        refine r_iload_n rfl ?_
        by_cases c91_0 : a2.toInt = 0
        · refine r_tsw 56 (by rw [c91_0]; rfl) ?_
          refine At.enter rfl ?_
          refine r_iload rfl ?_
          refine r_ireti ?_
          exact ⟨_, rfl, hI0, hF0, _, rfl, trivial⟩
        by_cases c91_1 : a2.toInt = 1
        · refine r_tsw 59 (by rw [c91_1]; rfl) ?_
          refine At.enter rfl ?_
          refine r_iload rfl ?_
          refine r_iconst (-1) rfl ?_
          refine r_ics 65 rfl (fun c92 => ?_) (fun c92 => ?_)
          · have c92_ : v90.toInt ≠ (-1) := en_i_ne_t c92
            refine At.enter rfl ?_
            refine r_iconst 0 rfl ?_
            refine r_iload rfl ?_
            refine r_aload_n rfl ?_
            refine q_getR (Sh.ref hI0.1 kx_0 rfl) ?_
            obtain ⟨v93, hv93⟩ : ∃ v, gI g0 1 10 = v := ⟨_, rfl⟩
            refine q_getI (Sh.int hI0.1 kx_1 rfl) v93 hv93 ?_
            refine q_isubO (fun v94 _ => ?_)
            refine q_mmax rfl (Nat.le_of_ble_eq_true rfl) (fun v95 hv95 => ?_)
            have zv96 : (0 : Int32).toInt = 0 := rfl
            refine Ar.fall 83 rfl ?_
            refine At.enter rfl ?_
            refine r_ireti ?_
            exact ⟨_, rfl, hI0, hF0, _, rfl, trivial⟩
          · have c92_ : v90.toInt = (-1) := en_i_ne_f c92
            refine At.enter rfl ?_
            refine r_iconst (-1) rfl ?_
            refine r_goto ?_
            refine At.enter rfl ?_
            refine r_ireti ?_
            exact ⟨_, rfl, hI0, hF0, _, rfl, trivial⟩
        by_cases c91_2 : a2.toInt = 2
        · refine r_tsw 84 (by rw [c91_2]; rfl) ?_
          refine At.enter rfl ?_
          refine r_aload_n rfl ?_
          refine q_getR (Sh.ref hI0.1 kx_188 rfl) ?_
          refine r_iload_n rfl ?_
          obtain ⟨v97, hv97⟩ : ∃ v, eA g0 195 a1.toInt = v := ⟨_, rfl⟩
          refine q_iald (Sh.arr hI0.1 ka_195) a1.toInt rfl (by omega) v97 hv97 ?_
          refine r_ireti ?_
          exact ⟨_, rfl, hI0, hF0, _, rfl, trivial⟩
        by_cases c91_3 : a2.toInt = 3
        · refine r_tsw 91 (by rw [c91_3]; rfl) ?_
          refine At.enter rfl ?_
          refine r_aload_n rfl ?_
          refine q_getR (Sh.ref hI0.1 kx_188 rfl) ?_
          refine r_iload_n rfl ?_
          obtain ⟨v98, hv98⟩ : ∃ v, eA g0 197 a1.toInt = v := ⟨_, rfl⟩
          refine q_iald (Sh.arr hI0.1 ka_197) a1.toInt rfl (by omega) v98 hv98 ?_
          refine r_ireti ?_
          exact ⟨_, rfl, hI0, hF0, _, rfl, trivial⟩
        have c99 : a2.toInt < 0 ∨ 3 < a2.toInt := by omega
        refine r_tsw 98 (by unfold en_sw; rw [if_pos c99]; rfl) ?_
        refine At.enter rfl ?_
        refine r_iconst (-1) rfl ?_
        refine r_ireti ?_
        exact ⟨_, rfl, hI0, hF0, _, rfl, trivial⟩
      · have c89_ : v88.toInt = 0 := en_k_ne_f c89
        refine At.enter rfl ?_
        refine r_aload_n rfl ?_
        refine q_getR (Sh.ref hI0.1 kx_0 rfl) ?_
        refine r_iconst 0 rfl ?_
        refine r_callV 15 rfl [.ref 188, .int 0] [] (Nat.le_of_ble_eq_true rfl) rfl (T_X1_layOut_188 _ hI0 0) ?_
        rintro _ _ ⟨g100, rfl, hI101, hF102, rfl⟩
        refine At.stn ?_
        have hF105 := Fr.tr hF0 hF102 rfl rfl
        refine At.enter rfl ?_
        refine r_aload_n rfl ?_
        refine q_getR (Sh.ref hI101.1 kx_0 rfl) ?_
        refine r_callV 22 rfl [.ref 188] [] (Nat.le_of_ble_eq_true rfl) rfl (T_X1_runWhole_188 _ hI101) ?_
        rintro _ _ ⟨g106, rfl, hI107, hF108, rfl⟩
        refine At.stn ?_
        have hF111 := Fr.tr hF105 hF108 rfl rfl
        refine At.enter rfl ?_
        refine r_aload_n rfl ?_
        refine r_iconst 1 rfl ?_
        refine q_putI (Sh.int hI107.1 kx_0 rfl) rfl ?_
        have hI112 := HI.wI0 hI107 kx_0 rfl (p := 0) (b := 14) (v := 1) rfl
        have hF113 := Fr.wI (p := 0) (b := 14) (v := 1) hF111 rfl
        refine Ar.fall 27 rfl ?_
        refine At.enter rfl ?_
        refine r_aload_n rfl ?_
        refine q_getR (Sh.ref hI112.1 kx_0 rfl) ?_
        refine q_aret ?_
        refine At.enter rfl ?_
        refine r_astore_n ([(3, .ref 188), (0, .ref 0), (1, .int a1), (2, .int a2)]) rfl ?_
        refine r_aload_n rfl ?_
        refine q_getR (Sh.ref hI112.1 kx_188 rfl) ?_
        refine r_iload_n rfl ?_
        obtain ⟨v114, hv114⟩ : ∃ v, eA g106 196 a1.toInt = v := ⟨_, rfl⟩
        refine q_iald (Sh.arr hI112.1 ka_196) a1.toInt rfl (by omega) v114 ((eA_c (gA_sI)).trans hv114) ?_
        refine r_istore ([(4, .int v114), (3, .ref 188), (0, .ref 0), (1, .int a1), (2, .int a2)]) rfl ?_
        refine r_iload_n rfl ?_
        by_cases c115_0 : a2.toInt = 0
        · refine r_tsw 56 (by rw [c115_0]; rfl) ?_
          refine At.enter rfl ?_
          refine r_iload rfl ?_
          refine r_ireti ?_
          exact ⟨_, rfl, hI112, hF113, _, rfl, trivial⟩
        by_cases c115_1 : a2.toInt = 1
        · refine r_tsw 59 (by rw [c115_1]; rfl) ?_
          refine At.enter rfl ?_
          refine r_iload rfl ?_
          refine r_iconst (-1) rfl ?_
          refine r_ics 65 rfl (fun c116 => ?_) (fun c116 => ?_)
          · have c116_ : v114.toInt ≠ (-1) := en_i_ne_t c116
            refine At.enter rfl ?_
            refine r_iconst 0 rfl ?_
            refine r_iload rfl ?_
            refine r_aload_n rfl ?_
            refine q_getR (Sh.ref hI112.1 kx_0 rfl) ?_
            obtain ⟨v117, hv117⟩ : ∃ v, gI g0 1 10 = v := ⟨_, rfl⟩
            refine q_getI (Sh.int hI112.1 kx_1 rfl) v117 (((gI_sI_ne (by decide)).trans ((hF108.1 1 10 (by decide)).trans (hF102.1 1 10 (by decide)))).trans hv117) ?_
            refine q_isubO (fun v118 _ => ?_)
            refine q_mmax rfl (Nat.le_of_ble_eq_true rfl) (fun v119 hv119 => ?_)
            have zv120 : (0 : Int32).toInt = 0 := rfl
            refine Ar.fall 83 rfl ?_
            refine At.enter rfl ?_
            refine r_ireti ?_
            exact ⟨_, rfl, hI112, hF113, _, rfl, trivial⟩
          · have c116_ : v114.toInt = (-1) := en_i_ne_f c116
            refine At.enter rfl ?_
            refine r_iconst (-1) rfl ?_
            refine r_goto ?_
            refine At.enter rfl ?_
            refine r_ireti ?_
            exact ⟨_, rfl, hI112, hF113, _, rfl, trivial⟩
        by_cases c115_2 : a2.toInt = 2
        · refine r_tsw 84 (by rw [c115_2]; rfl) ?_
          refine At.enter rfl ?_
          refine r_aload_n rfl ?_
          refine q_getR (Sh.ref hI112.1 kx_188 rfl) ?_
          refine r_iload_n rfl ?_
          obtain ⟨v121, hv121⟩ : ∃ v, eA g106 195 a1.toInt = v := ⟨_, rfl⟩
          refine q_iald (Sh.arr hI112.1 ka_195) a1.toInt rfl (by omega) v121 ((eA_c (gA_sI)).trans hv121) ?_
          refine r_ireti ?_
          exact ⟨_, rfl, hI112, hF113, _, rfl, trivial⟩
        by_cases c115_3 : a2.toInt = 3
        · refine r_tsw 91 (by rw [c115_3]; rfl) ?_
          refine At.enter rfl ?_
          refine r_aload_n rfl ?_
          refine q_getR (Sh.ref hI112.1 kx_188 rfl) ?_
          refine r_iload_n rfl ?_
          obtain ⟨v122, hv122⟩ : ∃ v, eA g106 197 a1.toInt = v := ⟨_, rfl⟩
          refine q_iald (Sh.arr hI112.1 ka_197) a1.toInt rfl (by omega) v122 ((eA_c (gA_sI)).trans hv122) ?_
          refine r_ireti ?_
          exact ⟨_, rfl, hI112, hF113, _, rfl, trivial⟩
        have c123 : a2.toInt < 0 ∨ 3 < a2.toInt := by omega
        refine r_tsw 98 (by unfold en_sw; rw [if_pos c123]; rfl) ?_
        refine At.enter rfl ?_
        refine r_iconst (-1) rfl ?_
        refine r_ireti ?_
        exact ⟨_, rfl, hI112, hF113, _, rfl, trivial⟩

def F_X10_where_0 : List (Nat × Nat) := [(0, 14), (185, 3), (188, 16), (188, 18)]
def A_X10_where_0 : List Nat := [189, 190, 191, 192, 193, 194, 195, 196, 197, 198, 199, 200, 202, 203]
set_option maxRecDepth 100000 in
set_option maxHeartbeats 4000000 in
theorem T_X10_where_0 (d : Nat) {N : Nat} {g0 : List en_E} (hI0 : HI g0) (a1 : Int32) (a2 : Int32) : Ev (d + 7) 121 [.ref 0, .int a1, .int a2] (g0, N) (fun w h' => ∃ g', h' = (g', N) ∧ HI g' ∧ Fr F_X10_where_0 A_X10_where_0 g0 g' ∧ ∃ r : Int32, w = some (.int r) ∧ True) := by
  have hF0 : Fr F_X10_where_0 A_X10_where_0 g0 g0 := Fr.rf
  refine Ev.mk rfl rfl ⟨Nat.le_of_ble_eq_true rfl, Or.inr (q_rc hI0.1 kx_0 rfl)⟩ ?_
  show At _ none _ _ (0, [(0, .ref 0), (1, .int a1), (2, .int a2)], [], (_, _)) _
  refine At.enter rfl ?_
  refine r_aload_n rfl ?_
  refine q_getR (Sh.ref hI0.1 kx_0 rfl) ?_
  refine r_iload_n rfl ?_
  refine q_inlV 8 rfl [.ref 1, .int a1] [] (Nat.le_of_ble_eq_true rfl) rfl ?_
  refine Ev.mk rfl rfl ⟨Nat.le_of_ble_eq_true rfl, Or.inr (q_rc hI0.1 kx_1 rfl)⟩ ?_
  show At _ none _ _ (0, [(0, .ref 1), (1, .int a1)], [], (_, _)) _
  refine At.enter rfl ?_
  refine r_iload_n rfl ?_
  refine r_ifs 4 rfl (fun c59 => ?_) (fun c59 => ?_)
  · have c59_ : a1.toInt < 0 := en_k_lt_t c59
    refine At.enter rfl ?_
    refine r_iconst 0 rfl ?_
    refine Ar.fall 17 rfl ?_
    refine At.enter rfl ?_
    refine q_iretz (by decide) ?_
    refine At.enter rfl ?_
    refine r_ift (by decide) ?_
    refine At.enter rfl ?_
    refine r_iconst (-1) rfl ?_
    refine Ar.fall 34 rfl ?_
    refine At.enter rfl ?_
    refine r_ireti ?_
    exact ⟨_, rfl, hI0, hF0, _, rfl, trivial⟩
  · have c59_ : a1.toInt ≥ 0 := en_k_lt_f c59
    refine At.enter rfl ?_
    refine r_iload_n rfl ?_
    refine r_aload_n rfl ?_
    obtain ⟨v60, hv60⟩ : ∃ v, gI g0 1 4 = v := ⟨_, rfl⟩
    have rv60 := RgF.at hI0.2.1 (p := 1) (b := 4) rfl
    rw [hv60] at rv60
    dsimp only at rv60
    refine q_getI (Sh.int hI0.1 kx_1 rfl) v60 hv60 ?_
    have bv62 := q_bnd a1
    have bv63 := q_bnd v60
    refine r_ics 12 rfl (fun c61 => ?_) (fun c61 => ?_)
    · have c61_ : a1.toInt ≥ v60.toInt := en_i_ge_t c61
      refine At.enter rfl ?_
      refine r_iconst 0 rfl ?_
      refine Ar.fall 17 rfl ?_
      refine At.enter rfl ?_
      refine q_iretz (by decide) ?_
      refine At.enter rfl ?_
      refine r_ift (by decide) ?_
      refine At.enter rfl ?_
      refine r_iconst (-1) rfl ?_
      refine Ar.fall 34 rfl ?_
      refine At.enter rfl ?_
      refine r_ireti ?_
      exact ⟨_, rfl, hI0, hF0, _, rfl, trivial⟩
    · have c61_ : a1.toInt < v60.toInt := en_i_ge_f c61
      refine At.enter rfl ?_
      refine r_iconst 1 rfl ?_
      refine r_goto ?_
      refine At.enter rfl ?_
      refine q_iretz (by decide) ?_
      refine At.enter rfl ?_
      refine r_iff 11 rfl (by decide) ?_
      refine At.enter rfl ?_
      refine r_iload_n rfl ?_
      refine r_iconst 0 rfl ?_
      refine r_bipush 99 rfl ?_
      refine q_inlS 18 rfl [.int a2, .int 0, .int 99] [] (Nat.le_of_ble_eq_true rfl) rfl ?_
      refine Ev.mk rfl rfl ⟨Nat.le_of_ble_eq_true rfl, Or.inl rfl⟩ ?_
      show At _ none _ _ (0, [(0, .int a2), (1, .int 0), (2, .int 99)], [], (_, _)) _
      refine At.enter rfl ?_
      refine r_iload_n rfl ?_
      refine r_iload_n rfl ?_
      refine r_ics 5 rfl (fun c64 => ?_) (fun c64 => ?_)
      · have c64_ : a2.toInt < 0 := en_i_lt_t c64
        refine At.enter rfl ?_
        refine r_iconst 0 rfl ?_
        refine Ar.fall 15 rfl ?_
        refine At.enter rfl ?_
        refine q_iretz (by decide) ?_
        refine At.enter rfl ?_
        refine r_ift (by decide) ?_
        refine At.enter rfl ?_
        refine r_iconst (-1) rfl ?_
        refine Ar.fall 34 rfl ?_
        refine At.enter rfl ?_
        refine r_ireti ?_
        exact ⟨_, rfl, hI0, hF0, _, rfl, trivial⟩
      · have c64_ : a2.toInt ≥ 0 := en_i_lt_f c64
        refine At.enter rfl ?_
        refine r_iload_n rfl ?_
        refine r_iload_n rfl ?_
        refine r_ics 10 rfl (fun c65 => ?_) (fun c65 => ?_)
        · have c65_ : a2.toInt > 99 := en_i_gt_t c65
          refine At.enter rfl ?_
          refine r_iconst 0 rfl ?_
          refine Ar.fall 15 rfl ?_
          refine At.enter rfl ?_
          refine q_iretz (by decide) ?_
          refine At.enter rfl ?_
          refine r_ift (by decide) ?_
          refine At.enter rfl ?_
          refine r_iconst (-1) rfl ?_
          refine Ar.fall 34 rfl ?_
          refine At.enter rfl ?_
          refine r_ireti ?_
          exact ⟨_, rfl, hI0, hF0, _, rfl, trivial⟩
        · have c65_ : a2.toInt ≤ 99 := en_i_gt_f c65
          refine At.enter rfl ?_
          refine r_iconst 1 rfl ?_
          refine r_goto ?_
          refine At.enter rfl ?_
          refine q_iretz (by decide) ?_
          refine At.enter rfl ?_
          refine r_iff 21 rfl (by decide) ?_
          refine At.enter rfl ?_
          refine r_aload_n rfl ?_
          refine q_inlV 25 rfl [.ref 0] [] (Nat.le_of_ble_eq_true rfl) rfl ?_
          refine Ev.mk rfl rfl ⟨Nat.le_of_ble_eq_true rfl, Or.inr (q_rc hI0.1 kx_0 rfl)⟩ ?_
          show At _ none _ _ (0, [(0, .ref 0)], [], (_, _)) _
          refine At.enter rfl ?_
          refine r_aload_n rfl ?_
          obtain ⟨v66, hv66⟩ : ∃ v, gI g0 0 14 = v := ⟨_, rfl⟩
          refine q_getI (Sh.int hI0.1 kx_0 rfl) v66 hv66 ?_
          refine r_ifs 7 rfl (fun c67 => ?_) (fun c67 => ?_)
          · have c67_ : v66.toInt ≠ 0 := en_k_ne_t c67
            refine At.enter rfl ?_
            refine r_aload_n rfl ?_
            refine q_getR (Sh.ref hI0.1 kx_0 rfl) ?_
            refine q_aret ?_
            refine At.enter rfl ?_
            refine r_iload_n rfl ?_
            refine r_iload_n rfl ?_
            refine q_inlV 30 rfl [.ref 188, .int a1, .int a2] [] (Nat.le_of_ble_eq_true rfl) rfl ?_
            refine Ev.mk rfl rfl ⟨Nat.le_of_ble_eq_true rfl, Or.inr (q_rc hI0.1 kx_188 rfl)⟩ ?_
            show At _ none _ _ (0, [(0, .ref 188), (1, .int a1), (2, .int a2)], [], (_, _)) _
            refine At.enter rfl ?_
            refine r_aload_n rfl ?_
            refine q_getR (Sh.ref hI0.1 kx_188 rfl) ?_
            refine r_iload_n rfl ?_
            refine r_bipush 8 rfl ?_
            refine q_imul (a2.toInt * 8) rfl (by omega) (fun v68 hv68 => ?_)
            refine r_iload_n rfl ?_
            refine q_iadd (v68.toInt + a1.toInt) rfl (by omega) (fun v69 hv69 => ?_)
            obtain ⟨v70, hv70⟩ : ∃ v, eA g0 203 (8 * a2.toInt + a1.toInt) = v := ⟨_, rfl⟩
            refine q_iald (Sh.arr hI0.1 ka_203) (8 * a2.toInt + a1.toInt) (by omega) (by omega) v70 hv70 ?_
            refine q_ireti ?_
            refine At.enter rfl ?_
            refine r_goto ?_
            refine At.enter rfl ?_
            refine r_ireti ?_
            exact ⟨_, rfl, hI0, hF0, _, rfl, trivial⟩
          · have c67_ : v66.toInt = 0 := en_k_ne_f c67
            refine At.enter rfl ?_
            refine r_aload_n rfl ?_
            refine q_getR (Sh.ref hI0.1 kx_0 rfl) ?_
            refine r_iconst 0 rfl ?_
            refine r_callV 15 rfl [.ref 188, .int 0] [] (Nat.le_of_ble_eq_true rfl) rfl (T_X1_layOut_188 _ hI0 0) ?_
            rintro _ _ ⟨g71, rfl, hI72, hF73, rfl⟩
            refine At.stn ?_
            have hF76 := Fr.tr hF0 hF73 rfl rfl
            refine At.enter rfl ?_
            refine r_aload_n rfl ?_
            refine q_getR (Sh.ref hI72.1 kx_0 rfl) ?_
            refine r_callV 22 rfl [.ref 188] [] (Nat.le_of_ble_eq_true rfl) rfl (T_X1_runWhole_188 _ hI72) ?_
            rintro _ _ ⟨g77, rfl, hI78, hF79, rfl⟩
            refine At.stn ?_
            have hF82 := Fr.tr hF76 hF79 rfl rfl
            refine At.enter rfl ?_
            refine r_aload_n rfl ?_
            refine r_iconst 1 rfl ?_
            refine q_putI (Sh.int hI78.1 kx_0 rfl) rfl ?_
            have hI83 := HI.wI0 hI78 kx_0 rfl (p := 0) (b := 14) (v := 1) rfl
            have hF84 := Fr.wI (p := 0) (b := 14) (v := 1) hF82 rfl
            refine Ar.fall 27 rfl ?_
            refine At.enter rfl ?_
            refine r_aload_n rfl ?_
            refine q_getR (Sh.ref hI83.1 kx_0 rfl) ?_
            refine q_aret ?_
            refine At.enter rfl ?_
            refine r_iload_n rfl ?_
            refine r_iload_n rfl ?_
            refine q_inlV 30 rfl [.ref 188, .int a1, .int a2] [] (Nat.le_of_ble_eq_true rfl) rfl ?_
            refine Ev.mk rfl rfl ⟨Nat.le_of_ble_eq_true rfl, Or.inr (q_rc hI83.1 kx_188 rfl)⟩ ?_
            show At _ none _ _ (0, [(0, .ref 188), (1, .int a1), (2, .int a2)], [], (_, _)) _
            refine At.enter rfl ?_
            refine r_aload_n rfl ?_
            refine q_getR (Sh.ref hI83.1 kx_188 rfl) ?_
            refine r_iload_n rfl ?_
            refine r_bipush 8 rfl ?_
            refine q_imul (a2.toInt * 8) rfl (by omega) (fun v85 hv85 => ?_)
            refine r_iload_n rfl ?_
            refine q_iadd (v85.toInt + a1.toInt) rfl (by omega) (fun v86 hv86 => ?_)
            obtain ⟨v87, hv87⟩ : ∃ v, eA g77 203 (8 * a2.toInt + a1.toInt) = v := ⟨_, rfl⟩
            refine q_iald (Sh.arr hI83.1 ka_203) (8 * a2.toInt + a1.toInt) (by omega) (by omega) v87 ((eA_c (gA_sI)).trans hv87) ?_
            refine q_ireti ?_
            refine At.enter rfl ?_
            refine r_goto ?_
            refine At.enter rfl ?_
            refine r_ireti ?_
            exact ⟨_, rfl, hI83, hF84, _, rfl, trivial⟩

def F_X10_held_0 : List (Nat × Nat) := [(0, 14), (185, 3), (188, 16), (188, 18)]
def A_X10_held_0 : List Nat := [189, 190, 191, 192, 193, 194, 195, 196, 197, 198, 199, 200, 202, 203]
set_option maxRecDepth 100000 in
set_option maxHeartbeats 4000000 in
theorem T_X10_held_0 (d : Nat) {N : Nat} {g0 : List en_E} (hI0 : HI g0) (a1 : Int32) (a2 : Int32) (a3 : Int32) : Ev (d + 7) 122 [.ref 0, .int a1, .int a2, .int a3] (g0, N) (fun w h' => ∃ g', h' = (g', N) ∧ HI g' ∧ Fr F_X10_held_0 A_X10_held_0 g0 g' ∧ ∃ r : Int32, w = some (.int r) ∧ True) := by
  have hF0 : Fr F_X10_held_0 A_X10_held_0 g0 g0 := Fr.rf
  refine Ev.mk rfl rfl ⟨Nat.le_of_ble_eq_true rfl, Or.inr (q_rc hI0.1 kx_0 rfl)⟩ ?_
  show At _ none _ _ (0, [(0, .ref 0), (1, .int a1), (2, .int a2), (3, .int a3)], [], (_, _)) _
  refine At.enter rfl ?_
  refine r_aload_n rfl ?_
  refine q_getR (Sh.ref hI0.1 kx_0 rfl) ?_
  refine r_iload_n rfl ?_
  refine q_inlV 8 rfl [.ref 1, .int a1] [] (Nat.le_of_ble_eq_true rfl) rfl ?_
  refine Ev.mk rfl rfl ⟨Nat.le_of_ble_eq_true rfl, Or.inr (q_rc hI0.1 kx_1 rfl)⟩ ?_
  show At _ none _ _ (0, [(0, .ref 1), (1, .int a1)], [], (_, _)) _
  refine At.enter rfl ?_
  refine r_iload_n rfl ?_
  refine r_ifs 4 rfl (fun c855 => ?_) (fun c855 => ?_)
  · have c855_ : a1.toInt < 0 := en_k_lt_t c855
    refine At.enter rfl ?_
    refine r_iconst 0 rfl ?_
    refine Ar.fall 17 rfl ?_
    refine At.enter rfl ?_
    refine q_iretz (by decide) ?_
    refine At.enter rfl ?_
    refine r_ift (by decide) ?_
    refine At.enter rfl ?_
    refine r_iconst (-1) rfl ?_
    refine r_ireti ?_
    exact ⟨_, rfl, hI0, hF0, _, rfl, trivial⟩
  · have c855_ : a1.toInt ≥ 0 := en_k_lt_f c855
    refine At.enter rfl ?_
    refine r_iload_n rfl ?_
    refine r_aload_n rfl ?_
    obtain ⟨v856, hv856⟩ : ∃ v, gI g0 1 0 = v := ⟨_, rfl⟩
    have rv856 := RgF.at hI0.2.1 (p := 1) (b := 0) rfl
    rw [hv856] at rv856
    dsimp only at rv856
    refine q_getI (Sh.int hI0.1 kx_1 rfl) v856 hv856 ?_
    have bv858 := q_bnd a1
    have bv859 := q_bnd v856
    refine r_ics 12 rfl (fun c857 => ?_) (fun c857 => ?_)
    · have c857_ : a1.toInt ≥ v856.toInt := en_i_ge_t c857
      refine At.enter rfl ?_
      refine r_iconst 0 rfl ?_
      refine Ar.fall 17 rfl ?_
      refine At.enter rfl ?_
      refine q_iretz (by decide) ?_
      refine At.enter rfl ?_
      refine r_ift (by decide) ?_
      refine At.enter rfl ?_
      refine r_iconst (-1) rfl ?_
      refine r_ireti ?_
      exact ⟨_, rfl, hI0, hF0, _, rfl, trivial⟩
    · have c857_ : a1.toInt < v856.toInt := en_i_ge_f c857
      refine At.enter rfl ?_
      refine r_iconst 1 rfl ?_
      refine r_goto ?_
      refine At.enter rfl ?_
      refine q_iretz (by decide) ?_
      refine At.enter rfl ?_
      refine r_iff 11 rfl (by decide) ?_
      refine At.enter rfl ?_
      refine r_iload_n rfl ?_
      refine r_iconst 0 rfl ?_
      refine r_bipush 99 rfl ?_
      refine q_inlS 18 rfl [.int a2, .int 0, .int 99] [] (Nat.le_of_ble_eq_true rfl) rfl ?_
      refine Ev.mk rfl rfl ⟨Nat.le_of_ble_eq_true rfl, Or.inl rfl⟩ ?_
      show At _ none _ _ (0, [(0, .int a2), (1, .int 0), (2, .int 99)], [], (_, _)) _
      refine At.enter rfl ?_
      refine r_iload_n rfl ?_
      refine r_iload_n rfl ?_
      refine r_ics 5 rfl (fun c860 => ?_) (fun c860 => ?_)
      · have c860_ : a2.toInt < 0 := en_i_lt_t c860
        refine At.enter rfl ?_
        refine r_iconst 0 rfl ?_
        refine Ar.fall 15 rfl ?_
        refine At.enter rfl ?_
        refine q_iretz (by decide) ?_
        refine At.enter rfl ?_
        refine r_ift (by decide) ?_
        refine At.enter rfl ?_
        refine r_iconst (-1) rfl ?_
        refine r_ireti ?_
        exact ⟨_, rfl, hI0, hF0, _, rfl, trivial⟩
      · have c860_ : a2.toInt ≥ 0 := en_i_lt_f c860
        refine At.enter rfl ?_
        refine r_iload_n rfl ?_
        refine r_iload_n rfl ?_
        refine r_ics 10 rfl (fun c861 => ?_) (fun c861 => ?_)
        · have c861_ : a2.toInt > 99 := en_i_gt_t c861
          refine At.enter rfl ?_
          refine r_iconst 0 rfl ?_
          refine Ar.fall 15 rfl ?_
          refine At.enter rfl ?_
          refine q_iretz (by decide) ?_
          refine At.enter rfl ?_
          refine r_ift (by decide) ?_
          refine At.enter rfl ?_
          refine r_iconst (-1) rfl ?_
          refine r_ireti ?_
          exact ⟨_, rfl, hI0, hF0, _, rfl, trivial⟩
        · have c861_ : a2.toInt ≤ 99 := en_i_gt_f c861
          refine At.enter rfl ?_
          refine r_iconst 1 rfl ?_
          refine r_goto ?_
          refine At.enter rfl ?_
          refine q_iretz (by decide) ?_
          refine At.enter rfl ?_
          refine r_iff 21 rfl (by decide) ?_
          refine At.enter rfl ?_
          refine r_iload_n rfl ?_
          refine r_iconst 0 rfl ?_
          refine r_iconst 1 rfl ?_
          refine q_inlS 27 rfl [.int a3, .int 0, .int 1] [] (Nat.le_of_ble_eq_true rfl) rfl ?_
          refine Ev.mk rfl rfl ⟨Nat.le_of_ble_eq_true rfl, Or.inl rfl⟩ ?_
          show At _ none _ _ (0, [(0, .int a3), (1, .int 0), (2, .int 1)], [], (_, _)) _
          refine At.enter rfl ?_
          refine r_iload_n rfl ?_
          refine r_iload_n rfl ?_
          refine r_ics 5 rfl (fun c862 => ?_) (fun c862 => ?_)
          · have c862_ : a3.toInt < 0 := en_i_lt_t c862
            refine At.enter rfl ?_
            refine r_iconst 0 rfl ?_
            refine Ar.fall 15 rfl ?_
            refine At.enter rfl ?_
            refine q_iretz (by decide) ?_
            refine At.enter rfl ?_
            refine r_iff 30 rfl (by decide) ?_
            refine At.enter rfl ?_
            refine r_iconst (-1) rfl ?_
            refine r_ireti ?_
            exact ⟨_, rfl, hI0, hF0, _, rfl, trivial⟩
          · have c862_ : a3.toInt ≥ 0 := en_i_lt_f c862
            refine At.enter rfl ?_
            refine r_iload_n rfl ?_
            refine r_iload_n rfl ?_
            refine r_ics 10 rfl (fun c863 => ?_) (fun c863 => ?_)
            · have c863_ : a3.toInt > 1 := en_i_gt_t c863
              refine At.enter rfl ?_
              refine r_iconst 0 rfl ?_
              refine Ar.fall 15 rfl ?_
              refine At.enter rfl ?_
              refine q_iretz (by decide) ?_
              refine At.enter rfl ?_
              refine r_iff 30 rfl (by decide) ?_
              refine At.enter rfl ?_
              refine r_iconst (-1) rfl ?_
              refine r_ireti ?_
              exact ⟨_, rfl, hI0, hF0, _, rfl, trivial⟩
            · have c863_ : a3.toInt ≤ 1 := en_i_gt_f c863
              refine At.enter rfl ?_
              refine r_iconst 1 rfl ?_
              refine r_goto ?_
              refine At.enter rfl ?_
              refine q_iretz (by decide) ?_
              refine At.enter rfl ?_
              refine r_ift (by decide) ?_
              refine At.enter rfl ?_
              refine r_aload_n rfl ?_
              refine q_inlV 36 rfl [.ref 0] [] (Nat.le_of_ble_eq_true rfl) rfl ?_
              refine Ev.mk rfl rfl ⟨Nat.le_of_ble_eq_true rfl, Or.inr (q_rc hI0.1 kx_0 rfl)⟩ ?_
              show At _ none _ _ (0, [(0, .ref 0)], [], (_, _)) _
              refine At.enter rfl ?_
              refine r_aload_n rfl ?_
              obtain ⟨v864, hv864⟩ : ∃ v, gI g0 0 14 = v := ⟨_, rfl⟩
              refine q_getI (Sh.int hI0.1 kx_0 rfl) v864 hv864 ?_
              refine r_ifs 7 rfl (fun c865 => ?_) (fun c865 => ?_)
              · have c865_ : v864.toInt ≠ 0 := en_k_ne_t c865
                refine At.enter rfl ?_
                refine r_aload_n rfl ?_
                refine q_getR (Sh.ref hI0.1 kx_0 rfl) ?_
                refine q_aret ?_
                refine At.enter rfl ?_
                refine r_astore ([(4, .ref 188), (0, .ref 0), (1, .int a1), (2, .int a2), (3, .int a3)]) rfl ?_
                refine r_iconst 0 rfl ?_
                refine r_istore ([(5, .int 0), (4, .ref 188), (0, .ref 0), (1, .int a1), (2, .int a2), (3, .int a3)]) rfl ?_
                refine r_iconst 0 rfl ?_
                refine r_istore ([(6, .int 0), (5, .int 0), (4, .ref 188), (0, .ref 0), (1, .int a1), (2, .int a2), (3, .int a3)]) rfl ?_
                refine Ar.fall 44 rfl ?_
                have z_1044 : (0 : Int32).toInt = 0 := rfl
                have z_1045 : (0 : Int32).toInt = 0 := rfl
                refine w_loopI (fun n_ l_ g_ => ∃ x1028 : Int32, ∃ x1029 : Int32, n_ = 8 - x1029.toInt ∧ HI g_ ∧ Fr F_X10_held_0 A_X10_held_0 g0 g_ ∧ en_get 0 l_ = some (.ref 0) ∧ en_get 1 l_ = some (.int a1) ∧ en_get 2 l_ = some (.int a2) ∧ en_get 3 l_ = some (.int a3) ∧ en_get 4 l_ = some (.ref 188) ∧ en_get 5 l_ = some (.int x1028) ∧ en_get 6 l_ = some (.int x1029) ∧ (0 ≤ x1029.toInt ∧ x1029.toInt ≤ 8)) ?_ (8 - 0) ⟨0, 0, by first | rfl | omega, hI0, hF0, rfl, rfl, rfl, rfl, rfl, rfl, rfl, by decide⟩
                rintro n1034 l1033 g1030 ⟨x1028, x1029, hm1046, hI1031, hF1032, e1036, e1037, e1038, e1039, e1040, e1041, e1042, r1043⟩ ih1035
                refine At.enter rfl ?_
                refine r_iload e1042 ?_
                refine r_aload_n e1036 ?_
                refine q_getR (Sh.ref hI1031.1 kx_0 rfl) ?_
                obtain ⟨v1047, hv1047⟩ : ∃ v, gI g0 1 4 = v := ⟨_, rfl⟩
                have rv1047 := RgF.at hI0.2.1 (p := 1) (b := 4) rfl
                rw [hv1047] at rv1047
                dsimp only at rv1047
                refine q_getI (Sh.int hI1031.1 kx_1 rfl) v1047 ((hF1032.1 1 4 (by decide)).trans hv1047) ?_
                have bv1049 := q_bnd x1029
                have bv1050 := q_bnd v1047
                refine r_ics 56 rfl (fun c1048 => ?_) (fun c1048 => ?_)
                · have c1048_ : x1029.toInt ≥ v1047.toInt := en_i_ge_t c1048
                  refine At.enter rfl ?_
                  refine r_iload e1041 ?_
                  refine r_ireti ?_
                  exact ⟨_, rfl, hI1031, hF1032, _, rfl, trivial⟩
                · have c1048_ : x1029.toInt < v1047.toInt := en_i_ge_f c1048
                  refine At.enter rfl ?_
                  refine r_aload e1040 ?_
                  refine r_iload e1042 ?_
                  refine r_iload_n e1038 ?_
                  refine q_inlV 64 rfl [.ref 188, .int x1029, .int a2] [] (Nat.le_of_ble_eq_true rfl) rfl ?_
                  refine Ev.mk rfl rfl ⟨Nat.le_of_ble_eq_true rfl, Or.inr (q_rc hI1031.1 kx_188 rfl)⟩ ?_
                  show At _ none _ _ (0, [(0, .ref 188), (1, .int x1029), (2, .int a2)], [], (_, _)) _
                  refine At.enter rfl ?_
                  refine r_aload_n rfl ?_
                  refine q_getR (Sh.ref hI1031.1 kx_188 rfl) ?_
                  refine r_iload_n rfl ?_
                  refine r_bipush 8 rfl ?_
                  refine q_imul (a2.toInt * 8) rfl (by omega) (fun v1051 hv1051 => ?_)
                  refine r_iload_n rfl ?_
                  refine q_iadd (v1051.toInt + x1029.toInt) rfl (by omega) (fun v1052 hv1052 => ?_)
                  obtain ⟨v1053, hv1053⟩ : ∃ v, eA g1030 203 (8 * a2.toInt + x1029.toInt) = v := ⟨_, rfl⟩
                  refine q_iald (Sh.arr hI1031.1 ka_203) (8 * a2.toInt + x1029.toInt) (by omega) (by omega) v1053 hv1053 ?_
                  refine q_ireti ?_
                  refine At.enter rfl ?_
                  refine r_iload_n e1037 ?_
                  refine r_ics 68 rfl (fun c1054 => ?_) (fun c1054 => ?_)
                  · have c1054_ : v1053.toInt ≠ a1.toInt := en_i_ne_t c1054
                    refine At.enter rfl ?_
                    refine q_iinc e1042 (x1029.toInt + 1) rfl (by omega) (fun v1055 hv1055 => ?_)
                    refine r_goto ?_
                    have bv1056 := q_bnd x1028
                    exact ih1035 (8 - v1055.toInt) _ _ ⟨x1028, v1055, by first | rfl | omega, hI1031, hF1032, (w_p1 (by decide) (Or.inr rfl) e1036), (w_p1 (by decide) (Or.inr rfl) e1037), (w_p1 (by decide) (Or.inr rfl) e1038), (w_p1 (by decide) (Or.inr rfl) e1039), (w_p1 (by decide) (Or.inr rfl) e1040), (w_p1 (by decide) (Or.inr rfl) e1041), (w_e1 _ _ _), by omega⟩ ⟨by omega, by omega⟩
                  · have c1054_ : v1053.toInt = a1.toInt := en_i_ne_f c1054
                    refine At.enter rfl ?_
                    refine r_iload e1041 ?_
                    refine r_iload_n e1039 ?_
                    refine r_ifs 74 rfl (fun c1057 => ?_) (fun c1057 => ?_)
                    · have c1057_ : a3.toInt ≠ 0 := en_k_ne_t c1057
                      refine At.enter rfl ?_
                      refine r_aload_n e1036 ?_
                      refine q_getR (Sh.ref hI1031.1 kx_0 rfl) ?_
                      refine r_iload e1042 ?_
                      refine r_iconst 0 rfl ?_
                      refine r_callV 88 rfl [.ref 1, .int x1029, .int 0] [.int x1028] (Nat.le_of_ble_eq_true rfl) rfl (T_X0_about_1 _ hI1031 x1029 0) ?_
                      rintro _ _ ⟨g1058, rfl, hI1059, hF1060, v1061, rfl, hr1062⟩
                      refine At.sti ?_
                      have hF1063 := Fr.tr hF1032 hF1060 rfl rfl
                      refine At.enter rfl ?_
                      refine q_iaddO (fun v1064 _ => ?_)
                      refine r_istore _ rfl ?_
                      refine Ar.fall 91 rfl ?_
                      refine At.enter rfl ?_
                      refine q_iinc (w_p1 (by decide) (Or.inr rfl) e1042) (x1029.toInt + 1) rfl (by omega) (fun v1065 hv1065 => ?_)
                      refine r_goto ?_
                      have bv1066 := q_bnd v1064
                      exact ih1035 (8 - v1065.toInt) _ _ ⟨v1064, v1065, by first | rfl | omega, hI1059, hF1063, (w_p1 (by decide) (Or.inr rfl) (w_p1 (by decide) (Or.inr rfl) e1036)), (w_p1 (by decide) (Or.inr rfl) (w_p1 (by decide) (Or.inr rfl) e1037)), (w_p1 (by decide) (Or.inr rfl) (w_p1 (by decide) (Or.inr rfl) e1038)), (w_p1 (by decide) (Or.inr rfl) (w_p1 (by decide) (Or.inr rfl) e1039)), (w_p1 (by decide) (Or.inr rfl) (w_p1 (by decide) (Or.inr rfl) e1040)), (w_p1 (by decide) (Or.inr rfl) (w_e1 _ _ _)), (w_e1 _ _ _), by omega⟩ ⟨by omega, by omega⟩
                    · have c1057_ : a3.toInt = 0 := en_k_ne_f c1057
                      refine At.enter rfl ?_
                      refine r_iconst 1 rfl ?_
                      refine r_goto ?_
                      refine At.enter rfl ?_
                      refine q_iaddO (fun v1067 _ => ?_)
                      refine r_istore _ rfl ?_
                      refine Ar.fall 91 rfl ?_
                      refine At.enter rfl ?_
                      refine q_iinc (w_p1 (by decide) (Or.inr rfl) e1042) (x1029.toInt + 1) rfl (by omega) (fun v1068 hv1068 => ?_)
                      refine r_goto ?_
                      have bv1069 := q_bnd v1067
                      exact ih1035 (8 - v1068.toInt) _ _ ⟨v1067, v1068, by first | rfl | omega, hI1031, hF1032, (w_p1 (by decide) (Or.inr rfl) (w_p1 (by decide) (Or.inr rfl) e1036)), (w_p1 (by decide) (Or.inr rfl) (w_p1 (by decide) (Or.inr rfl) e1037)), (w_p1 (by decide) (Or.inr rfl) (w_p1 (by decide) (Or.inr rfl) e1038)), (w_p1 (by decide) (Or.inr rfl) (w_p1 (by decide) (Or.inr rfl) e1039)), (w_p1 (by decide) (Or.inr rfl) (w_p1 (by decide) (Or.inr rfl) e1040)), (w_p1 (by decide) (Or.inr rfl) (w_e1 _ _ _)), (w_e1 _ _ _), by omega⟩ ⟨by omega, by omega⟩
              · have c865_ : v864.toInt = 0 := en_k_ne_f c865
                refine At.enter rfl ?_
                refine r_aload_n rfl ?_
                refine q_getR (Sh.ref hI0.1 kx_0 rfl) ?_
                refine r_iconst 0 rfl ?_
                refine r_callV 15 rfl [.ref 188, .int 0] [] (Nat.le_of_ble_eq_true rfl) rfl (T_X1_layOut_188 _ hI0 0) ?_
                rintro _ _ ⟨g1070, rfl, hI1071, hF1072, rfl⟩
                refine At.stn ?_
                have hF1075 := Fr.tr hF0 hF1072 rfl rfl
                refine At.enter rfl ?_
                refine r_aload_n rfl ?_
                refine q_getR (Sh.ref hI1071.1 kx_0 rfl) ?_
                refine r_callV 22 rfl [.ref 188] [] (Nat.le_of_ble_eq_true rfl) rfl (T_X1_runWhole_188 _ hI1071) ?_
                rintro _ _ ⟨g1076, rfl, hI1077, hF1078, rfl⟩
                refine At.stn ?_
                have hF1081 := Fr.tr hF1075 hF1078 rfl rfl
                refine At.enter rfl ?_
                refine r_aload_n rfl ?_
                refine r_iconst 1 rfl ?_
                refine q_putI (Sh.int hI1077.1 kx_0 rfl) rfl ?_
                have hI1082 := HI.wI0 hI1077 kx_0 rfl (p := 0) (b := 14) (v := 1) rfl
                have hF1083 := Fr.wI (p := 0) (b := 14) (v := 1) hF1081 rfl
                refine Ar.fall 27 rfl ?_
                refine At.enter rfl ?_
                refine r_aload_n rfl ?_
                refine q_getR (Sh.ref hI1082.1 kx_0 rfl) ?_
                refine q_aret ?_
                refine At.enter rfl ?_
                refine r_astore ([(4, .ref 188), (0, .ref 0), (1, .int a1), (2, .int a2), (3, .int a3)]) rfl ?_
                refine r_iconst 0 rfl ?_
                refine r_istore ([(5, .int 0), (4, .ref 188), (0, .ref 0), (1, .int a1), (2, .int a2), (3, .int a3)]) rfl ?_
                refine r_iconst 0 rfl ?_
                refine r_istore ([(6, .int 0), (5, .int 0), (4, .ref 188), (0, .ref 0), (1, .int a1), (2, .int a2), (3, .int a3)]) rfl ?_
                refine Ar.fall 44 rfl ?_
                have z_1262 : (0 : Int32).toInt = 0 := rfl
                have z_1263 : (0 : Int32).toInt = 0 := rfl
                refine w_loopI (fun n_ l_ g_ => ∃ x1246 : Int32, ∃ x1247 : Int32, n_ = 8 - x1247.toInt ∧ HI g_ ∧ Fr F_X10_held_0 A_X10_held_0 g0 g_ ∧ en_get 0 l_ = some (.ref 0) ∧ en_get 1 l_ = some (.int a1) ∧ en_get 2 l_ = some (.int a2) ∧ en_get 3 l_ = some (.int a3) ∧ en_get 4 l_ = some (.ref 188) ∧ en_get 5 l_ = some (.int x1246) ∧ en_get 6 l_ = some (.int x1247) ∧ (0 ≤ x1247.toInt ∧ x1247.toInt ≤ 8)) ?_ (8 - 0) ⟨0, 0, by first | rfl | omega, hI1082, hF1083, rfl, rfl, rfl, rfl, rfl, rfl, rfl, by decide⟩
                rintro n1252 l1251 g1248 ⟨x1246, x1247, hm1264, hI1249, hF1250, e1254, e1255, e1256, e1257, e1258, e1259, e1260, r1261⟩ ih1253
                refine At.enter rfl ?_
                refine r_iload e1260 ?_
                refine r_aload_n e1254 ?_
                refine q_getR (Sh.ref hI1249.1 kx_0 rfl) ?_
                obtain ⟨v1265, hv1265⟩ : ∃ v, gI g0 1 4 = v := ⟨_, rfl⟩
                have rv1265 := RgF.at hI0.2.1 (p := 1) (b := 4) rfl
                rw [hv1265] at rv1265
                dsimp only at rv1265
                refine q_getI (Sh.int hI1249.1 kx_1 rfl) v1265 ((hF1250.1 1 4 (by decide)).trans hv1265) ?_
                have bv1267 := q_bnd x1247
                have bv1268 := q_bnd v1265
                refine r_ics 56 rfl (fun c1266 => ?_) (fun c1266 => ?_)
                · have c1266_ : x1247.toInt ≥ v1265.toInt := en_i_ge_t c1266
                  refine At.enter rfl ?_
                  refine r_iload e1259 ?_
                  refine r_ireti ?_
                  exact ⟨_, rfl, hI1249, hF1250, _, rfl, trivial⟩
                · have c1266_ : x1247.toInt < v1265.toInt := en_i_ge_f c1266
                  refine At.enter rfl ?_
                  refine r_aload e1258 ?_
                  refine r_iload e1260 ?_
                  refine r_iload_n e1256 ?_
                  refine q_inlV 64 rfl [.ref 188, .int x1247, .int a2] [] (Nat.le_of_ble_eq_true rfl) rfl ?_
                  refine Ev.mk rfl rfl ⟨Nat.le_of_ble_eq_true rfl, Or.inr (q_rc hI1249.1 kx_188 rfl)⟩ ?_
                  show At _ none _ _ (0, [(0, .ref 188), (1, .int x1247), (2, .int a2)], [], (_, _)) _
                  refine At.enter rfl ?_
                  refine r_aload_n rfl ?_
                  refine q_getR (Sh.ref hI1249.1 kx_188 rfl) ?_
                  refine r_iload_n rfl ?_
                  refine r_bipush 8 rfl ?_
                  refine q_imul (a2.toInt * 8) rfl (by omega) (fun v1269 hv1269 => ?_)
                  refine r_iload_n rfl ?_
                  refine q_iadd (v1269.toInt + x1247.toInt) rfl (by omega) (fun v1270 hv1270 => ?_)
                  obtain ⟨v1271, hv1271⟩ : ∃ v, eA g1248 203 (8 * a2.toInt + x1247.toInt) = v := ⟨_, rfl⟩
                  refine q_iald (Sh.arr hI1249.1 ka_203) (8 * a2.toInt + x1247.toInt) (by omega) (by omega) v1271 hv1271 ?_
                  refine q_ireti ?_
                  refine At.enter rfl ?_
                  refine r_iload_n e1255 ?_
                  refine r_ics 68 rfl (fun c1272 => ?_) (fun c1272 => ?_)
                  · have c1272_ : v1271.toInt ≠ a1.toInt := en_i_ne_t c1272
                    refine At.enter rfl ?_
                    refine q_iinc e1260 (x1247.toInt + 1) rfl (by omega) (fun v1273 hv1273 => ?_)
                    refine r_goto ?_
                    have bv1274 := q_bnd x1246
                    exact ih1253 (8 - v1273.toInt) _ _ ⟨x1246, v1273, by first | rfl | omega, hI1249, hF1250, (w_p1 (by decide) (Or.inr rfl) e1254), (w_p1 (by decide) (Or.inr rfl) e1255), (w_p1 (by decide) (Or.inr rfl) e1256), (w_p1 (by decide) (Or.inr rfl) e1257), (w_p1 (by decide) (Or.inr rfl) e1258), (w_p1 (by decide) (Or.inr rfl) e1259), (w_e1 _ _ _), by omega⟩ ⟨by omega, by omega⟩
                  · have c1272_ : v1271.toInt = a1.toInt := en_i_ne_f c1272
                    refine At.enter rfl ?_
                    refine r_iload e1259 ?_
                    refine r_iload_n e1257 ?_
                    refine r_ifs 74 rfl (fun c1275 => ?_) (fun c1275 => ?_)
                    · have c1275_ : a3.toInt ≠ 0 := en_k_ne_t c1275
                      refine At.enter rfl ?_
                      refine r_aload_n e1254 ?_
                      refine q_getR (Sh.ref hI1249.1 kx_0 rfl) ?_
                      refine r_iload e1260 ?_
                      refine r_iconst 0 rfl ?_
                      refine r_callV 88 rfl [.ref 1, .int x1247, .int 0] [.int x1246] (Nat.le_of_ble_eq_true rfl) rfl (T_X0_about_1 _ hI1249 x1247 0) ?_
                      rintro _ _ ⟨g1276, rfl, hI1277, hF1278, v1279, rfl, hr1280⟩
                      refine At.sti ?_
                      have hF1281 := Fr.tr hF1250 hF1278 rfl rfl
                      refine At.enter rfl ?_
                      refine q_iaddO (fun v1282 _ => ?_)
                      refine r_istore _ rfl ?_
                      refine Ar.fall 91 rfl ?_
                      refine At.enter rfl ?_
                      refine q_iinc (w_p1 (by decide) (Or.inr rfl) e1260) (x1247.toInt + 1) rfl (by omega) (fun v1283 hv1283 => ?_)
                      refine r_goto ?_
                      have bv1284 := q_bnd v1282
                      exact ih1253 (8 - v1283.toInt) _ _ ⟨v1282, v1283, by first | rfl | omega, hI1277, hF1281, (w_p1 (by decide) (Or.inr rfl) (w_p1 (by decide) (Or.inr rfl) e1254)), (w_p1 (by decide) (Or.inr rfl) (w_p1 (by decide) (Or.inr rfl) e1255)), (w_p1 (by decide) (Or.inr rfl) (w_p1 (by decide) (Or.inr rfl) e1256)), (w_p1 (by decide) (Or.inr rfl) (w_p1 (by decide) (Or.inr rfl) e1257)), (w_p1 (by decide) (Or.inr rfl) (w_p1 (by decide) (Or.inr rfl) e1258)), (w_p1 (by decide) (Or.inr rfl) (w_e1 _ _ _)), (w_e1 _ _ _), by omega⟩ ⟨by omega, by omega⟩
                    · have c1275_ : a3.toInt = 0 := en_k_ne_f c1275
                      refine At.enter rfl ?_
                      refine r_iconst 1 rfl ?_
                      refine r_goto ?_
                      refine At.enter rfl ?_
                      refine q_iaddO (fun v1285 _ => ?_)
                      refine r_istore _ rfl ?_
                      refine Ar.fall 91 rfl ?_
                      refine At.enter rfl ?_
                      refine q_iinc (w_p1 (by decide) (Or.inr rfl) e1260) (x1247.toInt + 1) rfl (by omega) (fun v1286 hv1286 => ?_)
                      refine r_goto ?_
                      have bv1287 := q_bnd v1285
                      exact ih1253 (8 - v1286.toInt) _ _ ⟨v1285, v1286, by first | rfl | omega, hI1249, hF1250, (w_p1 (by decide) (Or.inr rfl) (w_p1 (by decide) (Or.inr rfl) e1254)), (w_p1 (by decide) (Or.inr rfl) (w_p1 (by decide) (Or.inr rfl) e1255)), (w_p1 (by decide) (Or.inr rfl) (w_p1 (by decide) (Or.inr rfl) e1256)), (w_p1 (by decide) (Or.inr rfl) (w_p1 (by decide) (Or.inr rfl) e1257)), (w_p1 (by decide) (Or.inr rfl) (w_p1 (by decide) (Or.inr rfl) e1258)), (w_p1 (by decide) (Or.inr rfl) (w_e1 _ _ _)), (w_e1 _ _ _), by omega⟩ ⟨by omega, by omega⟩

def F_X10_choke_0 : List (Nat × Nat) := [(0, 14), (185, 3), (188, 16), (188, 18)]
def A_X10_choke_0 : List Nat := [189, 190, 191, 192, 193, 194, 195, 196, 197, 198, 199, 200, 202, 203]
set_option maxRecDepth 100000 in
set_option maxHeartbeats 4000000 in
theorem T_X10_choke_0 (d : Nat) {N : Nat} {g0 : List en_E} (hI0 : HI g0) : Ev (d + 7) 123 [.ref 0] (g0, N) (fun w h' => ∃ g', h' = (g', N) ∧ HI g' ∧ Fr F_X10_choke_0 A_X10_choke_0 g0 g' ∧ ∃ r : Int32, w = some (.int r) ∧ True) := by
  have hF0 : Fr F_X10_choke_0 A_X10_choke_0 g0 g0 := Fr.rf
  refine Ev.mk rfl rfl ⟨Nat.le_of_ble_eq_true rfl, Or.inr (q_rc hI0.1 kx_0 rfl)⟩ ?_
  show At _ none _ _ (0, [(0, .ref 0)], [], (_, _)) _
  refine At.enter rfl ?_
  refine r_aload_n rfl ?_
  refine q_inlV 4 rfl [.ref 0] [] (Nat.le_of_ble_eq_true rfl) rfl ?_
  refine Ev.mk rfl rfl ⟨Nat.le_of_ble_eq_true rfl, Or.inr (q_rc hI0.1 kx_0 rfl)⟩ ?_
  show At _ none _ _ (0, [(0, .ref 0)], [], (_, _)) _
  refine At.enter rfl ?_
  refine r_aload_n rfl ?_
  obtain ⟨v57, hv57⟩ : ∃ v, gI g0 0 14 = v := ⟨_, rfl⟩
  refine q_getI (Sh.int hI0.1 kx_0 rfl) v57 hv57 ?_
  refine r_ifs 7 rfl (fun c58 => ?_) (fun c58 => ?_)
  · have c58_ : v57.toInt ≠ 0 := en_k_ne_t c58
    refine At.enter rfl ?_
    refine r_aload_n rfl ?_
    refine q_getR (Sh.ref hI0.1 kx_0 rfl) ?_
    refine q_aret ?_
    refine At.enter rfl ?_
    refine r_callV 7 rfl [.ref 188] [] (Nat.le_of_ble_eq_true rfl) rfl (T_X1_chokingRound_188 _ hI0) ?_
    rintro _ _ ⟨g59, rfl, hI60, hF61, v62, rfl, hr63⟩
    refine At.sti ?_
    have hF64 := Fr.tr hF0 hF61 rfl rfl
    refine At.enter rfl ?_
    refine r_ireti ?_
    exact ⟨_, rfl, hI60, hF64, _, rfl, trivial⟩
  · have c58_ : v57.toInt = 0 := en_k_ne_f c58
    refine At.enter rfl ?_
    refine r_aload_n rfl ?_
    refine q_getR (Sh.ref hI0.1 kx_0 rfl) ?_
    refine r_iconst 0 rfl ?_
    refine r_callV 15 rfl [.ref 188, .int 0] [] (Nat.le_of_ble_eq_true rfl) rfl (T_X1_layOut_188 _ hI0 0) ?_
    rintro _ _ ⟨g65, rfl, hI66, hF67, rfl⟩
    refine At.stn ?_
    have hF70 := Fr.tr hF0 hF67 rfl rfl
    refine At.enter rfl ?_
    refine r_aload_n rfl ?_
    refine q_getR (Sh.ref hI66.1 kx_0 rfl) ?_
    refine r_callV 22 rfl [.ref 188] [] (Nat.le_of_ble_eq_true rfl) rfl (T_X1_runWhole_188 _ hI66) ?_
    rintro _ _ ⟨g71, rfl, hI72, hF73, rfl⟩
    refine At.stn ?_
    have hF76 := Fr.tr hF70 hF73 rfl rfl
    refine At.enter rfl ?_
    refine r_aload_n rfl ?_
    refine r_iconst 1 rfl ?_
    refine q_putI (Sh.int hI72.1 kx_0 rfl) rfl ?_
    have hI77 := HI.wI0 hI72 kx_0 rfl (p := 0) (b := 14) (v := 1) rfl
    have hF78 := Fr.wI (p := 0) (b := 14) (v := 1) hF76 rfl
    refine Ar.fall 27 rfl ?_
    refine At.enter rfl ?_
    refine r_aload_n rfl ?_
    refine q_getR (Sh.ref hI77.1 kx_0 rfl) ?_
    refine q_aret ?_
    refine At.enter rfl ?_
    refine r_callV 7 rfl [.ref 188] [] (Nat.le_of_ble_eq_true rfl) rfl (T_X1_chokingRound_188 _ hI77) ?_
    rintro _ _ ⟨g79, rfl, hI80, hF81, v82, rfl, hr83⟩
    refine At.sti ?_
    have hF84 := Fr.tr hF78 hF81 rfl rfl
    refine At.enter rfl ?_
    refine r_ireti ?_
    exact ⟨_, rfl, hI80, hF84, _, rfl, trivial⟩

def F_X10_swaps_0 : List (Nat × Nat) := [(185, 3), (204, 16), (204, 18), (220, 2), (220, 3), (220, 4)]
def A_X10_swaps_0 : List Nat := [205, 206, 207, 208, 209, 210, 211, 212, 213, 214, 215, 216, 218, 221]
set_option maxRecDepth 100000 in
set_option maxHeartbeats 4000000 in
theorem T_X10_swaps_0 (d : Nat) {N : Nat} {g0 : List en_E} (hI0 : HI g0) (a1 : Int32) (a2 : Int32) : Ev (d + 8) 124 [.ref 0, .int a1, .int a2] (g0, N) (fun w h' => ∃ g', h' = (g', N) ∧ HI g' ∧ Fr F_X10_swaps_0 A_X10_swaps_0 g0 g' ∧ ∃ r : Int32, w = some (.int r) ∧ True) := by
  have hF0 : Fr F_X10_swaps_0 A_X10_swaps_0 g0 g0 := Fr.rf
  refine Ev.mk rfl rfl ⟨Nat.le_of_ble_eq_true rfl, Or.inr (q_rc hI0.1 kx_0 rfl)⟩ ?_
  show At _ none _ _ (0, [(0, .ref 0), (1, .int a1), (2, .int a2)], [], (_, _)) _
  refine At.enter rfl ?_
  refine r_iload_n rfl ?_
  refine r_aload_n rfl ?_
  refine q_getR (Sh.ref hI0.1 kx_0 rfl) ?_
  obtain ⟨v21, hv21⟩ : ∃ v, gI g0 1 4 = v := ⟨_, rfl⟩
  have rv21 := RgF.at hI0.2.1 (p := 1) (b := 4) rfl
  rw [hv21] at rv21
  dsimp only at rv21
  refine q_getI (Sh.int hI0.1 kx_1 rfl) v21 hv21 ?_
  refine q_inlS 11 rfl [.int a1, .int v21] [] (Nat.le_of_ble_eq_true rfl) rfl ?_
  refine Ev.mk rfl rfl ⟨Nat.le_of_ble_eq_true rfl, Or.inl rfl⟩ ?_
  show At _ none _ _ (0, [(0, .int a1), (1, .int v21)], [], (_, _)) _
  refine At.enter rfl ?_
  refine r_iload_n rfl ?_
  refine r_ifs 4 rfl (fun c22 => ?_) (fun c22 => ?_)
  · have c22_ : a1.toInt < 0 := en_k_lt_t c22
    refine At.enter rfl ?_
    refine r_iconst 0 rfl ?_
    refine Ar.fall 15 rfl ?_
    refine At.enter rfl ?_
    refine q_iretz (by decide) ?_
    refine At.enter rfl ?_
    refine r_ift (by decide) ?_
    refine At.enter rfl ?_
    refine r_iconst (-1) rfl ?_
    refine Ar.fall 27 rfl ?_
    refine At.enter rfl ?_
    refine r_ireti ?_
    exact ⟨_, rfl, hI0, hF0, _, rfl, trivial⟩
  · have c22_ : a1.toInt ≥ 0 := en_k_lt_f c22
    refine At.enter rfl ?_
    refine r_iload_n rfl ?_
    refine r_iload_n rfl ?_
    refine q_ishrO (fun v23 hv23 => ?_)
    refine r_ifs 10 rfl (fun c24 => ?_) (fun c24 => ?_)
    · have c24_ : v23.toInt ≠ 0 := en_k_ne_t c24
      refine At.enter rfl ?_
      refine r_iconst 0 rfl ?_
      refine Ar.fall 15 rfl ?_
      refine At.enter rfl ?_
      refine q_iretz (by decide) ?_
      refine At.enter rfl ?_
      refine r_ift (by decide) ?_
      refine At.enter rfl ?_
      refine r_iconst (-1) rfl ?_
      refine Ar.fall 27 rfl ?_
      refine At.enter rfl ?_
      refine r_ireti ?_
      exact ⟨_, rfl, hI0, hF0, _, rfl, trivial⟩
    · have c24_ : v23.toInt = 0 := en_k_ne_f c24
      refine At.enter rfl ?_
      refine r_iconst 1 rfl ?_
      refine r_goto ?_
      refine At.enter rfl ?_
      refine q_iretz (by decide) ?_
      refine At.enter rfl ?_
      refine r_iff 14 rfl (by decide) ?_
      refine At.enter rfl ?_
      refine r_aload_n rfl ?_
      refine q_getR (Sh.ref hI0.1 kx_0 rfl) ?_
      refine r_iload_n rfl ?_
      refine r_iload_n rfl ?_
      refine r_callV 23 rfl [.ref 220, .int a1, .int a2] [] (Nat.le_of_ble_eq_true rfl) rfl (T_X7_told_220 _ hI0 a1 a2) ?_
      rintro _ _ ⟨g25, rfl, hI26, hF27, v28, rfl, hr29⟩
      refine At.sti ?_
      have hF30 := Fr.tr hF0 hF27 rfl rfl
      refine At.enter rfl ?_
      refine r_goto ?_
      refine At.enter rfl ?_
      refine r_ireti ?_
      exact ⟨_, rfl, hI26, hF30, _, rfl, trivial⟩

def F_X10_swap_0 : List (Nat × Nat) := [(0, 14), (0, 17), (220, 2), (222, 2), (223, 5), (223, 10)]
def A_X10_swap_0 : List Nat := [3, 4, 230]
set_option maxRecDepth 100000 in
set_option maxHeartbeats 4000000 in
theorem T_X10_swap_0 (d : Nat) {N : Nat} {g0 : List en_E} (hI0 : HI g0) (a1 : Int32) (a2 : Int32) : Ev (d + 3) 125 [.ref 0, .int a1, .int a2] (g0, N) (fun w h' => ∃ g', h' = (g', N) ∧ HI g' ∧ Fr F_X10_swap_0 A_X10_swap_0 g0 g' ∧ ∃ r : Int32, w = some (.int r) ∧ ((-3) ≤ r.toInt ∧ r.toInt ≤ 0) ∧ (((¬ (0 ≤ a1.toInt ∧ a1.toInt < (gI g0 1 0).toInt ∧ 0 ≤ a2.toInt ∧ a2.toInt < (gI g0 1 0).toInt) → r.toInt = -2) ∧ ((0 ≤ a1.toInt ∧ a1.toInt < (gI g0 1 0).toInt ∧ 0 ≤ a2.toInt ∧ a2.toInt < (gI g0 1 0).toInt) ∧ a1.toInt = a2.toInt → r.toInt = -3) ∧ ((0 ≤ a1.toInt ∧ a1.toInt < (gI g0 1 0).toInt ∧ 0 ≤ a2.toInt ∧ a2.toInt < (gI g0 1 0).toInt) ∧ a1.toInt ≠ a2.toInt → r.toInt = 0)) ∧ (∀ i : Int, 0 ≤ i → i < 12 → (eA g' 3 (i)).toInt = if (0 ≤ a1.toInt ∧ a1.toInt < (gI g0 1 0).toInt ∧ 0 ≤ a2.toInt ∧ a2.toInt < (gI g0 1 0).toInt ∧ a1.toInt ≠ a2.toInt) ∧ i = a1.toInt then (eA g0 3 a2.toInt).toInt else if (0 ≤ a1.toInt ∧ a1.toInt < (gI g0 1 0).toInt ∧ 0 ≤ a2.toInt ∧ a2.toInt < (gI g0 1 0).toInt ∧ a1.toInt ≠ a2.toInt) ∧ i = a2.toInt then (eA g0 3 a1.toInt).toInt else (eA g0 3 (i)).toInt) ∧ (∀ i : Int, 0 ≤ i → i < 12 → (eA g' 4 (i)).toInt = if (0 ≤ a1.toInt ∧ a1.toInt < (gI g0 1 0).toInt ∧ 0 ≤ a2.toInt ∧ a2.toInt < (gI g0 1 0).toInt ∧ a1.toInt ≠ a2.toInt) ∧ i = a1.toInt then (eA g0 4 a2.toInt).toInt else if (0 ≤ a1.toInt ∧ a1.toInt < (gI g0 1 0).toInt ∧ 0 ≤ a2.toInt ∧ a2.toInt < (gI g0 1 0).toInt ∧ a1.toInt ≠ a2.toInt) ∧ i = a2.toInt then (eA g0 4 a1.toInt).toInt else (eA g0 4 (i)).toInt))) := by
  have hF0 : Fr F_X10_swap_0 A_X10_swap_0 g0 g0 := Fr.rf
  refine Ev.mk rfl rfl ⟨Nat.le_of_ble_eq_true rfl, Or.inr (q_rc hI0.1 kx_0 rfl)⟩ ?_
  show At _ none _ _ (0, [(0, .ref 0), (1, .int a1), (2, .int a2)], [], (_, _)) _
  refine At.enter rfl ?_
  refine r_aload_n rfl ?_
  refine q_getR (Sh.ref hI0.1 kx_0 rfl) ?_
  refine r_iload_n rfl ?_
  refine q_inlV 8 rfl [.ref 1, .int a1] [] (Nat.le_of_ble_eq_true rfl) rfl ?_
  refine Ev.mk rfl rfl ⟨Nat.le_of_ble_eq_true rfl, Or.inr (q_rc hI0.1 kx_1 rfl)⟩ ?_
  show At _ none _ _ (0, [(0, .ref 1), (1, .int a1)], [], (_, _)) _
  refine At.enter rfl ?_
  refine r_iload_n rfl ?_
  refine r_ifs 4 rfl (fun c129 => ?_) (fun c129 => ?_)
  · have c129_ : a1.toInt < 0 := en_k_lt_t c129
    refine At.enter rfl ?_
    refine r_iconst 0 rfl ?_
    refine Ar.fall 17 rfl ?_
    refine At.enter rfl ?_
    refine q_iretz (by decide) ?_
    refine At.enter rfl ?_
    refine r_ift (by decide) ?_
    refine At.enter rfl ?_
    refine r_aload_n rfl ?_
    refine r_bipush (-2) rfl ?_
    refine r_callV 28 rfl [.ref 0, .int (-2)] [] (Nat.le_of_ble_eq_true rfl) rfl (T_X10_refused_0 _ hI0 (-2) (by decide)) ?_
    rintro _ _ ⟨g130, rfl, hI131, hF132, v133, rfl, hr134⟩
    refine At.sti ?_
    have hF135 := Fr.tr hF0 hF132 rfl rfl
    have zv136 : ((-2) : Int32).toInt = (-2) := rfl
    refine At.enter rfl ?_
    refine r_ireti ?_
    obtain ⟨v137, hv137⟩ : ∃ v, gI g0 1 0 = v := ⟨_, rfl⟩
    have rv137 := RgF.at hI0.2.1 (p := 1) (b := 0) rfl
    rw [hv137] at rv137
    dsimp only at rv137
    have tv137 := congrArg Int32.toInt hv137
    have x138 := HI.eqI hI0 (p := 1) (b := 0) (hv137)
    have x139 := HI.eqI hI0 (p := 1) (b := 0) (hv137)
    exact ⟨_, rfl, hI131, hF135, _, rfl, by omega, ⟨(by omega), (by intro i i0 i1; refine Eq.trans ?_ (if_neg (show ¬ ((0 ≤ a1.toInt ∧ a1.toInt < (gI g0 1 0).toInt ∧ 0 ≤ a2.toInt ∧ a2.toInt < (gI g0 1 0).toInt ∧ a1.toInt ≠ a2.toInt) ∧ i = a1.toInt) from by omega)).symm; refine Eq.trans ?_ (if_neg (show ¬ ((0 ≤ a1.toInt ∧ a1.toInt < (gI g0 1 0).toInt ∧ 0 ≤ a2.toInt ∧ a2.toInt < (gI g0 1 0).toInt ∧ a1.toInt ≠ a2.toInt) ∧ i = a2.toInt) from by omega)).symm; refine (eA_ti ((hF132.2.1 3 (by decide)))).trans ?_; (first | rfl | exact eA_ix (by omega) | omega)), (by intro i i0 i1; refine Eq.trans ?_ (if_neg (show ¬ ((0 ≤ a1.toInt ∧ a1.toInt < (gI g0 1 0).toInt ∧ 0 ≤ a2.toInt ∧ a2.toInt < (gI g0 1 0).toInt ∧ a1.toInt ≠ a2.toInt) ∧ i = a1.toInt) from by omega)).symm; refine Eq.trans ?_ (if_neg (show ¬ ((0 ≤ a1.toInt ∧ a1.toInt < (gI g0 1 0).toInt ∧ 0 ≤ a2.toInt ∧ a2.toInt < (gI g0 1 0).toInt ∧ a1.toInt ≠ a2.toInt) ∧ i = a2.toInt) from by omega)).symm; refine (eA_ti ((hF132.2.1 4 (by decide)))).trans ?_; (first | rfl | exact eA_ix (by omega) | omega))⟩⟩
  · have c129_ : a1.toInt ≥ 0 := en_k_lt_f c129
    refine At.enter rfl ?_
    refine r_iload_n rfl ?_
    refine r_aload_n rfl ?_
    obtain ⟨v140, hv140⟩ : ∃ v, gI g0 1 0 = v := ⟨_, rfl⟩
    have rv140 := RgF.at hI0.2.1 (p := 1) (b := 0) rfl
    rw [hv140] at rv140
    dsimp only at rv140
    refine q_getI (Sh.int hI0.1 kx_1 rfl) v140 hv140 ?_
    have bv142 := q_bnd a1
    have bv143 := q_bnd v140
    refine r_ics 12 rfl (fun c141 => ?_) (fun c141 => ?_)
    · have c141_ : a1.toInt ≥ v140.toInt := en_i_ge_t c141
      refine At.enter rfl ?_
      refine r_iconst 0 rfl ?_
      refine Ar.fall 17 rfl ?_
      refine At.enter rfl ?_
      refine q_iretz (by decide) ?_
      refine At.enter rfl ?_
      refine r_ift (by decide) ?_
      refine At.enter rfl ?_
      refine r_aload_n rfl ?_
      refine r_bipush (-2) rfl ?_
      refine r_callV 28 rfl [.ref 0, .int (-2)] [] (Nat.le_of_ble_eq_true rfl) rfl (T_X10_refused_0 _ hI0 (-2) (by decide)) ?_
      rintro _ _ ⟨g144, rfl, hI145, hF146, v147, rfl, hr148⟩
      refine At.sti ?_
      have hF149 := Fr.tr hF0 hF146 rfl rfl
      have zv150 : ((-2) : Int32).toInt = (-2) := rfl
      refine At.enter rfl ?_
      refine r_ireti ?_
      have x151 := HI.eqI hI0 (p := 1) (b := 0) (hv140)
      have x152 := HI.eqI hI0 (p := 1) (b := 0) (hv140)
      exact ⟨_, rfl, hI145, hF149, _, rfl, by omega, ⟨(by omega), (by intro i i0 i1; refine Eq.trans ?_ (if_neg (show ¬ ((0 ≤ a1.toInt ∧ a1.toInt < (gI g0 1 0).toInt ∧ 0 ≤ a2.toInt ∧ a2.toInt < (gI g0 1 0).toInt ∧ a1.toInt ≠ a2.toInt) ∧ i = a1.toInt) from by omega)).symm; refine Eq.trans ?_ (if_neg (show ¬ ((0 ≤ a1.toInt ∧ a1.toInt < (gI g0 1 0).toInt ∧ 0 ≤ a2.toInt ∧ a2.toInt < (gI g0 1 0).toInt ∧ a1.toInt ≠ a2.toInt) ∧ i = a2.toInt) from by omega)).symm; refine (eA_ti ((hF146.2.1 3 (by decide)))).trans ?_; (first | rfl | exact eA_ix (by omega) | omega)), (by intro i i0 i1; refine Eq.trans ?_ (if_neg (show ¬ ((0 ≤ a1.toInt ∧ a1.toInt < (gI g0 1 0).toInt ∧ 0 ≤ a2.toInt ∧ a2.toInt < (gI g0 1 0).toInt ∧ a1.toInt ≠ a2.toInt) ∧ i = a1.toInt) from by omega)).symm; refine Eq.trans ?_ (if_neg (show ¬ ((0 ≤ a1.toInt ∧ a1.toInt < (gI g0 1 0).toInt ∧ 0 ≤ a2.toInt ∧ a2.toInt < (gI g0 1 0).toInt ∧ a1.toInt ≠ a2.toInt) ∧ i = a2.toInt) from by omega)).symm; refine (eA_ti ((hF146.2.1 4 (by decide)))).trans ?_; (first | rfl | exact eA_ix (by omega) | omega))⟩⟩
    · have c141_ : a1.toInt < v140.toInt := en_i_ge_f c141
      refine At.enter rfl ?_
      refine r_iconst 1 rfl ?_
      refine r_goto ?_
      refine At.enter rfl ?_
      refine q_iretz (by decide) ?_
      refine At.enter rfl ?_
      refine r_iff 11 rfl (by decide) ?_
      refine At.enter rfl ?_
      refine r_aload_n rfl ?_
      refine q_getR (Sh.ref hI0.1 kx_0 rfl) ?_
      refine r_iload_n rfl ?_
      refine q_inlV 19 rfl [.ref 1, .int a2] [] (Nat.le_of_ble_eq_true rfl) rfl ?_
      refine Ev.mk rfl rfl ⟨Nat.le_of_ble_eq_true rfl, Or.inr (q_rc hI0.1 kx_1 rfl)⟩ ?_
      show At _ none _ _ (0, [(0, .ref 1), (1, .int a2)], [], (_, _)) _
      refine At.enter rfl ?_
      refine r_iload_n rfl ?_
      refine r_ifs 4 rfl (fun c153 => ?_) (fun c153 => ?_)
      · have c153_ : a2.toInt < 0 := en_k_lt_t c153
        refine At.enter rfl ?_
        refine r_iconst 0 rfl ?_
        refine Ar.fall 17 rfl ?_
        refine At.enter rfl ?_
        refine q_iretz (by decide) ?_
        refine At.enter rfl ?_
        refine r_iff 22 rfl (by decide) ?_
        refine At.enter rfl ?_
        refine r_aload_n rfl ?_
        refine r_bipush (-2) rfl ?_
        refine r_callV 28 rfl [.ref 0, .int (-2)] [] (Nat.le_of_ble_eq_true rfl) rfl (T_X10_refused_0 _ hI0 (-2) (by decide)) ?_
        rintro _ _ ⟨g154, rfl, hI155, hF156, v157, rfl, hr158⟩
        refine At.sti ?_
        have hF159 := Fr.tr hF0 hF156 rfl rfl
        have zv160 : ((-2) : Int32).toInt = (-2) := rfl
        refine At.enter rfl ?_
        refine r_ireti ?_
        have x161 := HI.eqI hI0 (p := 1) (b := 0) (hv140)
        have x162 := HI.eqI hI0 (p := 1) (b := 0) (hv140)
        exact ⟨_, rfl, hI155, hF159, _, rfl, by omega, ⟨(by omega), (by intro i i0 i1; refine Eq.trans ?_ (if_neg (show ¬ ((0 ≤ a1.toInt ∧ a1.toInt < (gI g0 1 0).toInt ∧ 0 ≤ a2.toInt ∧ a2.toInt < (gI g0 1 0).toInt ∧ a1.toInt ≠ a2.toInt) ∧ i = a1.toInt) from by omega)).symm; refine Eq.trans ?_ (if_neg (show ¬ ((0 ≤ a1.toInt ∧ a1.toInt < (gI g0 1 0).toInt ∧ 0 ≤ a2.toInt ∧ a2.toInt < (gI g0 1 0).toInt ∧ a1.toInt ≠ a2.toInt) ∧ i = a2.toInt) from by omega)).symm; refine (eA_ti ((hF156.2.1 3 (by decide)))).trans ?_; (first | rfl | exact eA_ix (by omega) | omega)), (by intro i i0 i1; refine Eq.trans ?_ (if_neg (show ¬ ((0 ≤ a1.toInt ∧ a1.toInt < (gI g0 1 0).toInt ∧ 0 ≤ a2.toInt ∧ a2.toInt < (gI g0 1 0).toInt ∧ a1.toInt ≠ a2.toInt) ∧ i = a1.toInt) from by omega)).symm; refine Eq.trans ?_ (if_neg (show ¬ ((0 ≤ a1.toInt ∧ a1.toInt < (gI g0 1 0).toInt ∧ 0 ≤ a2.toInt ∧ a2.toInt < (gI g0 1 0).toInt ∧ a1.toInt ≠ a2.toInt) ∧ i = a2.toInt) from by omega)).symm; refine (eA_ti ((hF156.2.1 4 (by decide)))).trans ?_; (first | rfl | exact eA_ix (by omega) | omega))⟩⟩
      · have c153_ : a2.toInt ≥ 0 := en_k_lt_f c153
        refine At.enter rfl ?_
        refine r_iload_n rfl ?_
        refine r_aload_n rfl ?_
        refine q_getI (Sh.int hI0.1 kx_1 rfl) v140 hv140 ?_
        have bv164 := q_bnd a2
        refine r_ics 12 rfl (fun c163 => ?_) (fun c163 => ?_)
        · have c163_ : a2.toInt ≥ v140.toInt := en_i_ge_t c163
          refine At.enter rfl ?_
          refine r_iconst 0 rfl ?_
          refine Ar.fall 17 rfl ?_
          refine At.enter rfl ?_
          refine q_iretz (by decide) ?_
          refine At.enter rfl ?_
          refine r_iff 22 rfl (by decide) ?_
          refine At.enter rfl ?_
          refine r_aload_n rfl ?_
          refine r_bipush (-2) rfl ?_
          refine r_callV 28 rfl [.ref 0, .int (-2)] [] (Nat.le_of_ble_eq_true rfl) rfl (T_X10_refused_0 _ hI0 (-2) (by decide)) ?_
          rintro _ _ ⟨g165, rfl, hI166, hF167, v168, rfl, hr169⟩
          refine At.sti ?_
          have hF170 := Fr.tr hF0 hF167 rfl rfl
          have zv171 : ((-2) : Int32).toInt = (-2) := rfl
          refine At.enter rfl ?_
          refine r_ireti ?_
          have x172 := HI.eqI hI0 (p := 1) (b := 0) (hv140)
          have x173 := HI.eqI hI0 (p := 1) (b := 0) (hv140)
          exact ⟨_, rfl, hI166, hF170, _, rfl, by omega, ⟨(by omega), (by intro i i0 i1; refine Eq.trans ?_ (if_neg (show ¬ ((0 ≤ a1.toInt ∧ a1.toInt < (gI g0 1 0).toInt ∧ 0 ≤ a2.toInt ∧ a2.toInt < (gI g0 1 0).toInt ∧ a1.toInt ≠ a2.toInt) ∧ i = a1.toInt) from by omega)).symm; refine Eq.trans ?_ (if_neg (show ¬ ((0 ≤ a1.toInt ∧ a1.toInt < (gI g0 1 0).toInt ∧ 0 ≤ a2.toInt ∧ a2.toInt < (gI g0 1 0).toInt ∧ a1.toInt ≠ a2.toInt) ∧ i = a2.toInt) from by omega)).symm; refine (eA_ti ((hF167.2.1 3 (by decide)))).trans ?_; (first | rfl | exact eA_ix (by omega) | omega)), (by intro i i0 i1; refine Eq.trans ?_ (if_neg (show ¬ ((0 ≤ a1.toInt ∧ a1.toInt < (gI g0 1 0).toInt ∧ 0 ≤ a2.toInt ∧ a2.toInt < (gI g0 1 0).toInt ∧ a1.toInt ≠ a2.toInt) ∧ i = a1.toInt) from by omega)).symm; refine Eq.trans ?_ (if_neg (show ¬ ((0 ≤ a1.toInt ∧ a1.toInt < (gI g0 1 0).toInt ∧ 0 ≤ a2.toInt ∧ a2.toInt < (gI g0 1 0).toInt ∧ a1.toInt ≠ a2.toInt) ∧ i = a2.toInt) from by omega)).symm; refine (eA_ti ((hF167.2.1 4 (by decide)))).trans ?_; (first | rfl | exact eA_ix (by omega) | omega))⟩⟩
        · have c163_ : a2.toInt < v140.toInt := en_i_ge_f c163
          refine At.enter rfl ?_
          refine r_iconst 1 rfl ?_
          refine r_goto ?_
          refine At.enter rfl ?_
          refine q_iretz (by decide) ?_
          refine At.enter rfl ?_
          refine r_ift (by decide) ?_
          refine At.enter rfl ?_
          refine r_iload_n rfl ?_
          refine r_iload_n rfl ?_
          refine r_ics 34 rfl (fun c174 => ?_) (fun c174 => ?_)
          · have c174_ : a1.toInt ≠ a2.toInt := en_i_ne_t c174
            refine At.enter rfl ?_
            refine r_aload_n rfl ?_
            refine q_getR (Sh.ref hI0.1 kx_0 rfl) ?_
            refine q_getR (Sh.ref hI0.1 kx_1 rfl) ?_
            refine r_iload_n rfl ?_
            refine r_iload_n rfl ?_
            refine q_inlS 53 rfl [.ref 3, .int a1, .int a2] [] (Nat.le_of_ble_eq_true rfl) rfl ?_
            refine Ev.mk rfl rfl ⟨Nat.le_of_ble_eq_true rfl, Or.inl rfl⟩ ?_
            show At _ none _ _ (0, [(0, .ref 3), (1, .int a1), (2, .int a2)], [], (_, _)) _
            refine At.enter rfl ?_
            refine r_aload_n rfl ?_
            refine r_iload_n rfl ?_
            obtain ⟨v175, hv175⟩ : ∃ v, eA g0 3 a1.toInt = v := ⟨_, rfl⟩
            refine q_iald (Sh.arr hI0.1 ka_3) a1.toInt rfl (by omega) v175 hv175 ?_
            refine r_istore_n ([(3, .int v175), (0, .ref 3), (1, .int a1), (2, .int a2)]) rfl ?_
            refine r_aload_n rfl ?_
            refine r_iload_n rfl ?_
            refine r_aload_n rfl ?_
            refine r_iload_n rfl ?_
            obtain ⟨v176, hv176⟩ : ∃ v, eA g0 3 a2.toInt = v := ⟨_, rfl⟩
            refine q_iald (Sh.arr hI0.1 ka_3) a2.toInt rfl (by omega) v176 hv176 ?_
            refine q_iast (Sh.arr hI0.1 ka_3) (a1.toInt) rfl (by omega) ?_
            have hI177 := HI.wA0 hI0 ka_3 (p := 3) rfl rfl (a1.toInt) (v176)
            have hF178 := Fr.wA (p := 3) (j := a1.toInt) (v := v176) hF0 rfl
            refine r_aload_n rfl ?_
            refine r_iload_n rfl ?_
            refine r_iload_n rfl ?_
            refine q_iast (Sh.arr hI177.1 ka_3) (a2.toInt) rfl (by omega) ?_
            have hI179 := HI.wA0 hI177 ka_3 (p := 3) rfl rfl (a2.toInt) (v175)
            have hF180 := Fr.wA (p := 3) (j := a2.toInt) (v := v175) hF178 rfl
            refine q_vret ?_
            refine At.enter rfl ?_
            refine r_aload_n rfl ?_
            refine q_getR (Sh.ref hI179.1 kx_0 rfl) ?_
            refine q_getR (Sh.ref hI179.1 kx_1 rfl) ?_
            refine r_iload_n rfl ?_
            refine r_iload_n rfl ?_
            refine q_inlS 65 rfl [.ref 4, .int a1, .int a2] [] (Nat.le_of_ble_eq_true rfl) rfl ?_
            refine Ev.mk rfl rfl ⟨Nat.le_of_ble_eq_true rfl, Or.inl rfl⟩ ?_
            show At _ none _ _ (0, [(0, .ref 4), (1, .int a1), (2, .int a2)], [], (_, _)) _
            refine At.enter rfl ?_
            refine r_aload_n rfl ?_
            refine r_iload_n rfl ?_
            obtain ⟨v181, hv181⟩ : ∃ v, eA g0 4 a1.toInt = v := ⟨_, rfl⟩
            refine q_iald (Sh.arr hI179.1 ka_4) a1.toInt rfl (by omega) v181 ((eA_c ((gA_sA_ne (by decide)).trans (gA_sA_ne (by decide)))).trans hv181) ?_
            refine r_istore_n ([(3, .int v181), (0, .ref 4), (1, .int a1), (2, .int a2)]) rfl ?_
            refine r_aload_n rfl ?_
            refine r_iload_n rfl ?_
            refine r_aload_n rfl ?_
            refine r_iload_n rfl ?_
            obtain ⟨v182, hv182⟩ : ∃ v, eA g0 4 a2.toInt = v := ⟨_, rfl⟩
            refine q_iald (Sh.arr hI179.1 ka_4) a2.toInt rfl (by omega) v182 ((eA_c ((gA_sA_ne (by decide)).trans (gA_sA_ne (by decide)))).trans hv182) ?_
            refine q_iast (Sh.arr hI179.1 ka_4) (a1.toInt) rfl (by omega) ?_
            have hI183 := HI.wA0 hI179 ka_4 (p := 4) rfl rfl (a1.toInt) (v182)
            have hF184 := Fr.wA (p := 4) (j := a1.toInt) (v := v182) hF180 rfl
            refine r_aload_n rfl ?_
            refine r_iload_n rfl ?_
            refine r_iload_n rfl ?_
            refine q_iast (Sh.arr hI183.1 ka_4) (a2.toInt) rfl (by omega) ?_
            have hI185 := HI.wA0 hI183 ka_4 (p := 4) rfl rfl (a2.toInt) (v181)
            have hF186 := Fr.wA (p := 4) (j := a2.toInt) (v := v181) hF184 rfl
            refine q_vret ?_
            refine At.enter rfl ?_
            refine r_aload_n rfl ?_
            refine r_callV 69 rfl [.ref 0] [] (Nat.le_of_ble_eq_true rfl) rfl (T_X10_changed_0 _ hI185) ?_
            rintro _ _ ⟨g187, rfl, hI188, hF189, rfl⟩
            refine At.stn ?_
            have hF192 := Fr.tr hF186 hF189 rfl rfl
            refine At.enter rfl ?_
            refine r_aload_n rfl ?_
            refine r_iconst 0 rfl ?_
            refine q_inlV 74 rfl [.ref 0, .int 0] [] (Nat.le_of_ble_eq_true rfl) rfl ?_
            refine Ev.mk rfl rfl ⟨Nat.le_of_ble_eq_true rfl, Or.inr (q_rc hI188.1 kx_0 rfl)⟩ ?_
            show At _ none _ _ (0, [(0, .ref 0), (1, .int 0)], [], (_, _)) _
            refine At.enter rfl ?_
            refine r_aload_n rfl ?_
            refine r_iconst 0 rfl ?_
            refine q_putI (Sh.int hI188.1 kx_0 rfl) rfl ?_
            have hI193 := HI.wI0 hI188 kx_0 rfl (p := 0) (b := 17) (v := 0) rfl
            have hF194 := Fr.wI (p := 0) (b := 17) (v := 0) hF192 rfl
            refine r_iload_n rfl ?_
            refine q_ireti ?_
            refine At.enter rfl ?_
            refine r_ireti ?_
            have zv195 : (0 : Int32).toInt = 0 := rfl
            have x196 := HI.eqI hI0 (p := 1) (b := 0) (hv140)
            have x197 := HI.eqI hI0 (p := 1) (b := 0) (hv140)
            exact ⟨_, rfl, hI193, hF194, _, rfl, by decide, ⟨(by omega), (by intro i i0 i1; exact (Decidable.em ((0 ≤ a1.toInt ∧ a1.toInt < (gI g0 1 0).toInt ∧ 0 ≤ a2.toInt ∧ a2.toInt < (gI g0 1 0).toInt ∧ a1.toInt ≠ a2.toInt) ∧ i = a1.toInt)).elim (fun k19_ => by refine Eq.trans ?_ (if_pos k19_).symm; refine (eA_ti (((gA_sI).trans ((hF189.2.1 3 (by decide)).trans ((gA_sA_ne (by decide)).trans (gA_sA_ne (by decide))))))).trans ?_; exact (Decidable.em (i = a2.toInt)).elim (fun k20_ => by refine (eA_eqT hI177.1 ka_3 k20_ (by first | decide | omega) (by first | decide | omega)).trans ?_; (first | (rfl) | (omega) | (refine (congrArg Int32.toInt hv175).symm.trans ?_; (first | rfl | exact eA_ix (by omega) | omega)))) (fun k20_ => by refine (eA_neT hI177.1 ka_3 k20_ (by first | decide | omega) (by omega)).trans ?_; exact (Decidable.em (i = a1.toInt)).elim (fun k21_ => by refine (eA_eqT hI0.1 ka_3 k21_ (by first | decide | omega) (by first | decide | omega)).trans ?_; (first | (rfl) | (omega) | (refine (congrArg Int32.toInt hv176).symm.trans ?_; (first | rfl | exact eA_ix (by omega) | omega)))) (fun k21_ => by refine (eA_neT hI0.1 ka_3 k21_ (by first | decide | omega) (by omega)).trans ?_; (first | rfl | exact eA_ix (by omega) | omega)))) (fun k19_ => by refine Eq.trans ?_ (if_neg k19_).symm; exact (Decidable.em ((0 ≤ a1.toInt ∧ a1.toInt < (gI g0 1 0).toInt ∧ 0 ≤ a2.toInt ∧ a2.toInt < (gI g0 1 0).toInt ∧ a1.toInt ≠ a2.toInt) ∧ i = a2.toInt)).elim (fun k22_ => by refine Eq.trans ?_ (if_pos k22_).symm; refine (eA_ti (((gA_sI).trans ((hF189.2.1 3 (by decide)).trans ((gA_sA_ne (by decide)).trans (gA_sA_ne (by decide))))))).trans ?_; exact (Decidable.em (i = a2.toInt)).elim (fun k23_ => by refine (eA_eqT hI177.1 ka_3 k23_ (by first | decide | omega) (by first | decide | omega)).trans ?_; (first | (rfl) | (omega) | (refine (congrArg Int32.toInt hv175).symm.trans ?_; (first | rfl | exact eA_ix (by omega) | omega)))) (fun k23_ => by refine (eA_neT hI177.1 ka_3 k23_ (by first | decide | omega) (by omega)).trans ?_; exact (Decidable.em (i = a1.toInt)).elim (fun k24_ => by refine (eA_eqT hI0.1 ka_3 k24_ (by first | decide | omega) (by first | decide | omega)).trans ?_; (first | (rfl) | (omega) | (refine (congrArg Int32.toInt hv176).symm.trans ?_; (first | rfl | exact eA_ix (by omega) | omega)))) (fun k24_ => by refine (eA_neT hI0.1 ka_3 k24_ (by first | decide | omega) (by omega)).trans ?_; (first | rfl | exact eA_ix (by omega) | omega)))) (fun k22_ => by refine Eq.trans ?_ (if_neg k22_).symm; refine (eA_ti (((gA_sI).trans ((hF189.2.1 3 (by decide)).trans ((gA_sA_ne (by decide)).trans (gA_sA_ne (by decide))))))).trans ?_; exact (Decidable.em (i = a2.toInt)).elim (fun k25_ => by refine (eA_eqT hI177.1 ka_3 k25_ (by first | decide | omega) (by first | decide | omega)).trans ?_; (first | (rfl) | (omega) | (refine (congrArg Int32.toInt hv175).symm.trans ?_; (first | rfl | exact eA_ix (by omega) | omega)))) (fun k25_ => by refine (eA_neT hI177.1 ka_3 k25_ (by first | decide | omega) (by omega)).trans ?_; exact (Decidable.em (i = a1.toInt)).elim (fun k26_ => by refine (eA_eqT hI0.1 ka_3 k26_ (by first | decide | omega) (by first | decide | omega)).trans ?_; (first | (rfl) | (omega) | (refine (congrArg Int32.toInt hv176).symm.trans ?_; (first | rfl | exact eA_ix (by omega) | omega)))) (fun k26_ => by refine (eA_neT hI0.1 ka_3 k26_ (by first | decide | omega) (by omega)).trans ?_; (first | rfl | exact eA_ix (by omega) | omega)))))), (by intro i i0 i1; exact (Decidable.em ((0 ≤ a1.toInt ∧ a1.toInt < (gI g0 1 0).toInt ∧ 0 ≤ a2.toInt ∧ a2.toInt < (gI g0 1 0).toInt ∧ a1.toInt ≠ a2.toInt) ∧ i = a1.toInt)).elim (fun k27_ => by refine Eq.trans ?_ (if_pos k27_).symm; refine (eA_ti (((gA_sI).trans (hF189.2.1 4 (by decide))))).trans ?_; exact (Decidable.em (i = a2.toInt)).elim (fun k28_ => by refine (eA_eqT hI183.1 ka_4 k28_ (by first | decide | omega) (by first | decide | omega)).trans ?_; (first | (rfl) | (omega) | (refine (congrArg Int32.toInt hv181).symm.trans ?_; (first | rfl | exact eA_ix (by omega) | omega)))) (fun k28_ => by refine (eA_neT hI183.1 ka_4 k28_ (by first | decide | omega) (by omega)).trans ?_; exact (Decidable.em (i = a1.toInt)).elim (fun k29_ => by refine (eA_eqT hI179.1 ka_4 k29_ (by first | decide | omega) (by first | decide | omega)).trans ?_; (first | (rfl) | (omega) | (refine (congrArg Int32.toInt hv182).symm.trans ?_; (first | rfl | exact eA_ix (by omega) | omega)))) (fun k29_ => by refine (eA_neT hI179.1 ka_4 k29_ (by first | decide | omega) (by omega)).trans ?_; refine (eA_ti (((gA_sA_ne (by decide)).trans (gA_sA_ne (by decide))))).trans ?_; (first | rfl | exact eA_ix (by omega) | omega)))) (fun k27_ => by refine Eq.trans ?_ (if_neg k27_).symm; exact (Decidable.em ((0 ≤ a1.toInt ∧ a1.toInt < (gI g0 1 0).toInt ∧ 0 ≤ a2.toInt ∧ a2.toInt < (gI g0 1 0).toInt ∧ a1.toInt ≠ a2.toInt) ∧ i = a2.toInt)).elim (fun k30_ => by refine Eq.trans ?_ (if_pos k30_).symm; refine (eA_ti (((gA_sI).trans (hF189.2.1 4 (by decide))))).trans ?_; exact (Decidable.em (i = a2.toInt)).elim (fun k31_ => by refine (eA_eqT hI183.1 ka_4 k31_ (by first | decide | omega) (by first | decide | omega)).trans ?_; (first | (rfl) | (omega) | (refine (congrArg Int32.toInt hv181).symm.trans ?_; (first | rfl | exact eA_ix (by omega) | omega)))) (fun k31_ => by refine (eA_neT hI183.1 ka_4 k31_ (by first | decide | omega) (by omega)).trans ?_; exact (Decidable.em (i = a1.toInt)).elim (fun k32_ => by refine (eA_eqT hI179.1 ka_4 k32_ (by first | decide | omega) (by first | decide | omega)).trans ?_; (first | (rfl) | (omega) | (refine (congrArg Int32.toInt hv182).symm.trans ?_; (first | rfl | exact eA_ix (by omega) | omega)))) (fun k32_ => by refine (eA_neT hI179.1 ka_4 k32_ (by first | decide | omega) (by omega)).trans ?_; refine (eA_ti (((gA_sA_ne (by decide)).trans (gA_sA_ne (by decide))))).trans ?_; (first | rfl | exact eA_ix (by omega) | omega)))) (fun k30_ => by refine Eq.trans ?_ (if_neg k30_).symm; refine (eA_ti (((gA_sI).trans (hF189.2.1 4 (by decide))))).trans ?_; exact (Decidable.em (i = a2.toInt)).elim (fun k33_ => by refine (eA_eqT hI183.1 ka_4 k33_ (by first | decide | omega) (by first | decide | omega)).trans ?_; (first | (rfl) | (omega) | (refine (congrArg Int32.toInt hv181).symm.trans ?_; (first | rfl | exact eA_ix (by omega) | omega)))) (fun k33_ => by refine (eA_neT hI183.1 ka_4 k33_ (by first | decide | omega) (by omega)).trans ?_; exact (Decidable.em (i = a1.toInt)).elim (fun k34_ => by refine (eA_eqT hI179.1 ka_4 k34_ (by first | decide | omega) (by first | decide | omega)).trans ?_; (first | (rfl) | (omega) | (refine (congrArg Int32.toInt hv182).symm.trans ?_; (first | rfl | exact eA_ix (by omega) | omega)))) (fun k34_ => by refine (eA_neT hI179.1 ka_4 k34_ (by first | decide | omega) (by omega)).trans ?_; refine (eA_ti (((gA_sA_ne (by decide)).trans (gA_sA_ne (by decide))))).trans ?_; (first | rfl | exact eA_ix (by omega) | omega))))))⟩⟩
          · have c174_ : a1.toInt = a2.toInt := en_i_ne_f c174
            refine At.enter rfl ?_
            refine r_aload_n rfl ?_
            refine r_bipush (-3) rfl ?_
            refine r_callV 40 rfl [.ref 0, .int (-3)] [] (Nat.le_of_ble_eq_true rfl) rfl (T_X10_refused_0 _ hI0 (-3) (by decide)) ?_
            rintro _ _ ⟨g198, rfl, hI199, hF200, v201, rfl, hr202⟩
            refine At.sti ?_
            have hF203 := Fr.tr hF0 hF200 rfl rfl
            have zv204 : ((-3) : Int32).toInt = (-3) := rfl
            refine At.enter rfl ?_
            refine r_ireti ?_
            have x205 := HI.eqI hI0 (p := 1) (b := 0) (hv140)
            have x206 := HI.eqI hI0 (p := 1) (b := 0) (hv140)
            exact ⟨_, rfl, hI199, hF203, _, rfl, by omega, ⟨(by omega), (by intro i i0 i1; refine Eq.trans ?_ (if_neg (show ¬ ((0 ≤ a1.toInt ∧ a1.toInt < (gI g0 1 0).toInt ∧ 0 ≤ a2.toInt ∧ a2.toInt < (gI g0 1 0).toInt ∧ a1.toInt ≠ a2.toInt) ∧ i = a1.toInt) from by omega)).symm; refine Eq.trans ?_ (if_neg (show ¬ ((0 ≤ a1.toInt ∧ a1.toInt < (gI g0 1 0).toInt ∧ 0 ≤ a2.toInt ∧ a2.toInt < (gI g0 1 0).toInt ∧ a1.toInt ≠ a2.toInt) ∧ i = a2.toInt) from by omega)).symm; refine (eA_ti ((hF200.2.1 3 (by decide)))).trans ?_; (first | rfl | exact eA_ix (by omega) | omega)), (by intro i i0 i1; refine Eq.trans ?_ (if_neg (show ¬ ((0 ≤ a1.toInt ∧ a1.toInt < (gI g0 1 0).toInt ∧ 0 ≤ a2.toInt ∧ a2.toInt < (gI g0 1 0).toInt ∧ a1.toInt ≠ a2.toInt) ∧ i = a1.toInt) from by omega)).symm; refine Eq.trans ?_ (if_neg (show ¬ ((0 ≤ a1.toInt ∧ a1.toInt < (gI g0 1 0).toInt ∧ 0 ≤ a2.toInt ∧ a2.toInt < (gI g0 1 0).toInt ∧ a1.toInt ≠ a2.toInt) ∧ i = a2.toInt) from by omega)).symm; refine (eA_ti ((hF200.2.1 4 (by decide)))).trans ?_; (first | rfl | exact eA_ix (by omega) | omega))⟩⟩

def F_X10_home_0 : List (Nat × Nat) := [(185, 3), (204, 16), (204, 18), (222, 2), (222, 3), (222, 4), (222, 5)]
def A_X10_home_0 : List Nat := [205, 206, 207, 208, 209, 210, 211, 212, 213, 214, 215, 216, 218]
set_option maxRecDepth 100000 in
set_option maxHeartbeats 4000000 in
theorem T_X10_home_0 (d : Nat) {N : Nat} {g0 : List en_E} (hI0 : HI g0) (a1 : Int32) : Ev (d + 8) 126 [.ref 0, .int a1] (g0, N) (fun w h' => ∃ g', h' = (g', N) ∧ HI g' ∧ Fr F_X10_home_0 A_X10_home_0 g0 g' ∧ ∃ r : Int32, w = some (.int r) ∧ True) := by
  have hF0 : Fr F_X10_home_0 A_X10_home_0 g0 g0 := Fr.rf
  refine Ev.mk rfl rfl ⟨Nat.le_of_ble_eq_true rfl, Or.inr (q_rc hI0.1 kx_0 rfl)⟩ ?_
  show At _ none _ _ (0, [(0, .ref 0), (1, .int a1)], [], (_, _)) _
  refine At.enter rfl ?_
  refine r_iload_n rfl ?_
  refine r_iconst 0 rfl ?_
  refine r_iconst 2 rfl ?_
  refine q_inlS 6 rfl [.int a1, .int 0, .int 2] [] (Nat.le_of_ble_eq_true rfl) rfl ?_
  refine Ev.mk rfl rfl ⟨Nat.le_of_ble_eq_true rfl, Or.inl rfl⟩ ?_
  show At _ none _ _ (0, [(0, .int a1), (1, .int 0), (2, .int 2)], [], (_, _)) _
  refine At.enter rfl ?_
  refine r_iload_n rfl ?_
  refine r_iload_n rfl ?_
  refine r_ics 5 rfl (fun c17 => ?_) (fun c17 => ?_)
  · have c17_ : a1.toInt < 0 := en_i_lt_t c17
    refine At.enter rfl ?_
    refine r_iconst 0 rfl ?_
    refine Ar.fall 15 rfl ?_
    refine At.enter rfl ?_
    refine q_iretz (by decide) ?_
    refine At.enter rfl ?_
    refine r_ift (by decide) ?_
    refine At.enter rfl ?_
    refine r_iconst (-1) rfl ?_
    refine Ar.fall 21 rfl ?_
    refine At.enter rfl ?_
    refine r_ireti ?_
    exact ⟨_, rfl, hI0, hF0, _, rfl, trivial⟩
  · have c17_ : a1.toInt ≥ 0 := en_i_lt_f c17
    refine At.enter rfl ?_
    refine r_iload_n rfl ?_
    refine r_iload_n rfl ?_
    refine r_ics 10 rfl (fun c18 => ?_) (fun c18 => ?_)
    · have c18_ : a1.toInt > 2 := en_i_gt_t c18
      refine At.enter rfl ?_
      refine r_iconst 0 rfl ?_
      refine Ar.fall 15 rfl ?_
      refine At.enter rfl ?_
      refine q_iretz (by decide) ?_
      refine At.enter rfl ?_
      refine r_ift (by decide) ?_
      refine At.enter rfl ?_
      refine r_iconst (-1) rfl ?_
      refine Ar.fall 21 rfl ?_
      refine At.enter rfl ?_
      refine r_ireti ?_
      exact ⟨_, rfl, hI0, hF0, _, rfl, trivial⟩
    · have c18_ : a1.toInt ≤ 2 := en_i_gt_f c18
      refine At.enter rfl ?_
      refine r_iconst 1 rfl ?_
      refine r_goto ?_
      refine At.enter rfl ?_
      refine q_iretz (by decide) ?_
      refine At.enter rfl ?_
      refine r_iff 9 rfl (by decide) ?_
      refine At.enter rfl ?_
      refine r_aload_n rfl ?_
      refine q_getR (Sh.ref hI0.1 kx_0 rfl) ?_
      refine r_iload_n rfl ?_
      refine r_callV 17 rfl [.ref 222, .int a1] [] (Nat.le_of_ble_eq_true rfl) rfl (T_X6_told_222 _ hI0 a1) ?_
      rintro _ _ ⟨g19, rfl, hI20, hF21, v22, rfl, hr23⟩
      refine At.sti ?_
      have hF24 := Fr.tr hF0 hF21 rfl rfl
      refine At.enter rfl ?_
      refine r_goto ?_
      refine At.enter rfl ?_
      refine r_ireti ?_
      exact ⟨_, rfl, hI20, hF24, _, rfl, trivial⟩

def F_X10_cost_0 : List (Nat × Nat) := [(185, 3), (223, 5), (223, 6)]
def A_X10_cost_0 : List Nat := [224, 226]
set_option maxRecDepth 100000 in
set_option maxHeartbeats 4000000 in
theorem T_X10_cost_0 (d : Nat) {N : Nat} {g0 : List en_E} (hI0 : HI g0) (a1 : Int32) : Ev (d + 7) 127 [.ref 0, .int a1] (g0, N) (fun w h' => ∃ g', h' = (g', N) ∧ HI g' ∧ Fr F_X10_cost_0 A_X10_cost_0 g0 g' ∧ ∃ r : Int32, w = some (.int r) ∧ True) := by
  have hF0 : Fr F_X10_cost_0 A_X10_cost_0 g0 g0 := Fr.rf
  refine Ev.mk rfl rfl ⟨Nat.le_of_ble_eq_true rfl, Or.inr (q_rc hI0.1 kx_0 rfl)⟩ ?_
  show At _ none _ _ (0, [(0, .ref 0), (1, .int a1)], [], (_, _)) _
  refine At.enter rfl ?_
  refine r_aload_n rfl ?_
  refine q_getR (Sh.ref hI0.1 kx_0 rfl) ?_
  refine r_iload_n rfl ?_
  refine q_inlV 8 rfl [.ref 1, .int a1] [] (Nat.le_of_ble_eq_true rfl) rfl ?_
  refine Ev.mk rfl rfl ⟨Nat.le_of_ble_eq_true rfl, Or.inr (q_rc hI0.1 kx_1 rfl)⟩ ?_
  show At _ none _ _ (0, [(0, .ref 1), (1, .int a1)], [], (_, _)) _
  refine At.enter rfl ?_
  refine r_iload_n rfl ?_
  refine r_ifs 4 rfl (fun c23 => ?_) (fun c23 => ?_)
  · have c23_ : a1.toInt < 0 := en_k_lt_t c23
    refine At.enter rfl ?_
    refine r_iconst 0 rfl ?_
    refine Ar.fall 17 rfl ?_
    refine At.enter rfl ?_
    refine q_iretz (by decide) ?_
    refine At.enter rfl ?_
    refine r_ift (by decide) ?_
    refine At.enter rfl ?_
    refine r_iconst (-1) rfl ?_
    refine Ar.fall 23 rfl ?_
    refine At.enter rfl ?_
    refine r_ireti ?_
    exact ⟨_, rfl, hI0, hF0, _, rfl, trivial⟩
  · have c23_ : a1.toInt ≥ 0 := en_k_lt_f c23
    refine At.enter rfl ?_
    refine r_iload_n rfl ?_
    refine r_aload_n rfl ?_
    obtain ⟨v24, hv24⟩ : ∃ v, gI g0 1 4 = v := ⟨_, rfl⟩
    have rv24 := RgF.at hI0.2.1 (p := 1) (b := 4) rfl
    rw [hv24] at rv24
    dsimp only at rv24
    refine q_getI (Sh.int hI0.1 kx_1 rfl) v24 hv24 ?_
    have bv26 := q_bnd a1
    have bv27 := q_bnd v24
    refine r_ics 12 rfl (fun c25 => ?_) (fun c25 => ?_)
    · have c25_ : a1.toInt ≥ v24.toInt := en_i_ge_t c25
      refine At.enter rfl ?_
      refine r_iconst 0 rfl ?_
      refine Ar.fall 17 rfl ?_
      refine At.enter rfl ?_
      refine q_iretz (by decide) ?_
      refine At.enter rfl ?_
      refine r_ift (by decide) ?_
      refine At.enter rfl ?_
      refine r_iconst (-1) rfl ?_
      refine Ar.fall 23 rfl ?_
      refine At.enter rfl ?_
      refine r_ireti ?_
      exact ⟨_, rfl, hI0, hF0, _, rfl, trivial⟩
    · have c25_ : a1.toInt < v24.toInt := en_i_ge_f c25
      refine At.enter rfl ?_
      refine r_iconst 1 rfl ?_
      refine r_goto ?_
      refine At.enter rfl ?_
      refine q_iretz (by decide) ?_
      refine At.enter rfl ?_
      refine r_iff 11 rfl (by decide) ?_
      refine At.enter rfl ?_
      refine r_aload_n rfl ?_
      refine q_getR (Sh.ref hI0.1 kx_0 rfl) ?_
      refine r_iload_n rfl ?_
      refine r_callV 19 rfl [.ref 223, .int a1] [] (Nat.le_of_ble_eq_true rfl) rfl (T_X2_costOf_223 _ hI0 a1) ?_
      rintro _ _ ⟨g28, rfl, hI29, hF30, v31, rfl, hr32⟩
      refine At.sti ?_
      have hF33 := Fr.tr hF0 hF30 rfl rfl
      refine At.enter rfl ?_
      refine r_goto ?_
      refine At.enter rfl ?_
      refine r_ireti ?_
      exact ⟨_, rfl, hI29, hF33, _, rfl, trivial⟩

def F_X10_sent_0 : List (Nat × Nat) := [(185, 3), (223, 5), (223, 6)]
def A_X10_sent_0 : List Nat := [224, 226]
set_option maxRecDepth 100000 in
set_option maxHeartbeats 4000000 in
theorem T_X10_sent_0 (d : Nat) {N : Nat} {g0 : List en_E} (hI0 : HI g0) (a1 : Int32) : Ev (d + 7) 128 [.ref 0, .int a1] (g0, N) (fun w h' => ∃ g', h' = (g', N) ∧ HI g' ∧ Fr F_X10_sent_0 A_X10_sent_0 g0 g' ∧ ∃ r : Int32, w = some (.int r) ∧ ((-1) ≤ r.toInt ∧ r.toInt ≤ 1)) := by
  have hF0 : Fr F_X10_sent_0 A_X10_sent_0 g0 g0 := Fr.rf
  refine Ev.mk rfl rfl ⟨Nat.le_of_ble_eq_true rfl, Or.inr (q_rc hI0.1 kx_0 rfl)⟩ ?_
  show At _ none _ _ (0, [(0, .ref 0), (1, .int a1)], [], (_, _)) _
  refine At.enter rfl ?_
  refine r_aload_n rfl ?_
  refine q_getR (Sh.ref hI0.1 kx_0 rfl) ?_
  refine r_iload_n rfl ?_
  refine q_inlV 8 rfl [.ref 1, .int a1] [] (Nat.le_of_ble_eq_true rfl) rfl ?_
  refine Ev.mk rfl rfl ⟨Nat.le_of_ble_eq_true rfl, Or.inr (q_rc hI0.1 kx_1 rfl)⟩ ?_
  show At _ none _ _ (0, [(0, .ref 1), (1, .int a1)], [], (_, _)) _
  refine At.enter rfl ?_
  refine r_iload_n rfl ?_
  refine r_ifs 4 rfl (fun c43 => ?_) (fun c43 => ?_)
  · have c43_ : a1.toInt < 0 := en_k_lt_t c43
    refine At.enter rfl ?_
    refine r_iconst 0 rfl ?_
    refine Ar.fall 17 rfl ?_
    refine At.enter rfl ?_
    refine q_iretz (by decide) ?_
    refine At.enter rfl ?_
    refine r_iff 11 rfl (by decide) ?_
    refine At.enter rfl ?_
    refine r_iconst (-1) rfl ?_
    refine r_ireti ?_
    exact ⟨_, rfl, hI0, hF0, _, rfl, by decide⟩
  · have c43_ : a1.toInt ≥ 0 := en_k_lt_f c43
    refine At.enter rfl ?_
    refine r_iload_n rfl ?_
    refine r_aload_n rfl ?_
    obtain ⟨v44, hv44⟩ : ∃ v, gI g0 1 4 = v := ⟨_, rfl⟩
    have rv44 := RgF.at hI0.2.1 (p := 1) (b := 4) rfl
    rw [hv44] at rv44
    dsimp only at rv44
    refine q_getI (Sh.int hI0.1 kx_1 rfl) v44 hv44 ?_
    have bv46 := q_bnd a1
    have bv47 := q_bnd v44
    refine r_ics 12 rfl (fun c45 => ?_) (fun c45 => ?_)
    · have c45_ : a1.toInt ≥ v44.toInt := en_i_ge_t c45
      refine At.enter rfl ?_
      refine r_iconst 0 rfl ?_
      refine Ar.fall 17 rfl ?_
      refine At.enter rfl ?_
      refine q_iretz (by decide) ?_
      refine At.enter rfl ?_
      refine r_iff 11 rfl (by decide) ?_
      refine At.enter rfl ?_
      refine r_iconst (-1) rfl ?_
      refine r_ireti ?_
      exact ⟨_, rfl, hI0, hF0, _, rfl, by decide⟩
    · have c45_ : a1.toInt < v44.toInt := en_i_ge_f c45
      refine At.enter rfl ?_
      refine r_iconst 1 rfl ?_
      refine r_goto ?_
      refine At.enter rfl ?_
      refine q_iretz (by decide) ?_
      refine At.enter rfl ?_
      refine r_ift (by decide) ?_
      refine At.enter rfl ?_
      refine r_aload_n rfl ?_
      refine q_getR (Sh.ref hI0.1 kx_0 rfl) ?_
      refine r_iload_n rfl ?_
      refine r_callV 21 rfl [.ref 223, .int a1] [] (Nat.le_of_ble_eq_true rfl) rfl (T_X2_costOf_223 _ hI0 a1) ?_
      rintro _ _ ⟨g48, rfl, hI49, hF50, v51, rfl, hr52⟩
      refine At.sti ?_
      have hF53 := Fr.tr hF0 hF50 rfl rfl
      refine At.enter rfl ?_
      refine r_istore_n ([(2, .int v51), (0, .ref 0), (1, .int a1)]) rfl ?_
      refine r_iload_n rfl ?_
      refine r_iconst (-1) rfl ?_
      refine r_ics 27 rfl (fun c54 => ?_) (fun c54 => ?_)
      · have c54_ : v51.toInt = (-1) := en_i_eq_t c54
        refine At.enter rfl ?_
        refine r_iconst 0 rfl ?_
        refine Ar.fall 45 rfl ?_
        refine At.enter rfl ?_
        refine r_ireti ?_
        exact ⟨_, rfl, hI49, hF53, _, rfl, by decide⟩
      · have c54_ : v51.toInt ≠ (-1) := en_i_eq_f c54
        refine At.enter rfl ?_
        refine r_iload_n rfl ?_
        refine r_aload_n rfl ?_
        refine q_getR (Sh.ref hI49.1 kx_0 rfl) ?_
        refine r_iload_n rfl ?_
        refine r_iconst 5 rfl ?_
        refine r_callV 37 rfl [.ref 1, .int a1, .int 5] [.int v51] (Nat.le_of_ble_eq_true rfl) rfl (T_X0_about_1 _ hI49 a1 5) ?_
        rintro _ _ ⟨g55, rfl, hI56, hF57, v58, rfl, hr59⟩
        refine At.sti ?_
        have hF60 := Fr.tr hF53 hF57 rfl rfl
        refine At.enter rfl ?_
        have bv62 := q_bnd v51
        have bv63 := q_bnd v58
        refine r_ics 40 rfl (fun c61 => ?_) (fun c61 => ?_)
        · have c61_ : v51.toInt > v58.toInt := en_i_gt_t c61
          refine At.enter rfl ?_
          refine r_iconst 0 rfl ?_
          refine Ar.fall 45 rfl ?_
          refine At.enter rfl ?_
          refine r_ireti ?_
          exact ⟨_, rfl, hI56, hF60, _, rfl, by decide⟩
        · have c61_ : v51.toInt ≤ v58.toInt := en_i_gt_f c61
          refine At.enter rfl ?_
          refine r_iconst 1 rfl ?_
          refine r_goto ?_
          refine At.enter rfl ?_
          refine r_ireti ?_
          exact ⟨_, rfl, hI56, hF60, _, rfl, by decide⟩

def F_X10_income_0 : List (Nat × Nat) := [(185, 3), (223, 5), (223, 6), (223, 7), (223, 8), (223, 9)]
def A_X10_income_0 : List Nat := [224, 225, 226]
set_option maxRecDepth 100000 in
set_option maxHeartbeats 4000000 in
theorem T_X10_income_0 (d : Nat) {N : Nat} {g0 : List en_E} (hI0 : HI g0) (a1 : Int32) : Ev (d + 8) 129 [.ref 0, .int a1] (g0, N) (fun w h' => ∃ g', h' = (g', N) ∧ HI g' ∧ Fr F_X10_income_0 A_X10_income_0 g0 g' ∧ ∃ r : Int32, w = some (.int r) ∧ True) := by
  have hF0 : Fr F_X10_income_0 A_X10_income_0 g0 g0 := Fr.rf
  refine Ev.mk rfl rfl ⟨Nat.le_of_ble_eq_true rfl, Or.inr (q_rc hI0.1 kx_0 rfl)⟩ ?_
  show At _ none _ _ (0, [(0, .ref 0), (1, .int a1)], [], (_, _)) _
  refine At.enter rfl ?_
  refine r_aload_n rfl ?_
  refine q_getR (Sh.ref hI0.1 kx_0 rfl) ?_
  refine r_iload_n rfl ?_
  refine q_inlV 8 rfl [.ref 1, .int a1] [] (Nat.le_of_ble_eq_true rfl) rfl ?_
  refine Ev.mk rfl rfl ⟨Nat.le_of_ble_eq_true rfl, Or.inr (q_rc hI0.1 kx_1 rfl)⟩ ?_
  show At _ none _ _ (0, [(0, .ref 1), (1, .int a1)], [], (_, _)) _
  refine At.enter rfl ?_
  refine r_iload_n rfl ?_
  refine r_ifs 4 rfl (fun c23 => ?_) (fun c23 => ?_)
  · have c23_ : a1.toInt < 0 := en_k_lt_t c23
    refine At.enter rfl ?_
    refine r_iconst 0 rfl ?_
    refine Ar.fall 17 rfl ?_
    refine At.enter rfl ?_
    refine q_iretz (by decide) ?_
    refine At.enter rfl ?_
    refine r_ift (by decide) ?_
    refine At.enter rfl ?_
    refine r_iconst (-1) rfl ?_
    refine Ar.fall 23 rfl ?_
    refine At.enter rfl ?_
    refine r_ireti ?_
    exact ⟨_, rfl, hI0, hF0, _, rfl, trivial⟩
  · have c23_ : a1.toInt ≥ 0 := en_k_lt_f c23
    refine At.enter rfl ?_
    refine r_iload_n rfl ?_
    refine r_aload_n rfl ?_
    obtain ⟨v24, hv24⟩ : ∃ v, gI g0 1 0 = v := ⟨_, rfl⟩
    have rv24 := RgF.at hI0.2.1 (p := 1) (b := 0) rfl
    rw [hv24] at rv24
    dsimp only at rv24
    refine q_getI (Sh.int hI0.1 kx_1 rfl) v24 hv24 ?_
    have bv26 := q_bnd a1
    have bv27 := q_bnd v24
    refine r_ics 12 rfl (fun c25 => ?_) (fun c25 => ?_)
    · have c25_ : a1.toInt ≥ v24.toInt := en_i_ge_t c25
      refine At.enter rfl ?_
      refine r_iconst 0 rfl ?_
      refine Ar.fall 17 rfl ?_
      refine At.enter rfl ?_
      refine q_iretz (by decide) ?_
      refine At.enter rfl ?_
      refine r_ift (by decide) ?_
      refine At.enter rfl ?_
      refine r_iconst (-1) rfl ?_
      refine Ar.fall 23 rfl ?_
      refine At.enter rfl ?_
      refine r_ireti ?_
      exact ⟨_, rfl, hI0, hF0, _, rfl, trivial⟩
    · have c25_ : a1.toInt < v24.toInt := en_i_ge_f c25
      refine At.enter rfl ?_
      refine r_iconst 1 rfl ?_
      refine r_goto ?_
      refine At.enter rfl ?_
      refine q_iretz (by decide) ?_
      refine At.enter rfl ?_
      refine r_iff 11 rfl (by decide) ?_
      refine At.enter rfl ?_
      refine r_aload_n rfl ?_
      refine q_getR (Sh.ref hI0.1 kx_0 rfl) ?_
      refine r_iload_n rfl ?_
      refine r_callV 19 rfl [.ref 223, .int a1] [] (Nat.le_of_ble_eq_true rfl) rfl (T_X2_incomeOf_223 _ hI0 a1 (by omega)) ?_
      rintro _ _ ⟨g28, rfl, hI29, hF30, v31, rfl, hr32⟩
      refine At.sti ?_
      have hF33 := Fr.tr hF0 hF30 rfl rfl
      refine At.enter rfl ?_
      refine r_goto ?_
      refine At.enter rfl ?_
      refine r_ireti ?_
      exact ⟨_, rfl, hI29, hF33, _, rfl, trivial⟩

def F_X10_answer_0 : List (Nat × Nat) := [(185, 3), (223, 5), (223, 6), (223, 7), (223, 8), (223, 9)]
def A_X10_answer_0 : List Nat := [224, 225, 226]
set_option maxRecDepth 100000 in
set_option maxHeartbeats 4000000 in
theorem T_X10_answer_0 (d : Nat) {N : Nat} {g0 : List en_E} (hI0 : HI g0) (a1 : Int32) (a2 : Int32) : Ev (d + 8) 130 [.ref 0, .int a1, .int a2] (g0, N) (fun w h' => ∃ g', h' = (g', N) ∧ HI g' ∧ Fr F_X10_answer_0 A_X10_answer_0 g0 g' ∧ ∃ r : Int32, w = some (.int r) ∧ True) := by
  have hF0 : Fr F_X10_answer_0 A_X10_answer_0 g0 g0 := Fr.rf
  refine Ev.mk rfl rfl ⟨Nat.le_of_ble_eq_true rfl, Or.inr (q_rc hI0.1 kx_0 rfl)⟩ ?_
  show At _ none _ _ (0, [(0, .ref 0), (1, .int a1), (2, .int a2)], [], (_, _)) _
  refine At.enter rfl ?_
  refine r_aload_n rfl ?_
  refine q_getR (Sh.ref hI0.1 kx_0 rfl) ?_
  refine r_iload_n rfl ?_
  refine q_inlV 8 rfl [.ref 1, .int a1] [] (Nat.le_of_ble_eq_true rfl) rfl ?_
  refine Ev.mk rfl rfl ⟨Nat.le_of_ble_eq_true rfl, Or.inr (q_rc hI0.1 kx_1 rfl)⟩ ?_
  show At _ none _ _ (0, [(0, .ref 1), (1, .int a1)], [], (_, _)) _
  refine At.enter rfl ?_
  refine r_iload_n rfl ?_
  refine r_ifs 4 rfl (fun c27 => ?_) (fun c27 => ?_)
  · have c27_ : a1.toInt < 0 := en_k_lt_t c27
    refine At.enter rfl ?_
    refine r_iconst 0 rfl ?_
    refine Ar.fall 17 rfl ?_
    refine At.enter rfl ?_
    refine q_iretz (by decide) ?_
    refine At.enter rfl ?_
    refine r_ift (by decide) ?_
    refine At.enter rfl ?_
    refine r_iconst (-1) rfl ?_
    refine Ar.fall 33 rfl ?_
    refine At.enter rfl ?_
    refine r_ireti ?_
    exact ⟨_, rfl, hI0, hF0, _, rfl, trivial⟩
  · have c27_ : a1.toInt ≥ 0 := en_k_lt_f c27
    refine At.enter rfl ?_
    refine r_iload_n rfl ?_
    refine r_aload_n rfl ?_
    obtain ⟨v28, hv28⟩ : ∃ v, gI g0 1 0 = v := ⟨_, rfl⟩
    have rv28 := RgF.at hI0.2.1 (p := 1) (b := 0) rfl
    rw [hv28] at rv28
    dsimp only at rv28
    refine q_getI (Sh.int hI0.1 kx_1 rfl) v28 hv28 ?_
    have bv30 := q_bnd a1
    have bv31 := q_bnd v28
    refine r_ics 12 rfl (fun c29 => ?_) (fun c29 => ?_)
    · have c29_ : a1.toInt ≥ v28.toInt := en_i_ge_t c29
      refine At.enter rfl ?_
      refine r_iconst 0 rfl ?_
      refine Ar.fall 17 rfl ?_
      refine At.enter rfl ?_
      refine q_iretz (by decide) ?_
      refine At.enter rfl ?_
      refine r_ift (by decide) ?_
      refine At.enter rfl ?_
      refine r_iconst (-1) rfl ?_
      refine Ar.fall 33 rfl ?_
      refine At.enter rfl ?_
      refine r_ireti ?_
      exact ⟨_, rfl, hI0, hF0, _, rfl, trivial⟩
    · have c29_ : a1.toInt < v28.toInt := en_i_ge_f c29
      refine At.enter rfl ?_
      refine r_iconst 1 rfl ?_
      refine r_goto ?_
      refine At.enter rfl ?_
      refine q_iretz (by decide) ?_
      refine At.enter rfl ?_
      refine r_iff 11 rfl (by decide) ?_
      refine At.enter rfl ?_
      refine r_iload_n rfl ?_
      refine r_iconst 0 rfl ?_
      refine r_iconst 1 rfl ?_
      refine q_inlS 17 rfl [.int a2, .int 0, .int 1] [] (Nat.le_of_ble_eq_true rfl) rfl ?_
      refine Ev.mk rfl rfl ⟨Nat.le_of_ble_eq_true rfl, Or.inl rfl⟩ ?_
      show At _ none _ _ (0, [(0, .int a2), (1, .int 0), (2, .int 1)], [], (_, _)) _
      refine At.enter rfl ?_
      refine r_iload_n rfl ?_
      refine r_iload_n rfl ?_
      refine r_ics 5 rfl (fun c32 => ?_) (fun c32 => ?_)
      · have c32_ : a2.toInt < 0 := en_i_lt_t c32
        refine At.enter rfl ?_
        refine r_iconst 0 rfl ?_
        refine Ar.fall 15 rfl ?_
        refine At.enter rfl ?_
        refine q_iretz (by decide) ?_
        refine At.enter rfl ?_
        refine r_ift (by decide) ?_
        refine At.enter rfl ?_
        refine r_iconst (-1) rfl ?_
        refine Ar.fall 33 rfl ?_
        refine At.enter rfl ?_
        refine r_ireti ?_
        exact ⟨_, rfl, hI0, hF0, _, rfl, trivial⟩
      · have c32_ : a2.toInt ≥ 0 := en_i_lt_f c32
        refine At.enter rfl ?_
        refine r_iload_n rfl ?_
        refine r_iload_n rfl ?_
        refine r_ics 10 rfl (fun c33 => ?_) (fun c33 => ?_)
        · have c33_ : a2.toInt > 1 := en_i_gt_t c33
          refine At.enter rfl ?_
          refine r_iconst 0 rfl ?_
          refine Ar.fall 15 rfl ?_
          refine At.enter rfl ?_
          refine q_iretz (by decide) ?_
          refine At.enter rfl ?_
          refine r_ift (by decide) ?_
          refine At.enter rfl ?_
          refine r_iconst (-1) rfl ?_
          refine Ar.fall 33 rfl ?_
          refine At.enter rfl ?_
          refine r_ireti ?_
          exact ⟨_, rfl, hI0, hF0, _, rfl, trivial⟩
        · have c33_ : a2.toInt ≤ 1 := en_i_gt_f c33
          refine At.enter rfl ?_
          refine r_iconst 1 rfl ?_
          refine r_goto ?_
          refine At.enter rfl ?_
          refine q_iretz (by decide) ?_
          refine At.enter rfl ?_
          refine r_iff 20 rfl (by decide) ?_
          refine At.enter rfl ?_
          refine r_aload_n rfl ?_
          refine q_getR (Sh.ref hI0.1 kx_0 rfl) ?_
          refine r_iload_n rfl ?_
          refine r_iload_n rfl ?_
          refine r_callV 29 rfl [.ref 223, .int a1, .int a2] [] (Nat.le_of_ble_eq_true rfl) rfl (T_X2_answerOf_223 _ hI0 a1 (by omega) a2) ?_
          rintro _ _ ⟨g34, rfl, hI35, hF36, v37, rfl, hr38⟩
          refine At.sti ?_
          have hF39 := Fr.tr hF0 hF36 rfl rfl
          refine At.enter rfl ?_
          refine r_goto ?_
          refine At.enter rfl ?_
          refine r_ireti ?_
          exact ⟨_, rfl, hI35, hF39, _, rfl, trivial⟩
