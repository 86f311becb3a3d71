def F_X10_choke_0 : List (Nat × Nat) := [(0, 14), (185, 3), (188, 16), (188, 18)]
def A_X10_choke_0 : List Nat := [189, 190, 191, 192, 193, 194, 195, 196, 197, 198, 199, 200, 202, 203]
set_option maxRecDepth 100000 in
set_option maxHeartbeats 4000000 in
theorem T_X10_choke_0 (d : Nat) {N : Nat} {g0 : List en_E} (hI0 : HI g0) : Ev (d + 7) 123 [.ref 0] (g0, N) (fun w h' => ∃ g', h' = (g', N) ∧ HI g' ∧ Fr F_X10_choke_0 A_X10_choke_0 g0 g' ∧ ∃ r : Int32, w = some (.int r) ∧ True) := by
  have hF0 : Fr F_X10_choke_0 A_X10_choke_0 g0 g0 := Fr.rf
  refine Ev.mk rfl rfl ⟨Nat.le_of_ble_eq_true rfl, Or.inr (q_rc hI0.1 kx_0 rfl)⟩ ?_
  show At _ none _ _ (0, [(0, .ref 0)], [], (_, _)) _
  refine At.enter rfl ?_
  refine r_aload_n rfl ?_
  refine q_inlV 4 rfl [.ref 0] [] (Nat.le_of_ble_eq_true rfl) rfl ?_
  refine Ev.mk rfl rfl ⟨Nat.le_of_ble_eq_true rfl, Or.inr (q_rc hI0.1 kx_0 rfl)⟩ ?_
  show At _ none _ _ (0, [(0, .ref 0)], [], (_, _)) _
  refine At.enter rfl ?_
  refine r_aload_n rfl ?_
  obtain ⟨v57, hv57⟩ : ∃ v, gI g0 0 14 = v := ⟨_, rfl⟩
  refine q_getI (Sh.int hI0.1 kx_0 rfl) v57 hv57 ?_
  refine r_ifs 7 rfl (fun c58 => ?_) (fun c58 => ?_)
  · have c58_ : v57.toInt ≠ 0 := en_k_ne_t c58
    refine At.enter rfl ?_
    refine r_aload_n rfl ?_
    refine q_getR (Sh.ref hI0.1 kx_0 rfl) ?_
    refine q_aret ?_
    refine At.enter rfl ?_
    refine r_callV 7 rfl [.ref 188] [] (Nat.le_of_ble_eq_true rfl) rfl (T_X1_chokingRound_188 _ hI0) ?_
    rintro _ _ ⟨g59, rfl, hI60, hF61, v62, rfl, hr63⟩
    refine At.sti ?_
    have hF64 := Fr.tr hF0 hF61 rfl rfl
    refine At.enter rfl ?_
    refine r_ireti ?_
    exact ⟨_, rfl, hI60, hF64, _, rfl, trivial⟩
  · have c58_ : v57.toInt = 0 := en_k_ne_f c58
    refine At.enter rfl ?_
    refine r_aload_n rfl ?_
    refine q_getR (Sh.ref hI0.1 kx_0 rfl) ?_
    refine r_iconst 0 rfl ?_
    refine r_callV 15 rfl [.ref 188, .int 0] [] (Nat.le_of_ble_eq_true rfl) rfl (T_X1_layOut_188 _ hI0 0) ?_
    rintro _ _ ⟨g65, rfl, hI66, hF67, rfl⟩
    refine At.stn ?_
    have hF70 := Fr.tr hF0 hF67 rfl rfl
    refine At.enter rfl ?_
    refine r_aload_n rfl ?_
    refine q_getR (Sh.ref hI66.1 kx_0 rfl) ?_
    refine r_callV 22 rfl [.ref 188] [] (Nat.le_of_ble_eq_true rfl) rfl (T_X1_runWhole_188 _ hI66) ?_
    rintro _ _ ⟨g71, rfl, hI72, hF73, rfl⟩
    refine At.stn ?_
    have hF76 := Fr.tr hF70 hF73 rfl rfl
    refine At.enter rfl ?_
    refine r_aload_n rfl ?_
    refine r_iconst 1 rfl ?_
    refine q_putI (Sh.int hI72.1 kx_0 rfl) rfl ?_
    have hI77 := HI.wI0 hI72 kx_0 rfl (p := 0) (b := 14) (v := 1) rfl
    have hF78 := Fr.wI (p := 0) (b := 14) (v := 1) hF76 rfl
    refine Ar.fall 27 rfl ?_
    refine At.enter rfl ?_
    refine r_aload_n rfl ?_
    refine q_getR (Sh.ref hI77.1 kx_0 rfl) ?_
    refine q_aret ?_
    refine At.enter rfl ?_
    refine r_callV 7 rfl [.ref 188] [] (Nat.le_of_ble_eq_true rfl) rfl (T_X1_chokingRound_188 _ hI77) ?_
    rintro _ _ ⟨g79, rfl, hI80, hF81, v82, rfl, hr83⟩
    refine At.sti ?_
    have hF84 := Fr.tr hF78 hF81 rfl rfl
    refine At.enter rfl ?_
    refine r_ireti ?_
    exact ⟨_, rfl, hI80, hF84, _, rfl, trivial⟩

def F_X10_swaps_0 : List (Nat × Nat) := [(185, 3), (204, 16), (204, 18), (220, 2), (220, 3), (220, 4)]
def A_X10_swaps_0 : List Nat := [205, 206, 207, 208, 209, 210, 211, 212, 213, 214, 215, 216, 218, 221]
set_option maxRecDepth 100000 in
set_option maxHeartbeats 4000000 in
theorem T_X10_swaps_0 (d : Nat) {N : Nat} {g0 : List en_E} (hI0 : HI g0) (a1 : Int32) (a2 : Int32) : Ev (d + 8) 124 [.ref 0, .int a1, .int a2] (g0, N) (fun w h' => ∃ g', h' = (g', N) ∧ HI g' ∧ Fr F_X10_swaps_0 A_X10_swaps_0 g0 g' ∧ ∃ r : Int32, w = some (.int r) ∧ True) := by
  have hF0 : Fr F_X10_swaps_0 A_X10_swaps_0 g0 g0 := Fr.rf
  refine Ev.mk rfl rfl ⟨Nat.le_of_ble_eq_true rfl, Or.inr (q_rc hI0.1 kx_0 rfl)⟩ ?_
  show At _ none _ _ (0, [(0, .ref 0), (1, .int a1), (2, .int a2)], [], (_, _)) _
  refine At.enter rfl ?_
  refine r_iload_n rfl ?_
  refine r_aload_n rfl ?_
  refine q_getR (Sh.ref hI0.1 kx_0 rfl) ?_
  obtain ⟨v21, hv21⟩ : ∃ v, gI g0 1 4 = v := ⟨_, rfl⟩
  have rv21 := RgF.at hI0.2.1 (p := 1) (b := 4) rfl
  rw [hv21] at rv21
  dsimp only at rv21
  refine q_getI (Sh.int hI0.1 kx_1 rfl) v21 hv21 ?_
  refine q_inlS 11 rfl [.int a1, .int v21] [] (Nat.le_of_ble_eq_true rfl) rfl ?_
  refine Ev.mk rfl rfl ⟨Nat.le_of_ble_eq_true rfl, Or.inl rfl⟩ ?_
  show At _ none _ _ (0, [(0, .int a1), (1, .int v21)], [], (_, _)) _
  refine At.enter rfl ?_
  refine r_iload_n rfl ?_
  refine r_ifs 4 rfl (fun c22 => ?_) (fun c22 => ?_)
  · have c22_ : a1.toInt < 0 := en_k_lt_t c22
    refine At.enter rfl ?_
    refine r_iconst 0 rfl ?_
    refine Ar.fall 15 rfl ?_
    refine At.enter rfl ?_
    refine q_iretz (by decide) ?_
    refine At.enter rfl ?_
    refine r_ift (by decide) ?_
    refine At.enter rfl ?_
    refine r_iconst (-1) rfl ?_
    refine Ar.fall 27 rfl ?_
    refine At.enter rfl ?_
    refine r_ireti ?_
    exact ⟨_, rfl, hI0, hF0, _, rfl, trivial⟩
  · have c22_ : a1.toInt ≥ 0 := en_k_lt_f c22
    refine At.enter rfl ?_
    refine r_iload_n rfl ?_
    refine r_iload_n rfl ?_
    refine q_ishrO (fun v23 hv23 => ?_)
    refine r_ifs 10 rfl (fun c24 => ?_) (fun c24 => ?_)
    · have c24_ : v23.toInt ≠ 0 := en_k_ne_t c24
      refine At.enter rfl ?_
      refine r_iconst 0 rfl ?_
      refine Ar.fall 15 rfl ?_
      refine At.enter rfl ?_
      refine q_iretz (by decide) ?_
      refine At.enter rfl ?_
      refine r_ift (by decide) ?_
      refine At.enter rfl ?_
      refine r_iconst (-1) rfl ?_
      refine Ar.fall 27 rfl ?_
      refine At.enter rfl ?_
      refine r_ireti ?_
      exact ⟨_, rfl, hI0, hF0, _, rfl, trivial⟩
    · have c24_ : v23.toInt = 0 := en_k_ne_f c24
      refine At.enter rfl ?_
      refine r_iconst 1 rfl ?_
      refine r_goto ?_
      refine At.enter rfl ?_
      refine q_iretz (by decide) ?_
      refine At.enter rfl ?_
      refine r_iff 14 rfl (by decide) ?_
      refine At.enter rfl ?_
      refine r_aload_n rfl ?_
      refine q_getR (Sh.ref hI0.1 kx_0 rfl) ?_
      refine r_iload_n rfl ?_
      refine r_iload_n rfl ?_
      refine r_callV 23 rfl [.ref 220, .int a1, .int a2] [] (Nat.le_of_ble_eq_true rfl) rfl (T_X7_told_220 _ hI0 a1 a2) ?_
      rintro _ _ ⟨g25, rfl, hI26, hF27, v28, rfl, hr29⟩
      refine At.sti ?_
      have hF30 := Fr.tr hF0 hF27 rfl rfl
      refine At.enter rfl ?_
      refine r_goto ?_
      refine At.enter rfl ?_
      refine r_ireti ?_
      exact ⟨_, rfl, hI26, hF30, _, rfl, trivial⟩

def F_X10_swap_0 : List (Nat × Nat) := [(0, 14), (0, 17), (220, 2), (222, 2), (223, 5), (223, 10)]
def A_X10_swap_0 : List Nat := [3, 4, 230]
set_option maxRecDepth 100000 in
set_option maxHeartbeats 4000000 in
theorem T_X10_swap_0 (d : Nat) {N : Nat} {g0 : List en_E} (hI0 : HI g0) (a1 : Int32) (a2 : Int32) : Ev (d + 3) 125 [.ref 0, .int a1, .int a2] (g0, N) (fun w h' => ∃ g', h' = (g', N) ∧ HI g' ∧ Fr F_X10_swap_0 A_X10_swap_0 g0 g' ∧ ∃ r : Int32, w = some (.int r) ∧ ((-3) ≤ r.toInt ∧ r.toInt ≤ 0) ∧ ((¬ (0 ≤ a1.toInt ∧ a1.toInt < (gI g0 1 0).toInt ∧ 0 ≤ a2.toInt ∧ a2.toInt < (gI g0 1 0).toInt) → r.toInt = -2) ∧ ((0 ≤ a1.toInt ∧ a1.toInt < (gI g0 1 0).toInt ∧ 0 ≤ a2.toInt ∧ a2.toInt < (gI g0 1 0).toInt) ∧ a1.toInt = a2.toInt → r.toInt = -3) ∧ ((0 ≤ a1.toInt ∧ a1.toInt < (gI g0 1 0).toInt ∧ 0 ≤ a2.toInt ∧ a2.toInt < (gI g0 1 0).toInt) ∧ a1.toInt ≠ a2.toInt → r.toInt = 0))) := by
  have hF0 : Fr F_X10_swap_0 A_X10_swap_0 g0 g0 := Fr.rf
  refine Ev.mk rfl rfl ⟨Nat.le_of_ble_eq_true rfl, Or.inr (q_rc hI0.1 kx_0 rfl)⟩ ?_
  show At _ none _ _ (0, [(0, .ref 0), (1, .int a1), (2, .int a2)], [], (_, _)) _
  refine At.enter rfl ?_
  refine r_aload_n rfl ?_
  refine q_getR (Sh.ref hI0.1 kx_0 rfl) ?_
  refine r_iload_n rfl ?_
  refine q_inlV 8 rfl [.ref 1, .int a1] [] (Nat.le_of_ble_eq_true rfl) rfl ?_
  refine Ev.mk rfl rfl ⟨Nat.le_of_ble_eq_true rfl, Or.inr (q_rc hI0.1 kx_1 rfl)⟩ ?_
  show At _ none _ _ (0, [(0, .ref 1), (1, .int a1)], [], (_, _)) _
  refine At.enter rfl ?_
  refine r_iload_n rfl ?_
  refine r_ifs 4 rfl (fun c129 => ?_) (fun c129 => ?_)
  · have c129_ : a1.toInt < 0 := en_k_lt_t c129
    refine At.enter rfl ?_
    refine r_iconst 0 rfl ?_
    refine Ar.fall 17 rfl ?_
    refine At.enter rfl ?_
    refine q_iretz (by decide) ?_
    refine At.enter rfl ?_
    refine r_ift (by decide) ?_
    refine At.enter rfl ?_
    refine r_aload_n rfl ?_
    refine r_bipush (-2) rfl ?_
    refine r_callV 28 rfl [.ref 0, .int (-2)] [] (Nat.le_of_ble_eq_true rfl) rfl (T_X10_refused_0 _ hI0 (-2) (by decide)) ?_
    rintro _ _ ⟨g130, rfl, hI131, hF132, v133, rfl, hr134⟩
    refine At.sti ?_
    have hF135 := Fr.tr hF0 hF132 rfl rfl
    have zv136 : ((-2) : Int32).toInt = (-2) := rfl
    refine At.enter rfl ?_
    refine r_ireti ?_
    obtain ⟨v137, hv137⟩ : ∃ v, gI g0 1 0 = v := ⟨_, rfl⟩
    have rv137 := RgF.at hI0.2.1 (p := 1) (b := 0) rfl
    rw [hv137] at rv137
    dsimp only at rv137
    have tv137 := congrArg Int32.toInt hv137
    exact ⟨_, rfl, hI131, hF135, _, rfl, by omega, (by omega)⟩
  · have c129_ : a1.toInt ≥ 0 := en_k_lt_f c129
    refine At.enter rfl ?_
    refine r_iload_n rfl ?_
    refine r_aload_n rfl ?_
    obtain ⟨v139, hv139⟩ : ∃ v, gI g0 1 0 = v := ⟨_, rfl⟩
    have rv139 := RgF.at hI0.2.1 (p := 1) (b := 0) rfl
    rw [hv139] at rv139
    dsimp only at rv139
    refine q_getI (Sh.int hI0.1 kx_1 rfl) v139 hv139 ?_
    have bv141 := q_bnd a1
    have bv142 := q_bnd v139
    refine r_ics 12 rfl (fun c140 => ?_) (fun c140 => ?_)
    · have c140_ : a1.toInt ≥ v139.toInt := en_i_ge_t c140
      refine At.enter rfl ?_
      refine r_iconst 0 rfl ?_
      refine Ar.fall 17 rfl ?_
      refine At.enter rfl ?_
      refine q_iretz (by decide) ?_
      refine At.enter rfl ?_
      refine r_ift (by decide) ?_
      refine At.enter rfl ?_
      refine r_aload_n rfl ?_
      refine r_bipush (-2) rfl ?_
      refine r_callV 28 rfl [.ref 0, .int (-2)] [] (Nat.le_of_ble_eq_true rfl) rfl (T_X10_refused_0 _ hI0 (-2) (by decide)) ?_
      rintro _ _ ⟨g143, rfl, hI144, hF145, v146, rfl, hr147⟩
      refine At.sti ?_
      have hF148 := Fr.tr hF0 hF145 rfl rfl
      have zv149 : ((-2) : Int32).toInt = (-2) := rfl
      refine At.enter rfl ?_
      refine r_ireti ?_
      have x150 := HI.eqI hI0 (p := 1) (b := 0) (hv139)
      exact ⟨_, rfl, hI144, hF148, _, rfl, by omega, (by omega)⟩
    · have c140_ : a1.toInt < v139.toInt := en_i_ge_f c140
      refine At.enter rfl ?_
      refine r_iconst 1 rfl ?_
      refine r_goto ?_
      refine At.enter rfl ?_
      refine q_iretz (by decide) ?_
      refine At.enter rfl ?_
      refine r_iff 11 rfl (by decide) ?_
      refine At.enter rfl ?_
      refine r_aload_n rfl ?_
      refine q_getR (Sh.ref hI0.1 kx_0 rfl) ?_
      refine r_iload_n rfl ?_
      refine q_inlV 19 rfl [.ref 1, .int a2] [] (Nat.le_of_ble_eq_true rfl) rfl ?_
      refine Ev.mk rfl rfl ⟨Nat.le_of_ble_eq_true rfl, Or.inr (q_rc hI0.1 kx_1 rfl)⟩ ?_
      show At _ none _ _ (0, [(0, .ref 1), (1, .int a2)], [], (_, _)) _
      refine At.enter rfl ?_
      refine r_iload_n rfl ?_
      refine r_ifs 4 rfl (fun c151 => ?_) (fun c151 => ?_)
      · have c151_ : a2.toInt < 0 := en_k_lt_t c151
        refine At.enter rfl ?_
        refine r_iconst 0 rfl ?_
        refine Ar.fall 17 rfl ?_
        refine At.enter rfl ?_
        refine q_iretz (by decide) ?_
        refine At.enter rfl ?_
        refine r_iff 22 rfl (by decide) ?_
        refine At.enter rfl ?_
        refine r_aload_n rfl ?_
        refine r_bipush (-2) rfl ?_
        refine r_callV 28 rfl [.ref 0, .int (-2)] [] (Nat.le_of_ble_eq_true rfl) rfl (T_X10_refused_0 _ hI0 (-2) (by decide)) ?_
        rintro _ _ ⟨g152, rfl, hI153, hF154, v155, rfl, hr156⟩
        refine At.sti ?_
        have hF157 := Fr.tr hF0 hF154 rfl rfl
        have zv158 : ((-2) : Int32).toInt = (-2) := rfl
        refine At.enter rfl ?_
        refine r_ireti ?_
        have x159 := HI.eqI hI0 (p := 1) (b := 0) (hv139)
        exact ⟨_, rfl, hI153, hF157, _, rfl, by omega, (by omega)⟩
      · have c151_ : a2.toInt ≥ 0 := en_k_lt_f c151
        refine At.enter rfl ?_
        refine r_iload_n rfl ?_
        refine r_aload_n rfl ?_
        refine q_getI (Sh.int hI0.1 kx_1 rfl) v139 hv139 ?_
        have bv161 := q_bnd a2
        refine r_ics 12 rfl (fun c160 => ?_) (fun c160 => ?_)
        · have c160_ : a2.toInt ≥ v139.toInt := en_i_ge_t c160
          refine At.enter rfl ?_
          refine r_iconst 0 rfl ?_
          refine Ar.fall 17 rfl ?_
          refine At.enter rfl ?_
          refine q_iretz (by decide) ?_
          refine At.enter rfl ?_
          refine r_iff 22 rfl (by decide) ?_
          refine At.enter rfl ?_
          refine r_aload_n rfl ?_
          refine r_bipush (-2) rfl ?_
          refine r_callV 28 rfl [.ref 0, .int (-2)] [] (Nat.le_of_ble_eq_true rfl) rfl (T_X10_refused_0 _ hI0 (-2) (by decide)) ?_
          rintro _ _ ⟨g162, rfl, hI163, hF164, v165, rfl, hr166⟩
          refine At.sti ?_
          have hF167 := Fr.tr hF0 hF164 rfl rfl
          have zv168 : ((-2) : Int32).toInt = (-2) := rfl
          refine At.enter rfl ?_
          refine r_ireti ?_
          have x169 := HI.eqI hI0 (p := 1) (b := 0) (hv139)
          exact ⟨_, rfl, hI163, hF167, _, rfl, by omega, (by omega)⟩
        · have c160_ : a2.toInt < v139.toInt := en_i_ge_f c160
          refine At.enter rfl ?_
          refine r_iconst 1 rfl ?_
          refine r_goto ?_
          refine At.enter rfl ?_
          refine q_iretz (by decide) ?_
          refine At.enter rfl ?_
          refine r_ift (by decide) ?_
          refine At.enter rfl ?_
          refine r_iload_n rfl ?_
          refine r_iload_n rfl ?_
          refine r_ics 34 rfl (fun c170 => ?_) (fun c170 => ?_)
          · have c170_ : a1.toInt ≠ a2.toInt := en_i_ne_t c170
            refine At.enter rfl ?_
            refine r_aload_n rfl ?_
            refine q_getR (Sh.ref hI0.1 kx_0 rfl) ?_
            refine q_getR (Sh.ref hI0.1 kx_1 rfl) ?_
            refine r_iload_n rfl ?_
            refine r_iload_n rfl ?_
            refine q_inlS 53 rfl [.ref 3, .int a1, .int a2] [] (Nat.le_of_ble_eq_true rfl) rfl ?_
            refine Ev.mk rfl rfl ⟨Nat.le_of_ble_eq_true rfl, Or.inl rfl⟩ ?_
            show At _ none _ _ (0, [(0, .ref 3), (1, .int a1), (2, .int a2)], [], (_, _)) _
            refine At.enter rfl ?_
            refine r_aload_n rfl ?_
            refine r_iload_n rfl ?_
            obtain ⟨v171, hv171⟩ : ∃ v, eA g0 3 a1.toInt = v := ⟨_, rfl⟩
            refine q_iald (Sh.arr hI0.1 ka_3) a1.toInt rfl (by omega) v171 hv171 ?_
            refine r_istore_n ([(3, .int v171), (0, .ref 3), (1, .int a1), (2, .int a2)]) rfl ?_
            refine r_aload_n rfl ?_
            refine r_iload_n rfl ?_
            refine r_aload_n rfl ?_
            refine r_iload_n rfl ?_
            obtain ⟨v172, hv172⟩ : ∃ v, eA g0 3 a2.toInt = v := ⟨_, rfl⟩
            refine q_iald (Sh.arr hI0.1 ka_3) a2.toInt rfl (by omega) v172 hv172 ?_
            refine q_iast (Sh.arr hI0.1 ka_3) (a1.toInt) rfl (by omega) ?_
            have hI173 := HI.wA0 hI0 ka_3 (p := 3) rfl rfl (a1.toInt) (v172)
            have hF174 := Fr.wA (p := 3) (j := a1.toInt) (v := v172) hF0 rfl
            refine r_aload_n rfl ?_
            refine r_iload_n rfl ?_
            refine r_iload_n rfl ?_
            refine q_iast (Sh.arr hI173.1 ka_3) (a2.toInt) rfl (by omega) ?_
            have hI175 := HI.wA0 hI173 ka_3 (p := 3) rfl rfl (a2.toInt) (v171)
            have hF176 := Fr.wA (p := 3) (j := a2.toInt) (v := v171) hF174 rfl
            refine q_vret ?_
            refine At.enter rfl ?_
            refine r_aload_n rfl ?_
            refine q_getR (Sh.ref hI175.1 kx_0 rfl) ?_
            refine q_getR (Sh.ref hI175.1 kx_1 rfl) ?_
            refine r_iload_n rfl ?_
            refine r_iload_n rfl ?_
            refine q_inlS 65 rfl [.ref 4, .int a1, .int a2] [] (Nat.le_of_ble_eq_true rfl) rfl ?_
            refine Ev.mk rfl rfl ⟨Nat.le_of_ble_eq_true rfl, Or.inl rfl⟩ ?_
            show At _ none _ _ (0, [(0, .ref 4), (1, .int a1), (2, .int a2)], [], (_, _)) _
            refine At.enter rfl ?_
            refine r_aload_n rfl ?_
            refine r_iload_n rfl ?_
            obtain ⟨v177, hv177⟩ : ∃ v, eA g0 4 a1.toInt = v := ⟨_, rfl⟩
            refine q_iald (Sh.arr hI175.1 ka_4) a1.toInt rfl (by omega) v177 ((eA_c ((gA_sA_ne (by decide)).trans (gA_sA_ne (by decide)))).trans hv177) ?_
            refine r_istore_n ([(3, .int v177), (0, .ref 4), (1, .int a1), (2, .int a2)]) rfl ?_
            refine r_aload_n rfl ?_
            refine r_iload_n rfl ?_
            refine r_aload_n rfl ?_
            refine r_iload_n rfl ?_
            obtain ⟨v178, hv178⟩ : ∃ v, eA g0 4 a2.toInt = v := ⟨_, rfl⟩
            refine q_iald (Sh.arr hI175.1 ka_4) a2.toInt rfl (by omega) v178 ((eA_c ((gA_sA_ne (by decide)).trans (gA_sA_ne (by decide)))).trans hv178) ?_
            refine q_iast (Sh.arr hI175.1 ka_4) (a1.toInt) rfl (by omega) ?_
            have hI179 := HI.wA0 hI175 ka_4 (p := 4) rfl rfl (a1.toInt) (v178)
            have hF180 := Fr.wA (p := 4) (j := a1.toInt) (v := v178) hF176 rfl
            refine r_aload_n rfl ?_
            refine r_iload_n rfl ?_
            refine r_iload_n rfl ?_
            refine q_iast (Sh.arr hI179.1 ka_4) (a2.toInt) rfl (by omega) ?_
            have hI181 := HI.wA0 hI179 ka_4 (p := 4) rfl rfl (a2.toInt) (v177)
            have hF182 := Fr.wA (p := 4) (j := a2.toInt) (v := v177) hF180 rfl
            refine q_vret ?_
            refine At.enter rfl ?_
            refine r_aload_n rfl ?_
            refine r_callV 69 rfl [.ref 0] [] (Nat.le_of_ble_eq_true rfl) rfl (T_X10_changed_0 _ hI181) ?_
            rintro _ _ ⟨g183, rfl, hI184, hF185, rfl⟩
            refine At.stn ?_
            have hF188 := Fr.tr hF182 hF185 rfl rfl
            refine At.enter rfl ?_
            refine r_aload_n rfl ?_
            refine r_iconst 0 rfl ?_
            refine q_inlV 74 rfl [.ref 0, .int 0] [] (Nat.le_of_ble_eq_true rfl) rfl ?_
            refine Ev.mk rfl rfl ⟨Nat.le_of_ble_eq_true rfl, Or.inr (q_rc hI184.1 kx_0 rfl)⟩ ?_
            show At _ none _ _ (0, [(0, .ref 0), (1, .int 0)], [], (_, _)) _
            refine At.enter rfl ?_
            refine r_aload_n rfl ?_
            refine r_iconst 0 rfl ?_
            refine q_putI (Sh.int hI184.1 kx_0 rfl) rfl ?_
            have hI189 := HI.wI0 hI184 kx_0 rfl (p := 0) (b := 17) (v := 0) rfl
            have hF190 := Fr.wI (p := 0) (b := 17) (v := 0) hF188 rfl
            refine r_iload_n rfl ?_
            refine q_ireti ?_
            refine At.enter rfl ?_
            refine r_ireti ?_
            have zv191 : (0 : Int32).toInt = 0 := rfl
            have x192 := HI.eqI hI0 (p := 1) (b := 0) (hv139)
            exact ⟨_, rfl, hI189, hF190, _, rfl, by decide, (by omega)⟩
          · have c170_ : a1.toInt = a2.toInt := en_i_ne_f c170
            refine At.enter rfl ?_
            refine r_aload_n rfl ?_
            refine r_bipush (-3) rfl ?_
            refine r_callV 40 rfl [.ref 0, .int (-3)] [] (Nat.le_of_ble_eq_true rfl) rfl (T_X10_refused_0 _ hI0 (-3) (by decide)) ?_
            rintro _ _ ⟨g193, rfl, hI194, hF195, v196, rfl, hr197⟩
            refine At.sti ?_
            have hF198 := Fr.tr hF0 hF195 rfl rfl
            have zv199 : ((-3) : Int32).toInt = (-3) := rfl
            refine At.enter rfl ?_
            refine r_ireti ?_
            have x200 := HI.eqI hI0 (p := 1) (b := 0) (hv139)
            exact ⟨_, rfl, hI194, hF198, _, rfl, by omega, (by omega)⟩
