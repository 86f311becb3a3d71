def F_X10_choke_0 : List (Nat × Nat) := [(0, 14), (185, 3), (188, 16), (188, 18)]
def A_X10_choke_0 : List Nat := [189, 190, 191, 192, 193, 194, 195, 196, 197, 198, 199, 200, 202, 203]
set_option maxRecDepth 100000 in
set_option maxHeartbeats 4000000 in
theorem T_X10_choke_0 (d : Nat) {N : Nat} {g0 : List en_E} (hI0 : HI g0) : Ev (d + 7) 123 [.ref 0] (g0, N) (fun w h' => ∃ g', h' = (g', N) ∧ HI g' ∧ Fr F_X10_choke_0 A_X10_choke_0 g0 g' ∧ ∃ r : Int32, w = some (.int r) ∧ True) := by
  have hF0 : Fr F_X10_choke_0 A_X10_choke_0 g0 g0 := Fr.rf
  refine Ev.mk rfl rfl ⟨Nat.le_of_ble_eq_true rfl, Or.inr (q_rc hI0.1 kx_0 rfl)⟩ ?_
  show At _ none _ _ (0, [(0, .ref 0)], [], (_, _)) _
  refine At.enter rfl ?_
  refine r_aload_n rfl ?_
  refine q_inlV 4 rfl [.ref 0] [] (Nat.le_of_ble_eq_true rfl) rfl ?_
  refine Ev.mk rfl rfl ⟨Nat.le_of_ble_eq_true rfl, Or.inr (q_rc hI0.1 kx_0 rfl)⟩ ?_
  show At _ none _ _ (0, [(0, .ref 0)], [], (_, _)) _
  refine At.enter rfl ?_
  refine r_aload_n rfl ?_
  obtain ⟨v57, hv57⟩ : ∃ v, gI g0 0 14 = v := ⟨_, rfl⟩
  refine q_getI (Sh.int hI0.1 kx_0 rfl) v57 hv57 ?_
  refine r_ifs 7 rfl (fun c58 => ?_) (fun c58 => ?_)
  · have c58_ : v57.toInt ≠ 0 := en_k_ne_t c58
    refine At.enter rfl ?_
    refine r_aload_n rfl ?_
    refine q_getR (Sh.ref hI0.1 kx_0 rfl) ?_
    refine q_aret ?_
    refine At.enter rfl ?_
    refine r_callV 7 rfl [.ref 188] [] (Nat.le_of_ble_eq_true rfl) rfl (T_X1_chokingRound_188 _ hI0) ?_
    rintro _ _ ⟨g59, rfl, hI60, hF61, v62, rfl, hr63⟩
    refine At.sti ?_
    have hF64 := Fr.tr hF0 hF61 rfl rfl
    refine At.enter rfl ?_
    refine r_ireti ?_
    exact ⟨_, rfl, hI60, hF64, _, rfl, trivial⟩
  · have c58_ : v57.toInt = 0 := en_k_ne_f c58
    refine At.enter rfl ?_
    refine r_aload_n rfl ?_
    refine q_getR (Sh.ref hI0.1 kx_0 rfl) ?_
    refine r_iconst 0 rfl ?_
    refine r_callV 15 rfl [.ref 188, .int 0] [] (Nat.le_of_ble_eq_true rfl) rfl (T_X1_layOut_188 _ hI0 0) ?_
    rintro _ _ ⟨g65, rfl, hI66, hF67, rfl⟩
    refine At.stn ?_
    have hF70 := Fr.tr hF0 hF67 rfl rfl
    refine At.enter rfl ?_
    refine r_aload_n rfl ?_
    refine q_getR (Sh.ref hI66.1 kx_0 rfl) ?_
    refine r_callV 22 rfl [.ref 188] [] (Nat.le_of_ble_eq_true rfl) rfl (T_X1_runWhole_188 _ hI66) ?_
    rintro _ _ ⟨g71, rfl, hI72, hF73, rfl⟩
    refine At.stn ?_
    have hF76 := Fr.tr hF70 hF73 rfl rfl
    refine At.enter rfl ?_
    refine r_aload_n rfl ?_
    refine r_iconst 1 rfl ?_
    refine q_putI (Sh.int hI72.1 kx_0 rfl) rfl ?_
    have hI77 := HI.wI0 hI72 kx_0 rfl (p := 0) (b := 14) (v := 1) rfl
    have hF78 := Fr.wI (p := 0) (b := 14) (v := 1) hF76 rfl
    refine Ar.fall 27 rfl ?_
    refine At.enter rfl ?_
    refine r_aload_n rfl ?_
    refine q_getR (Sh.ref hI77.1 kx_0 rfl) ?_
    refine q_aret ?_
    refine At.enter rfl ?_
    refine r_callV 7 rfl [.ref 188] [] (Nat.le_of_ble_eq_true rfl) rfl (T_X1_chokingRound_188 _ hI77) ?_
    rintro _ _ ⟨g79, rfl, hI80, hF81, v82, rfl, hr83⟩
    refine At.sti ?_
    have hF84 := Fr.tr hF78 hF81 rfl rfl
    refine At.enter rfl ?_
    refine r_ireti ?_
    exact ⟨_, rfl, hI80, hF84, _, rfl, trivial⟩

def F_X10_swaps_0 : List (Nat × Nat) := [(185, 3), (204, 16), (204, 18), (220, 2), (220, 3), (220, 4)]
def A_X10_swaps_0 : List Nat := [205, 206, 207, 208, 209, 210, 211, 212, 213, 214, 215, 216, 218, 221]
set_option maxRecDepth 100000 in
set_option maxHeartbeats 4000000 in
theorem T_X10_swaps_0 (d : Nat) {N : Nat} {g0 : List en_E} (hI0 : HI g0) (a1 : Int32) (a2 : Int32) : Ev (d + 8) 124 [.ref 0, .int a1, .int a2] (g0, N) (fun w h' => ∃ g', h' = (g', N) ∧ HI g' ∧ Fr F_X10_swaps_0 A_X10_swaps_0 g0 g' ∧ ∃ r : Int32, w = some (.int r) ∧ True) := by
  have hF0 : Fr F_X10_swaps_0 A_X10_swaps_0 g0 g0 := Fr.rf
  refine Ev.mk rfl rfl ⟨Nat.le_of_ble_eq_true rfl, Or.inr (q_rc hI0.1 kx_0 rfl)⟩ ?_
  show At _ none _ _ (0, [(0, .ref 0), (1, .int a1), (2, .int a2)], [], (_, _)) _
  refine At.enter rfl ?_
  refine r_iload_n rfl ?_
  refine r_aload_n rfl ?_
  refine q_getR (Sh.ref hI0.1 kx_0 rfl) ?_
  obtain ⟨v21, hv21⟩ : ∃ v, gI g0 1 4 = v := ⟨_, rfl⟩
  have rv21 := RgF.at hI0.2.1 (p := 1) (b := 4) rfl
  rw [hv21] at rv21
  dsimp only at rv21
  refine q_getI (Sh.int hI0.1 kx_1 rfl) v21 hv21 ?_
  refine q_inlS 11 rfl [.int a1, .int v21] [] (Nat.le_of_ble_eq_true rfl) rfl ?_
  refine Ev.mk rfl rfl ⟨Nat.le_of_ble_eq_true rfl, Or.inl rfl⟩ ?_
  show At _ none _ _ (0, [(0, .int a1), (1, .int v21)], [], (_, _)) _
  refine At.enter rfl ?_
  refine r_iload_n rfl ?_
  refine r_ifs 4 rfl (fun c22 => ?_) (fun c22 => ?_)
  · have c22_ : a1.toInt < 0 := en_k_lt_t c22
    refine At.enter rfl ?_
    refine r_iconst 0 rfl ?_
    refine Ar.fall 15 rfl ?_
    refine At.enter rfl ?_
    refine q_iretz (by decide) ?_
    refine At.enter rfl ?_
    refine r_ift (by decide) ?_
    refine At.enter rfl ?_
    refine r_iconst (-1) rfl ?_
    refine Ar.fall 27 rfl ?_
    refine At.enter rfl ?_
    refine r_ireti ?_
    exact ⟨_, rfl, hI0, hF0, _, rfl, trivial⟩
  · have c22_ : a1.toInt ≥ 0 := en_k_lt_f c22
    refine At.enter rfl ?_
    refine r_iload_n rfl ?_
    refine r_iload_n rfl ?_
    refine q_ishrO (fun v23 hv23 => ?_)
    refine r_ifs 10 rfl (fun c24 => ?_) (fun c24 => ?_)
    · have c24_ : v23.toInt ≠ 0 := en_k_ne_t c24
      refine At.enter rfl ?_
      refine r_iconst 0 rfl ?_
      refine Ar.fall 15 rfl ?_
      refine At.enter rfl ?_
      refine q_iretz (by decide) ?_
      refine At.enter rfl ?_
      refine r_ift (by decide) ?_
      refine At.enter rfl ?_
      refine r_iconst (-1) rfl ?_
      refine Ar.fall 27 rfl ?_
      refine At.enter rfl ?_
      refine r_ireti ?_
      exact ⟨_, rfl, hI0, hF0, _, rfl, trivial⟩
    · have c24_ : v23.toInt = 0 := en_k_ne_f c24
      refine At.enter rfl ?_
      refine r_iconst 1 rfl ?_
      refine r_goto ?_
      refine At.enter rfl ?_
      refine q_iretz (by decide) ?_
      refine At.enter rfl ?_
      refine r_iff 14 rfl (by decide) ?_
      refine At.enter rfl ?_
      refine r_aload_n rfl ?_
      refine q_getR (Sh.ref hI0.1 kx_0 rfl) ?_
      refine r_iload_n rfl ?_
      refine r_iload_n rfl ?_
      refine r_callV 23 rfl [.ref 220, .int a1, .int a2] [] (Nat.le_of_ble_eq_true rfl) rfl (T_X7_told_220 _ hI0 a1 a2) ?_
      rintro _ _ ⟨g25, rfl, hI26, hF27, v28, rfl, hr29⟩
      refine At.sti ?_
      have hF30 := Fr.tr hF0 hF27 rfl rfl
      refine At.enter rfl ?_
      refine r_goto ?_
      refine At.enter rfl ?_
      refine r_ireti ?_
      exact ⟨_, rfl, hI26, hF30, _, rfl, trivial⟩

def F_X10_swap_0 : List (Nat × Nat) := [(0, 14), (0, 17), (220, 2), (222, 2), (223, 5), (223, 10)]
def A_X10_swap_0 : List Nat := [3, 4, 230]
set_option maxRecDepth 100000 in
set_option maxHeartbeats 4000000 in
theorem T_X10_swap_0 (d : Nat) {N : Nat} {g0 : List en_E} (hI0 : HI g0) (a1 : Int32) (a2 : Int32) : Ev (d + 3) 125 [.ref 0, .int a1, .int a2] (g0, N) (fun w h' => ∃ g', h' = (g', N) ∧ HI g' ∧ Fr F_X10_swap_0 A_X10_swap_0 g0 g' ∧ ∃ r : Int32, w = some (.int r) ∧ ((-3) ≤ r.toInt ∧ r.toInt ≤ 0) ∧ ((((¬ (0 ≤ a1.toInt ∧ a1.toInt < (gI g0 1 0).toInt ∧ 0 ≤ a2.toInt ∧ a2.toInt < (gI g0 1 0).toInt) → r.toInt = -2) ∧ ((0 ≤ a1.toInt ∧ a1.toInt < (gI g0 1 0).toInt ∧ 0 ≤ a2.toInt ∧ a2.toInt < (gI g0 1 0).toInt) ∧ a1.toInt = a2.toInt → r.toInt = -3) ∧ ((0 ≤ a1.toInt ∧ a1.toInt < (gI g0 1 0).toInt ∧ 0 ≤ a2.toInt ∧ a2.toInt < (gI g0 1 0).toInt) ∧ a1.toInt ≠ a2.toInt → r.toInt = 0)) ∧ (∀ i : Int, 0 ≤ i → i < 12 → (eA g' 3 (i)).toInt = if (0 ≤ a1.toInt ∧ a1.toInt < (gI g0 1 0).toInt ∧ 0 ≤ a2.toInt ∧ a2.toInt < (gI g0 1 0).toInt ∧ a1.toInt ≠ a2.toInt) ∧ i = a1.toInt then (eA g0 3 a2.toInt).toInt else if (0 ≤ a1.toInt ∧ a1.toInt < (gI g0 1 0).toInt ∧ 0 ≤ a2.toInt ∧ a2.toInt < (gI g0 1 0).toInt ∧ a1.toInt ≠ a2.toInt) ∧ i = a2.toInt then (eA g0 3 a1.toInt).toInt else (eA g0 3 (i)).toInt) ∧ (∀ i : Int, 0 ≤ i → i < 12 → (eA g' 4 (i)).toInt = if (0 ≤ a1.toInt ∧ a1.toInt < (gI g0 1 0).toInt ∧ 0 ≤ a2.toInt ∧ a2.toInt < (gI g0 1 0).toInt ∧ a1.toInt ≠ a2.toInt) ∧ i = a1.toInt then (eA g0 4 a2.toInt).toInt else if (0 ≤ a1.toInt ∧ a1.toInt < (gI g0 1 0).toInt ∧ 0 ≤ a2.toInt ∧ a2.toInt < (gI g0 1 0).toInt ∧ a1.toInt ≠ a2.toInt) ∧ i = a2.toInt then (eA g0 4 a1.toInt).toInt else (eA g0 4 (i)).toInt)) ∧ ((TOLDX g0 → TOLDX g') ∧ (SETX g0 → SETX g')))) := by
  have hF0 : Fr F_X10_swap_0 A_X10_swap_0 g0 g0 := Fr.rf
  refine Ev.mk rfl rfl ⟨Nat.le_of_ble_eq_true rfl, Or.inr (q_rc hI0.1 kx_0 rfl)⟩ ?_
  show At _ none _ _ (0, [(0, .ref 0), (1, .int a1), (2, .int a2)], [], (_, _)) _
  refine At.enter rfl ?_
  refine r_aload_n rfl ?_
  refine q_getR (Sh.ref hI0.1 kx_0 rfl) ?_
  refine r_iload_n rfl ?_
  refine q_inlV 8 rfl [.ref 1, .int a1] [] (Nat.le_of_ble_eq_true rfl) rfl ?_
  refine Ev.mk rfl rfl ⟨Nat.le_of_ble_eq_true rfl, Or.inr (q_rc hI0.1 kx_1 rfl)⟩ ?_
  show At _ none _ _ (0, [(0, .ref 1), (1, .int a1)], [], (_, _)) _
  refine At.enter rfl ?_
  refine r_iload_n rfl ?_
  refine r_ifs 4 rfl (fun c129 => ?_) (fun c129 => ?_)
  · have c129_ : a1.toInt < 0 := en_k_lt_t c129
    refine At.enter rfl ?_
    refine r_iconst 0 rfl ?_
    refine Ar.fall 17 rfl ?_
    refine At.enter rfl ?_
    refine q_iretz (by decide) ?_
    refine At.enter rfl ?_
    refine r_ift (by decide) ?_
    refine At.enter rfl ?_
    refine r_aload_n rfl ?_
    refine r_bipush (-2) rfl ?_
    refine r_callV 28 rfl [.ref 0, .int (-2)] [] (Nat.le_of_ble_eq_true rfl) rfl (T_X10_refused_0 _ hI0 (-2) (by decide)) ?_
    rintro _ _ ⟨g130, rfl, hI131, hF132, v133, rfl, hr134⟩
    refine At.sti ?_
    have hF135 := Fr.tr hF0 hF132 rfl rfl
    have zv136 : ((-2) : Int32).toInt = (-2) := rfl
    refine At.enter rfl ?_
    refine r_ireti ?_
    obtain ⟨v137, hv137⟩ : ∃ v, gI g0 1 0 = v := ⟨_, rfl⟩
    have rv137 := RgF.at hI0.2.1 (p := 1) (b := 0) rfl
    rw [hv137] at rv137
    dsimp only at rv137
    have tv137 := congrArg Int32.toInt hv137
    exact ⟨_, rfl, hI131, hF135, _, rfl, by omega, ⟨⟨(by omega), (by intro i i0 i1; refine Eq.trans ?_ (if_neg (show ¬ ((0 ≤ a1.toInt ∧ a1.toInt < (gI g0 1 0).toInt ∧ 0 ≤ a2.toInt ∧ a2.toInt < (gI g0 1 0).toInt ∧ a1.toInt ≠ a2.toInt) ∧ i = a1.toInt) from by omega)).symm; refine Eq.trans ?_ (if_neg (show ¬ ((0 ≤ a1.toInt ∧ a1.toInt < (gI g0 1 0).toInt ∧ 0 ≤ a2.toInt ∧ a2.toInt < (gI g0 1 0).toInt ∧ a1.toInt ≠ a2.toInt) ∧ i = a2.toInt) from by omega)).symm; refine (eA_ti ((hF132.2.1 3 ma_X10_refused_0_3))).trans ?_; (first | with_reducible rfl | omega | exact eA_ix (by omega) | rfl)), (by intro i i0 i1; refine Eq.trans ?_ (if_neg (show ¬ ((0 ≤ a1.toInt ∧ a1.toInt < (gI g0 1 0).toInt ∧ 0 ≤ a2.toInt ∧ a2.toInt < (gI g0 1 0).toInt ∧ a1.toInt ≠ a2.toInt) ∧ i = a1.toInt) from by omega)).symm; refine Eq.trans ?_ (if_neg (show ¬ ((0 ≤ a1.toInt ∧ a1.toInt < (gI g0 1 0).toInt ∧ 0 ≤ a2.toInt ∧ a2.toInt < (gI g0 1 0).toInt ∧ a1.toInt ≠ a2.toInt) ∧ i = a2.toInt) from by omega)).symm; refine (eA_ti ((hF132.2.1 4 ma_X10_refused_0_4))).trans ?_; (first | with_reducible rfl | omega | exact eA_ix (by omega) | rfl))⟩, ⟨(fun t => (TOLDX_fr hF132 rfl rfl rfl rfl t)), (fun t => (SETX_fr hF132 rfl rfl rfl rfl rfl t))⟩⟩⟩
  · have c129_ : a1.toInt ≥ 0 := en_k_lt_f c129
    refine At.enter rfl ?_
    refine r_iload_n rfl ?_
    refine r_aload_n rfl ?_
    obtain ⟨v140, hv140⟩ : ∃ v, gI g0 1 0 = v := ⟨_, rfl⟩
    have rv140 := RgF.at hI0.2.1 (p := 1) (b := 0) rfl
    rw [hv140] at rv140
    dsimp only at rv140
    refine q_getI (Sh.int hI0.1 kx_1 rfl) v140 hv140 ?_
    have bv142 := q_bnd a1
    have bv143 := q_bnd v140
    refine r_ics 12 rfl (fun c141 => ?_) (fun c141 => ?_)
    · have c141_ : a1.toInt ≥ v140.toInt := en_i_ge_t c141
      refine At.enter rfl ?_
      refine r_iconst 0 rfl ?_
      refine Ar.fall 17 rfl ?_
      refine At.enter rfl ?_
      refine q_iretz (by decide) ?_
      refine At.enter rfl ?_
      refine r_ift (by decide) ?_
      refine At.enter rfl ?_
      refine r_aload_n rfl ?_
      refine r_bipush (-2) rfl ?_
      refine r_callV 28 rfl [.ref 0, .int (-2)] [] (Nat.le_of_ble_eq_true rfl) rfl (T_X10_refused_0 _ hI0 (-2) (by decide)) ?_
      rintro _ _ ⟨g144, rfl, hI145, hF146, v147, rfl, hr148⟩
      refine At.sti ?_
      have hF149 := Fr.tr hF0 hF146 rfl rfl
      have zv150 : ((-2) : Int32).toInt = (-2) := rfl
      refine At.enter rfl ?_
      refine r_ireti ?_
      have x151 := HI.eqI hI0 (p := 1) (b := 0) (hv140)
      have x152 := HI.eqI hI0 (p := 1) (b := 0) (hv140)
      exact ⟨_, rfl, hI145, hF149, _, rfl, by omega, ⟨⟨(by omega), (by intro i i0 i1; refine Eq.trans ?_ (if_neg (show ¬ ((0 ≤ a1.toInt ∧ a1.toInt < (gI g0 1 0).toInt ∧ 0 ≤ a2.toInt ∧ a2.toInt < (gI g0 1 0).toInt ∧ a1.toInt ≠ a2.toInt) ∧ i = a1.toInt) from by omega)).symm; refine Eq.trans ?_ (if_neg (show ¬ ((0 ≤ a1.toInt ∧ a1.toInt < (gI g0 1 0).toInt ∧ 0 ≤ a2.toInt ∧ a2.toInt < (gI g0 1 0).toInt ∧ a1.toInt ≠ a2.toInt) ∧ i = a2.toInt) from by omega)).symm; refine (eA_ti ((hF146.2.1 3 ma_X10_refused_0_3))).trans ?_; (first | with_reducible rfl | omega | exact eA_ix (by omega) | rfl)), (by intro i i0 i1; refine Eq.trans ?_ (if_neg (show ¬ ((0 ≤ a1.toInt ∧ a1.toInt < (gI g0 1 0).toInt ∧ 0 ≤ a2.toInt ∧ a2.toInt < (gI g0 1 0).toInt ∧ a1.toInt ≠ a2.toInt) ∧ i = a1.toInt) from by omega)).symm; refine Eq.trans ?_ (if_neg (show ¬ ((0 ≤ a1.toInt ∧ a1.toInt < (gI g0 1 0).toInt ∧ 0 ≤ a2.toInt ∧ a2.toInt < (gI g0 1 0).toInt ∧ a1.toInt ≠ a2.toInt) ∧ i = a2.toInt) from by omega)).symm; refine (eA_ti ((hF146.2.1 4 ma_X10_refused_0_4))).trans ?_; (first | with_reducible rfl | omega | exact eA_ix (by omega) | rfl))⟩, ⟨(fun t => (TOLDX_fr hF146 rfl rfl rfl rfl t)), (fun t => (SETX_fr hF146 rfl rfl rfl rfl rfl t))⟩⟩⟩
    · have c141_ : a1.toInt < v140.toInt := en_i_ge_f c141
      refine At.enter rfl ?_
      refine r_iconst 1 rfl ?_
      refine r_goto ?_
      refine At.enter rfl ?_
      refine q_iretz (by decide) ?_
      refine At.enter rfl ?_
      refine r_iff 11 rfl (by decide) ?_
      refine At.enter rfl ?_
      refine r_aload_n rfl ?_
      refine q_getR (Sh.ref hI0.1 kx_0 rfl) ?_
      refine r_iload_n rfl ?_
      refine q_inlV 19 rfl [.ref 1, .int a2] [] (Nat.le_of_ble_eq_true rfl) rfl ?_
      refine Ev.mk rfl rfl ⟨Nat.le_of_ble_eq_true rfl, Or.inr (q_rc hI0.1 kx_1 rfl)⟩ ?_
      show At _ none _ _ (0, [(0, .ref 1), (1, .int a2)], [], (_, _)) _
      refine At.enter rfl ?_
      refine r_iload_n rfl ?_
      refine r_ifs 4 rfl (fun c153 => ?_) (fun c153 => ?_)
      · have c153_ : a2.toInt < 0 := en_k_lt_t c153
        refine At.enter rfl ?_
        refine r_iconst 0 rfl ?_
        refine Ar.fall 17 rfl ?_
        refine At.enter rfl ?_
        refine q_iretz (by decide) ?_
        refine At.enter rfl ?_
        refine r_iff 22 rfl (by decide) ?_
        refine At.enter rfl ?_
        refine r_aload_n rfl ?_
        refine r_bipush (-2) rfl ?_
        refine r_callV 28 rfl [.ref 0, .int (-2)] [] (Nat.le_of_ble_eq_true rfl) rfl (T_X10_refused_0 _ hI0 (-2) (by decide)) ?_
        rintro _ _ ⟨g154, rfl, hI155, hF156, v157, rfl, hr158⟩
        refine At.sti ?_
        have hF159 := Fr.tr hF0 hF156 rfl rfl
        have zv160 : ((-2) : Int32).toInt = (-2) := rfl
        refine At.enter rfl ?_
        refine r_ireti ?_
        have x161 := HI.eqI hI0 (p := 1) (b := 0) (hv140)
        have x162 := HI.eqI hI0 (p := 1) (b := 0) (hv140)
        exact ⟨_, rfl, hI155, hF159, _, rfl, by omega, ⟨⟨(by omega), (by intro i i0 i1; refine Eq.trans ?_ (if_neg (show ¬ ((0 ≤ a1.toInt ∧ a1.toInt < (gI g0 1 0).toInt ∧ 0 ≤ a2.toInt ∧ a2.toInt < (gI g0 1 0).toInt ∧ a1.toInt ≠ a2.toInt) ∧ i = a1.toInt) from by omega)).symm; refine Eq.trans ?_ (if_neg (show ¬ ((0 ≤ a1.toInt ∧ a1.toInt < (gI g0 1 0).toInt ∧ 0 ≤ a2.toInt ∧ a2.toInt < (gI g0 1 0).toInt ∧ a1.toInt ≠ a2.toInt) ∧ i = a2.toInt) from by omega)).symm; refine (eA_ti ((hF156.2.1 3 ma_X10_refused_0_3))).trans ?_; (first | with_reducible rfl | omega | exact eA_ix (by omega) | rfl)), (by intro i i0 i1; refine Eq.trans ?_ (if_neg (show ¬ ((0 ≤ a1.toInt ∧ a1.toInt < (gI g0 1 0).toInt ∧ 0 ≤ a2.toInt ∧ a2.toInt < (gI g0 1 0).toInt ∧ a1.toInt ≠ a2.toInt) ∧ i = a1.toInt) from by omega)).symm; refine Eq.trans ?_ (if_neg (show ¬ ((0 ≤ a1.toInt ∧ a1.toInt < (gI g0 1 0).toInt ∧ 0 ≤ a2.toInt ∧ a2.toInt < (gI g0 1 0).toInt ∧ a1.toInt ≠ a2.toInt) ∧ i = a2.toInt) from by omega)).symm; refine (eA_ti ((hF156.2.1 4 ma_X10_refused_0_4))).trans ?_; (first | with_reducible rfl | omega | exact eA_ix (by omega) | rfl))⟩, ⟨(fun t => (TOLDX_fr hF156 rfl rfl rfl rfl t)), (fun t => (SETX_fr hF156 rfl rfl rfl rfl rfl t))⟩⟩⟩
      · have c153_ : a2.toInt ≥ 0 := en_k_lt_f c153
        refine At.enter rfl ?_
        refine r_iload_n rfl ?_
        refine r_aload_n rfl ?_
        refine q_getI (Sh.int hI0.1 kx_1 rfl) v140 hv140 ?_
        have bv164 := q_bnd a2
        refine r_ics 12 rfl (fun c163 => ?_) (fun c163 => ?_)
        · have c163_ : a2.toInt ≥ v140.toInt := en_i_ge_t c163
          refine At.enter rfl ?_
          refine r_iconst 0 rfl ?_
          refine Ar.fall 17 rfl ?_
          refine At.enter rfl ?_
          refine q_iretz (by decide) ?_
          refine At.enter rfl ?_
          refine r_iff 22 rfl (by decide) ?_
          refine At.enter rfl ?_
          refine r_aload_n rfl ?_
          refine r_bipush (-2) rfl ?_
          refine r_callV 28 rfl [.ref 0, .int (-2)] [] (Nat.le_of_ble_eq_true rfl) rfl (T_X10_refused_0 _ hI0 (-2) (by decide)) ?_
          rintro _ _ ⟨g165, rfl, hI166, hF167, v168, rfl, hr169⟩
          refine At.sti ?_
          have hF170 := Fr.tr hF0 hF167 rfl rfl
          have zv171 : ((-2) : Int32).toInt = (-2) := rfl
          refine At.enter rfl ?_
          refine r_ireti ?_
          have x172 := HI.eqI hI0 (p := 1) (b := 0) (hv140)
          have x173 := HI.eqI hI0 (p := 1) (b := 0) (hv140)
          exact ⟨_, rfl, hI166, hF170, _, rfl, by omega, ⟨⟨(by omega), (by intro i i0 i1; refine Eq.trans ?_ (if_neg (show ¬ ((0 ≤ a1.toInt ∧ a1.toInt < (gI g0 1 0).toInt ∧ 0 ≤ a2.toInt ∧ a2.toInt < (gI g0 1 0).toInt ∧ a1.toInt ≠ a2.toInt) ∧ i = a1.toInt) from by omega)).symm; refine Eq.trans ?_ (if_neg (show ¬ ((0 ≤ a1.toInt ∧ a1.toInt < (gI g0 1 0).toInt ∧ 0 ≤ a2.toInt ∧ a2.toInt < (gI g0 1 0).toInt ∧ a1.toInt ≠ a2.toInt) ∧ i = a2.toInt) from by omega)).symm; refine (eA_ti ((hF167.2.1 3 ma_X10_refused_0_3))).trans ?_; (first | with_reducible rfl | omega | exact eA_ix (by omega) | rfl)), (by intro i i0 i1; refine Eq.trans ?_ (if_neg (show ¬ ((0 ≤ a1.toInt ∧ a1.toInt < (gI g0 1 0).toInt ∧ 0 ≤ a2.toInt ∧ a2.toInt < (gI g0 1 0).toInt ∧ a1.toInt ≠ a2.toInt) ∧ i = a1.toInt) from by omega)).symm; refine Eq.trans ?_ (if_neg (show ¬ ((0 ≤ a1.toInt ∧ a1.toInt < (gI g0 1 0).toInt ∧ 0 ≤ a2.toInt ∧ a2.toInt < (gI g0 1 0).toInt ∧ a1.toInt ≠ a2.toInt) ∧ i = a2.toInt) from by omega)).symm; refine (eA_ti ((hF167.2.1 4 ma_X10_refused_0_4))).trans ?_; (first | with_reducible rfl | omega | exact eA_ix (by omega) | rfl))⟩, ⟨(fun t => (TOLDX_fr hF167 rfl rfl rfl rfl t)), (fun t => (SETX_fr hF167 rfl rfl rfl rfl rfl t))⟩⟩⟩
        · have c163_ : a2.toInt < v140.toInt := en_i_ge_f c163
          refine At.enter rfl ?_
          refine r_iconst 1 rfl ?_
          refine r_goto ?_
          refine At.enter rfl ?_
          refine q_iretz (by decide) ?_
          refine At.enter rfl ?_
          refine r_ift (by decide) ?_
          refine At.enter rfl ?_
          refine r_iload_n rfl ?_
          refine r_iload_n rfl ?_
          refine r_ics 34 rfl (fun c174 => ?_) (fun c174 => ?_)
          · have c174_ : a1.toInt ≠ a2.toInt := en_i_ne_t c174
            refine At.enter rfl ?_
            refine r_aload_n rfl ?_
            refine q_getR (Sh.ref hI0.1 kx_0 rfl) ?_
            refine q_getR (Sh.ref hI0.1 kx_1 rfl) ?_
            refine r_iload_n rfl ?_
            refine r_iload_n rfl ?_
            refine q_inlS 53 rfl [.ref 3, .int a1, .int a2] [] (Nat.le_of_ble_eq_true rfl) rfl ?_
            refine Ev.mk rfl rfl ⟨Nat.le_of_ble_eq_true rfl, Or.inl rfl⟩ ?_
            show At _ none _ _ (0, [(0, .ref 3), (1, .int a1), (2, .int a2)], [], (_, _)) _
            refine At.enter rfl ?_
            refine r_aload_n rfl ?_
            refine r_iload_n rfl ?_
            obtain ⟨v175, hv175⟩ : ∃ v, eA g0 3 a1.toInt = v := ⟨_, rfl⟩
            refine q_iald (Sh.arr hI0.1 ka_3) a1.toInt rfl (by omega) v175 hv175 ?_
            refine r_istore_n ([(3, .int v175), (0, .ref 3), (1, .int a1), (2, .int a2)]) rfl ?_
            refine r_aload_n rfl ?_
            refine r_iload_n rfl ?_
            refine r_aload_n rfl ?_
            refine r_iload_n rfl ?_
            obtain ⟨v176, hv176⟩ : ∃ v, eA g0 3 a2.toInt = v := ⟨_, rfl⟩
            refine q_iald (Sh.arr hI0.1 ka_3) a2.toInt rfl (by omega) v176 hv176 ?_
            refine q_iast (Sh.arr hI0.1 ka_3) (a1.toInt) rfl (by omega) ?_
            have hI177 := HI.wA0 hI0 ka_3 (p := 3) rfl rfl (a1.toInt) (v176)
            have hF178 := Fr.wA (p := 3) (j := a1.toInt) (v := v176) hF0 rfl
            refine r_aload_n rfl ?_
            refine r_iload_n rfl ?_
            refine r_iload_n rfl ?_
            refine q_iast (Sh.arr hI177.1 ka_3) (a2.toInt) rfl (by omega) ?_
            have hI179 := HI.wA0 hI177 ka_3 (p := 3) rfl rfl (a2.toInt) (v175)
            have hF180 := Fr.wA (p := 3) (j := a2.toInt) (v := v175) hF178 rfl
            refine q_vret ?_
            refine At.enter rfl ?_
            refine r_aload_n rfl ?_
            refine q_getR (Sh.ref hI179.1 kx_0 rfl) ?_
            refine q_getR (Sh.ref hI179.1 kx_1 rfl) ?_
            refine r_iload_n rfl ?_
            refine r_iload_n rfl ?_
            refine q_inlS 65 rfl [.ref 4, .int a1, .int a2] [] (Nat.le_of_ble_eq_true rfl) rfl ?_
            refine Ev.mk rfl rfl ⟨Nat.le_of_ble_eq_true rfl, Or.inl rfl⟩ ?_
            show At _ none _ _ (0, [(0, .ref 4), (1, .int a1), (2, .int a2)], [], (_, _)) _
            refine At.enter rfl ?_
            refine r_aload_n rfl ?_
            refine r_iload_n rfl ?_
            obtain ⟨v181, hv181⟩ : ∃ v, eA g0 4 a1.toInt = v := ⟨_, rfl⟩
            refine q_iald (Sh.arr hI179.1 ka_4) a1.toInt rfl (by omega) v181 ((eA_c ((gA_sA_ne (by decide)).trans (gA_sA_ne (by decide)))).trans hv181) ?_
            refine r_istore_n ([(3, .int v181), (0, .ref 4), (1, .int a1), (2, .int a2)]) rfl ?_
            refine r_aload_n rfl ?_
            refine r_iload_n rfl ?_
            refine r_aload_n rfl ?_
            refine r_iload_n rfl ?_
            obtain ⟨v182, hv182⟩ : ∃ v, eA g0 4 a2.toInt = v := ⟨_, rfl⟩
            refine q_iald (Sh.arr hI179.1 ka_4) a2.toInt rfl (by omega) v182 ((eA_c ((gA_sA_ne (by decide)).trans (gA_sA_ne (by decide)))).trans hv182) ?_
            refine q_iast (Sh.arr hI179.1 ka_4) (a1.toInt) rfl (by omega) ?_
            have hI183 := HI.wA0 hI179 ka_4 (p := 4) rfl rfl (a1.toInt) (v182)
            have hF184 := Fr.wA (p := 4) (j := a1.toInt) (v := v182) hF180 rfl
            refine r_aload_n rfl ?_
            refine r_iload_n rfl ?_
            refine r_iload_n rfl ?_
            refine q_iast (Sh.arr hI183.1 ka_4) (a2.toInt) rfl (by omega) ?_
            have hI185 := HI.wA0 hI183 ka_4 (p := 4) rfl rfl (a2.toInt) (v181)
            have hF186 := Fr.wA (p := 4) (j := a2.toInt) (v := v181) hF184 rfl
            refine q_vret ?_
            refine At.enter rfl ?_
            refine r_aload_n rfl ?_
            refine r_callV 69 rfl [.ref 0] [] (Nat.le_of_ble_eq_true rfl) rfl (T_X10_changed_0 _ hI185) ?_
            rintro _ _ ⟨g187, rfl, hI188, hF189, rfl, hr191⟩
            refine At.stn ?_
            have hF192 := Fr.tr hF186 hF189 rfl rfl
            refine At.enter rfl ?_
            refine r_aload_n rfl ?_
            refine r_iconst 0 rfl ?_
            refine q_inlV 74 rfl [.ref 0, .int 0] [] (Nat.le_of_ble_eq_true rfl) rfl ?_
            refine Ev.mk rfl rfl ⟨Nat.le_of_ble_eq_true rfl, Or.inr (q_rc hI188.1 kx_0 rfl)⟩ ?_
            show At _ none _ _ (0, [(0, .ref 0), (1, .int 0)], [], (_, _)) _
            refine At.enter rfl ?_
            refine r_aload_n rfl ?_
            refine r_iconst 0 rfl ?_
            refine q_putI (Sh.int hI188.1 kx_0 rfl) rfl ?_
            have hI193 := HI.wI0 hI188 kx_0 rfl (p := 0) (b := 17) (v := 0) rfl
            have hF194 := Fr.wI (p := 0) (b := 17) (v := 0) hF192 rfl
            refine r_iload_n rfl ?_
            refine q_ireti ?_
            refine At.enter rfl ?_
            refine r_ireti ?_
            have zv195 : (0 : Int32).toInt = 0 := rfl
            have x196 := HI.eqI hI0 (p := 1) (b := 0) (hv140)
            have x197 := HI.eqI hI0 (p := 1) (b := 0) (hv140)
            exact ⟨_, rfl, hI193, hF194, _, rfl, by decide, ⟨⟨(by omega), (by intro i i0 i1; exact (Decidable.em ((0 ≤ a1.toInt ∧ a1.toInt < (gI g0 1 0).toInt ∧ 0 ≤ a2.toInt ∧ a2.toInt < (gI g0 1 0).toInt ∧ a1.toInt ≠ a2.toInt) ∧ i = a1.toInt)).elim (fun k88_ => by refine Eq.trans ?_ (if_pos k88_).symm; refine (eA_ti (((gA_sI).trans ((hF189.2.1 3 ma_X10_changed_0_3).trans ((gA_sA_ne (by decide)).trans (gA_sA_ne (by decide))))))).trans ?_; exact (Decidable.em (i = a2.toInt)).elim (fun k89_ => by refine (eA_eqT hI177.1 ka_3 k89_ (by first | decide | omega) (by first | decide | omega)).trans ?_; (first | (with_reducible rfl) | (omega) | (refine (congrArg Int32.toInt hv175).symm.trans ?_; (first | with_reducible rfl | omega | exact eA_ix (by omega) | rfl)) | (rfl))) (fun k89_ => by refine (eA_neT hI177.1 ka_3 k89_ (by first | decide | omega) (by omega)).trans ?_; exact (Decidable.em (i = a1.toInt)).elim (fun k90_ => by refine (eA_eqT hI0.1 ka_3 k90_ (by first | decide | omega) (by first | decide | omega)).trans ?_; (first | (with_reducible rfl) | (omega) | (refine (congrArg Int32.toInt hv176).symm.trans ?_; (first | with_reducible rfl | omega | exact eA_ix (by omega) | rfl)) | (rfl))) (fun k90_ => by refine (eA_neT hI0.1 ka_3 k90_ (by first | decide | omega) (by omega)).trans ?_; (first | with_reducible rfl | omega | exact eA_ix (by omega) | rfl)))) (fun k88_ => by refine Eq.trans ?_ (if_neg k88_).symm; exact (Decidable.em ((0 ≤ a1.toInt ∧ a1.toInt < (gI g0 1 0).toInt ∧ 0 ≤ a2.toInt ∧ a2.toInt < (gI g0 1 0).toInt ∧ a1.toInt ≠ a2.toInt) ∧ i = a2.toInt)).elim (fun k91_ => by refine Eq.trans ?_ (if_pos k91_).symm; refine (eA_ti (((gA_sI).trans ((hF189.2.1 3 ma_X10_changed_0_3).trans ((gA_sA_ne (by decide)).trans (gA_sA_ne (by decide))))))).trans ?_; exact (Decidable.em (i = a2.toInt)).elim (fun k92_ => by refine (eA_eqT hI177.1 ka_3 k92_ (by first | decide | omega) (by first | decide | omega)).trans ?_; (first | (with_reducible rfl) | (omega) | (refine (congrArg Int32.toInt hv175).symm.trans ?_; (first | with_reducible rfl | omega | exact eA_ix (by omega) | rfl)) | (rfl))) (fun k92_ => by refine (eA_neT hI177.1 ka_3 k92_ (by first | decide | omega) (by omega)).trans ?_; exact (Decidable.em (i = a1.toInt)).elim (fun k93_ => by refine (eA_eqT hI0.1 ka_3 k93_ (by first | decide | omega) (by first | decide | omega)).trans ?_; (first | (with_reducible rfl) | (omega) | (refine (congrArg Int32.toInt hv176).symm.trans ?_; (first | with_reducible rfl | omega | exact eA_ix (by omega) | rfl)) | (rfl))) (fun k93_ => by refine (eA_neT hI0.1 ka_3 k93_ (by first | decide | omega) (by omega)).trans ?_; (first | with_reducible rfl | omega | exact eA_ix (by omega) | rfl)))) (fun k91_ => by refine Eq.trans ?_ (if_neg k91_).symm; refine (eA_ti (((gA_sI).trans ((hF189.2.1 3 ma_X10_changed_0_3).trans ((gA_sA_ne (by decide)).trans (gA_sA_ne (by decide))))))).trans ?_; exact (Decidable.em (i = a2.toInt)).elim (fun k94_ => by refine (eA_eqT hI177.1 ka_3 k94_ (by first | decide | omega) (by first | decide | omega)).trans ?_; (first | (with_reducible rfl) | (omega) | (refine (congrArg Int32.toInt hv175).symm.trans ?_; (first | with_reducible rfl | omega | exact eA_ix (by omega) | rfl)) | (rfl))) (fun k94_ => by refine (eA_neT hI177.1 ka_3 k94_ (by first | decide | omega) (by omega)).trans ?_; exact (Decidable.em (i = a1.toInt)).elim (fun k95_ => by refine (eA_eqT hI0.1 ka_3 k95_ (by first | decide | omega) (by first | decide | omega)).trans ?_; (first | (with_reducible rfl) | (omega) | (refine (congrArg Int32.toInt hv176).symm.trans ?_; (first | with_reducible rfl | omega | exact eA_ix (by omega) | rfl)) | (rfl))) (fun k95_ => by refine (eA_neT hI0.1 ka_3 k95_ (by first | decide | omega) (by omega)).trans ?_; (first | with_reducible rfl | omega | exact eA_ix (by omega) | rfl)))))), (by intro i i0 i1; exact (Decidable.em ((0 ≤ a1.toInt ∧ a1.toInt < (gI g0 1 0).toInt ∧ 0 ≤ a2.toInt ∧ a2.toInt < (gI g0 1 0).toInt ∧ a1.toInt ≠ a2.toInt) ∧ i = a1.toInt)).elim (fun k96_ => by refine Eq.trans ?_ (if_pos k96_).symm; refine (eA_ti (((gA_sI).trans (hF189.2.1 4 ma_X10_changed_0_4)))).trans ?_; exact (Decidable.em (i = a2.toInt)).elim (fun k97_ => by refine (eA_eqT hI183.1 ka_4 k97_ (by first | decide | omega) (by first | decide | omega)).trans ?_; (first | (with_reducible rfl) | (omega) | (refine (congrArg Int32.toInt hv181).symm.trans ?_; (first | with_reducible rfl | omega | exact eA_ix (by omega) | rfl)) | (rfl))) (fun k97_ => by refine (eA_neT hI183.1 ka_4 k97_ (by first | decide | omega) (by omega)).trans ?_; exact (Decidable.em (i = a1.toInt)).elim (fun k98_ => by refine (eA_eqT hI179.1 ka_4 k98_ (by first | decide | omega) (by first | decide | omega)).trans ?_; (first | (with_reducible rfl) | (omega) | (refine (congrArg Int32.toInt hv182).symm.trans ?_; (first | with_reducible rfl | omega | exact eA_ix (by omega) | rfl)) | (rfl))) (fun k98_ => by refine (eA_neT hI179.1 ka_4 k98_ (by first | decide | omega) (by omega)).trans ?_; refine (eA_ti (((gA_sA_ne (by decide)).trans (gA_sA_ne (by decide))))).trans ?_; (first | with_reducible rfl | omega | exact eA_ix (by omega) | rfl)))) (fun k96_ => by refine Eq.trans ?_ (if_neg k96_).symm; exact (Decidable.em ((0 ≤ a1.toInt ∧ a1.toInt < (gI g0 1 0).toInt ∧ 0 ≤ a2.toInt ∧ a2.toInt < (gI g0 1 0).toInt ∧ a1.toInt ≠ a2.toInt) ∧ i = a2.toInt)).elim (fun k99_ => by refine Eq.trans ?_ (if_pos k99_).symm; refine (eA_ti (((gA_sI).trans (hF189.2.1 4 ma_X10_changed_0_4)))).trans ?_; exact (Decidable.em (i = a2.toInt)).elim (fun k100_ => by refine (eA_eqT hI183.1 ka_4 k100_ (by first | decide | omega) (by first | decide | omega)).trans ?_; (first | (with_reducible rfl) | (omega) | (refine (congrArg Int32.toInt hv181).symm.trans ?_; (first | with_reducible rfl | omega | exact eA_ix (by omega) | rfl)) | (rfl))) (fun k100_ => by refine (eA_neT hI183.1 ka_4 k100_ (by first | decide | omega) (by omega)).trans ?_; exact (Decidable.em (i = a1.toInt)).elim (fun k101_ => by refine (eA_eqT hI179.1 ka_4 k101_ (by first | decide | omega) (by first | decide | omega)).trans ?_; (first | (with_reducible rfl) | (omega) | (refine (congrArg Int32.toInt hv182).symm.trans ?_; (first | with_reducible rfl | omega | exact eA_ix (by omega) | rfl)) | (rfl))) (fun k101_ => by refine (eA_neT hI179.1 ka_4 k101_ (by first | decide | omega) (by omega)).trans ?_; refine (eA_ti (((gA_sA_ne (by decide)).trans (gA_sA_ne (by decide))))).trans ?_; (first | with_reducible rfl | omega | exact eA_ix (by omega) | rfl)))) (fun k99_ => by refine Eq.trans ?_ (if_neg k99_).symm; refine (eA_ti (((gA_sI).trans (hF189.2.1 4 ma_X10_changed_0_4)))).trans ?_; exact (Decidable.em (i = a2.toInt)).elim (fun k102_ => by refine (eA_eqT hI183.1 ka_4 k102_ (by first | decide | omega) (by first | decide | omega)).trans ?_; (first | (with_reducible rfl) | (omega) | (refine (congrArg Int32.toInt hv181).symm.trans ?_; (first | with_reducible rfl | omega | exact eA_ix (by omega) | rfl)) | (rfl))) (fun k102_ => by refine (eA_neT hI183.1 ka_4 k102_ (by first | decide | omega) (by omega)).trans ?_; exact (Decidable.em (i = a1.toInt)).elim (fun k103_ => by refine (eA_eqT hI179.1 ka_4 k103_ (by first | decide | omega) (by first | decide | omega)).trans ?_; (first | (with_reducible rfl) | (omega) | (refine (congrArg Int32.toInt hv182).symm.trans ?_; (first | with_reducible rfl | omega | exact eA_ix (by omega) | rfl)) | (rfl))) (fun k103_ => by refine (eA_neT hI179.1 ka_4 k103_ (by first | decide | omega) (by omega)).trans ?_; refine (eA_ti (((gA_sA_ne (by decide)).trans (gA_sA_ne (by decide))))).trans ?_; (first | with_reducible rfl | omega | exact eA_ix (by omega) | rfl))))))⟩, ⟨(fun _ => TOLDX_z ((congrArg Int32.toInt ((gI_sI_ne (by decide)))).trans hr191.1)), (fun _ => SETX_z ((congrArg Int32.toInt ((gI_sI_ne (by decide)))).trans hr191.2))⟩⟩⟩
          · have c174_ : a1.toInt = a2.toInt := en_i_ne_f c174
            refine At.enter rfl ?_
            refine r_aload_n rfl ?_
            refine r_bipush (-3) rfl ?_
            refine r_callV 40 rfl [.ref 0, .int (-3)] [] (Nat.le_of_ble_eq_true rfl) rfl (T_X10_refused_0 _ hI0 (-3) (by decide)) ?_
            rintro _ _ ⟨g198, rfl, hI199, hF200, v201, rfl, hr202⟩
            refine At.sti ?_
            have hF203 := Fr.tr hF0 hF200 rfl rfl
            have zv204 : ((-3) : Int32).toInt = (-3) := rfl
            refine At.enter rfl ?_
            refine r_ireti ?_
            have x205 := HI.eqI hI0 (p := 1) (b := 0) (hv140)
            have x206 := HI.eqI hI0 (p := 1) (b := 0) (hv140)
            exact ⟨_, rfl, hI199, hF203, _, rfl, by omega, ⟨⟨(by omega), (by intro i i0 i1; refine Eq.trans ?_ (if_neg (show ¬ ((0 ≤ a1.toInt ∧ a1.toInt < (gI g0 1 0).toInt ∧ 0 ≤ a2.toInt ∧ a2.toInt < (gI g0 1 0).toInt ∧ a1.toInt ≠ a2.toInt) ∧ i = a1.toInt) from by omega)).symm; refine Eq.trans ?_ (if_neg (show ¬ ((0 ≤ a1.toInt ∧ a1.toInt < (gI g0 1 0).toInt ∧ 0 ≤ a2.toInt ∧ a2.toInt < (gI g0 1 0).toInt ∧ a1.toInt ≠ a2.toInt) ∧ i = a2.toInt) from by omega)).symm; refine (eA_ti ((hF200.2.1 3 ma_X10_refused_0_3))).trans ?_; (first | with_reducible rfl | omega | exact eA_ix (by omega) | rfl)), (by intro i i0 i1; refine Eq.trans ?_ (if_neg (show ¬ ((0 ≤ a1.toInt ∧ a1.toInt < (gI g0 1 0).toInt ∧ 0 ≤ a2.toInt ∧ a2.toInt < (gI g0 1 0).toInt ∧ a1.toInt ≠ a2.toInt) ∧ i = a1.toInt) from by omega)).symm; refine Eq.trans ?_ (if_neg (show ¬ ((0 ≤ a1.toInt ∧ a1.toInt < (gI g0 1 0).toInt ∧ 0 ≤ a2.toInt ∧ a2.toInt < (gI g0 1 0).toInt ∧ a1.toInt ≠ a2.toInt) ∧ i = a2.toInt) from by omega)).symm; refine (eA_ti ((hF200.2.1 4 ma_X10_refused_0_4))).trans ?_; (first | with_reducible rfl | omega | exact eA_ix (by omega) | rfl))⟩, ⟨(fun t => (TOLDX_fr hF200 rfl rfl rfl rfl t)), (fun t => (SETX_fr hF200 rfl rfl rfl rfl rfl t))⟩⟩⟩
