def F_X10_drop_0 : List (Nat × Nat) := [(0, 14), (0, 17), (1, 4), (220, 2), (222, 2), (223, 5), (223, 10)]
def A_X10_drop_0 : List Nat := [5, 230]
set_option maxRecDepth 100000 in
set_option maxHeartbeats 4000000 in
theorem T_X10_drop_0 (d : Nat) {N : Nat} {g0 : List en_E} (hI0 : HI g0) (a1 : Int32) : Ev (d + 3) 109 [.ref 0, .int a1] (g0, N) (fun w h' => ∃ g', h' = (g', N) ∧ HI g' ∧ Fr F_X10_drop_0 A_X10_drop_0 g0 g' ∧ ∃ r : Int32, w = some (.int r) ∧ ((-2) ≤ r.toInt ∧ r.toInt ≤ 8) ∧ ((((0 ≤ a1.toInt ∧ a1.toInt < (gI g0 1 4).toInt → r.toInt = (gI g0 1 4).toInt - 1 ∧ (gI g' 1 4).toInt = (gI g0 1 4).toInt - 1) ∧ (¬ (0 ≤ a1.toInt ∧ a1.toInt < (gI g0 1 4).toInt) → r.toInt = -2 ∧ (gI g' 1 4).toInt = (gI g0 1 4).toInt)) ∧ (∀ i : Int, 0 ≤ i → i < 48 → (eA g' 5 (i)).toInt = if (0 ≤ a1.toInt ∧ a1.toInt < (gI g0 1 4).toInt) ∧ 6 * a1.toInt ≤ i ∧ i < 6 * (gI g0 1 4).toInt - 6 then (eA g0 5 (i + 6)).toInt else (eA g0 5 (i)).toInt)) ∧ ((TOLDX g0 → TOLDX g') ∧ (SETX g0 → SETX g')))) := by
  have hF0 : Fr F_X10_drop_0 A_X10_drop_0 g0 g0 := Fr.rf
  refine Ev.mk rfl rfl ⟨Nat.le_of_ble_eq_true rfl, Or.inr (q_rc hI0.1 kx_0 rfl)⟩ ?_
  show At _ none _ _ (0, [(0, .ref 0), (1, .int a1)], [], (_, _)) _
  refine At.enter rfl ?_
  refine r_aload_n rfl ?_
  refine q_getR (Sh.ref hI0.1 kx_0 rfl) ?_
  refine r_iload_n rfl ?_
  refine q_inlV 8 rfl [.ref 1, .int a1] [] (Nat.le_of_ble_eq_true rfl) rfl ?_
  refine Ev.mk rfl rfl ⟨Nat.le_of_ble_eq_true rfl, Or.inr (q_rc hI0.1 kx_1 rfl)⟩ ?_
  show At _ none _ _ (0, [(0, .ref 1), (1, .int a1)], [], (_, _)) _
  refine At.enter rfl ?_
  refine r_iload_n rfl ?_
  refine r_ifs 4 rfl (fun c69 => ?_) (fun c69 => ?_)
  · have c69_ : a1.toInt < 0 := en_k_lt_t c69
    refine At.enter rfl ?_
    refine r_iconst 0 rfl ?_
    refine Ar.fall 17 rfl ?_
    refine At.enter rfl ?_
    refine q_iretz (by decide) ?_
    refine At.enter rfl ?_
    refine r_iff 11 rfl (by decide) ?_
    refine At.enter rfl ?_
    refine r_aload_n rfl ?_
    refine r_bipush (-2) rfl ?_
    refine r_callV 17 rfl [.ref 0, .int (-2)] [] (Nat.le_of_ble_eq_true rfl) rfl (T_X10_refused_0 _ hI0 (-2) (by decide)) ?_
    rintro _ _ ⟨g70, rfl, hI71, hF72, v73, rfl, hr74⟩
    refine At.sti ?_
    have hF75 := Fr.tr hF0 hF72 rfl rfl
    have zv76 : ((-2) : Int32).toInt = (-2) := rfl
    refine At.enter rfl ?_
    refine r_ireti ?_
    obtain ⟨v77, hv77⟩ : ∃ v, gI g0 1 4 = v := ⟨_, rfl⟩
    have rv77 := RgF.at hI0.2.1 (p := 1) (b := 4) rfl
    rw [hv77] at rv77
    dsimp only at rv77
    have tv77 := congrArg Int32.toInt hv77
    have x78 := HI.eqI hI71 (p := 1) (b := 4) (((hF72.1 1 4 mf_X10_refused_0_1_4).trans hv77))
    exact ⟨_, rfl, hI71, hF75, _, rfl, by omega, ⟨⟨⟨by omega, by omega⟩, (by intro i i0 i1; refine Eq.trans ?_ (if_neg (show ¬ ((0 ≤ a1.toInt ∧ a1.toInt < (gI g0 1 4).toInt) ∧ 6 * a1.toInt ≤ i ∧ i < 6 * (gI g0 1 4).toInt - 6) from by omega)).symm; refine (eA_ti ((hF72.2.1 5 ma_X10_refused_0_5))).trans ?_; (first | with_reducible rfl | omega | exact eA_ix (by omega) | rfl))⟩, ⟨(fun t => (TOLDX_fr hF72 rfl rfl rfl rfl t)), (fun t => (SETX_fr hF72 rfl rfl rfl rfl rfl t))⟩⟩⟩
  · have c69_ : a1.toInt ≥ 0 := en_k_lt_f c69
    refine At.enter rfl ?_
    refine r_iload_n rfl ?_
    refine r_aload_n rfl ?_
    obtain ⟨v80, hv80⟩ : ∃ v, gI g0 1 4 = v := ⟨_, rfl⟩
    have rv80 := RgF.at hI0.2.1 (p := 1) (b := 4) rfl
    rw [hv80] at rv80
    dsimp only at rv80
    refine q_getI (Sh.int hI0.1 kx_1 rfl) v80 hv80 ?_
    have bv82 := q_bnd a1
    have bv83 := q_bnd v80
    refine r_ics 12 rfl (fun c81 => ?_) (fun c81 => ?_)
    · have c81_ : a1.toInt ≥ v80.toInt := en_i_ge_t c81
      refine At.enter rfl ?_
      refine r_iconst 0 rfl ?_
      refine Ar.fall 17 rfl ?_
      refine At.enter rfl ?_
      refine q_iretz (by decide) ?_
      refine At.enter rfl ?_
      refine r_iff 11 rfl (by decide) ?_
      refine At.enter rfl ?_
      refine r_aload_n rfl ?_
      refine r_bipush (-2) rfl ?_
      refine r_callV 17 rfl [.ref 0, .int (-2)] [] (Nat.le_of_ble_eq_true rfl) rfl (T_X10_refused_0 _ hI0 (-2) (by decide)) ?_
      rintro _ _ ⟨g84, rfl, hI85, hF86, v87, rfl, hr88⟩
      refine At.sti ?_
      have hF89 := Fr.tr hF0 hF86 rfl rfl
      have zv90 : ((-2) : Int32).toInt = (-2) := rfl
      refine At.enter rfl ?_
      refine r_ireti ?_
      have x91 := HI.eqI hI85 (p := 1) (b := 4) (((hF86.1 1 4 mf_X10_refused_0_1_4).trans hv80))
      have x92 := HI.eqI hI0 (p := 1) (b := 4) (hv80)
      exact ⟨_, rfl, hI85, hF89, _, rfl, by omega, ⟨⟨⟨by omega, by omega⟩, (by intro i i0 i1; refine Eq.trans ?_ (if_neg (show ¬ ((0 ≤ a1.toInt ∧ a1.toInt < (gI g0 1 4).toInt) ∧ 6 * a1.toInt ≤ i ∧ i < 6 * (gI g0 1 4).toInt - 6) from by omega)).symm; refine (eA_ti ((hF86.2.1 5 ma_X10_refused_0_5))).trans ?_; (first | with_reducible rfl | omega | exact eA_ix (by omega) | rfl))⟩, ⟨(fun t => (TOLDX_fr hF86 rfl rfl rfl rfl t)), (fun t => (SETX_fr hF86 rfl rfl rfl rfl rfl t))⟩⟩⟩
    · have c81_ : a1.toInt < v80.toInt := en_i_ge_f c81
      refine At.enter rfl ?_
      refine r_iconst 1 rfl ?_
      refine r_goto ?_
      refine At.enter rfl ?_
      refine q_iretz (by decide) ?_
      refine At.enter rfl ?_
      refine r_ift (by decide) ?_
      refine At.enter rfl ?_
      refine r_aload_n rfl ?_
      refine q_getR (Sh.ref hI0.1 kx_0 rfl) ?_
      refine r_iload_n rfl ?_
      refine r_callV 26 rfl [.ref 1, .int a1] [] (Nat.le_of_ble_eq_true rfl) rfl (T_X0_removeLoad_1 _ hI0 a1) ?_
      rintro _ _ ⟨g93, rfl, hI94, hF95, rfl, hr97⟩
      refine At.stn ?_
      have hF98 := Fr.tr hF0 hF95 rfl rfl
      have x99 := HI.eqI hI0 (p := 1) (b := 4) (hv80)
      obtain ⟨v100, hv100⟩ : ∃ v, gI g93 1 4 = v := ⟨_, rfl⟩
      have rv100 := RgF.at hI94.2.1 (p := 1) (b := 4) rfl
      rw [hv100] at rv100
      dsimp only at rv100
      have tv100 := congrArg Int32.toInt hv100
      refine At.enter rfl ?_
      refine r_aload_n rfl ?_
      refine r_callV 30 rfl [.ref 0] [] (Nat.le_of_ble_eq_true rfl) rfl (T_X10_changed_0 _ hI94) ?_
      rintro _ _ ⟨g102, rfl, hI103, hF104, rfl, hr106⟩
      refine At.stn ?_
      have hF107 := Fr.tr hF98 hF104 rfl rfl
      refine At.enter rfl ?_
      refine r_aload_n rfl ?_
      refine r_aload_n rfl ?_
      refine q_getR (Sh.ref hI103.1 kx_0 rfl) ?_
      refine q_getI (Sh.int hI103.1 kx_1 rfl) v100 ((hF104.1 1 4 mf_X10_changed_0_1_4).trans hv100) ?_
      refine q_inlV 41 rfl [.ref 0, .int v100] [] (Nat.le_of_ble_eq_true rfl) rfl ?_
      refine Ev.mk rfl rfl ⟨Nat.le_of_ble_eq_true rfl, Or.inr (q_rc hI103.1 kx_0 rfl)⟩ ?_
      show At _ none _ _ (0, [(0, .ref 0), (1, .int v100)], [], (_, _)) _
      refine At.enter rfl ?_
      refine r_aload_n rfl ?_
      refine r_iconst 0 rfl ?_
      refine q_putI (Sh.int hI103.1 kx_0 rfl) rfl ?_
      have hI108 := HI.wI0 hI103 kx_0 rfl (p := 0) (b := 17) (v := 0) rfl
      have hF109 := Fr.wI (p := 0) (b := 17) (v := 0) hF107 rfl
      refine r_iload_n rfl ?_
      refine q_ireti ?_
      refine At.enter rfl ?_
      refine r_ireti ?_
      have x110 := HI.eqI hI108 (p := 1) (b := 4) ((((gI_sI_ne (by decide)).trans (hF104.1 1 4 mf_X10_changed_0_1_4)).trans hv100))
      have x111 := HI.eqI hI0 (p := 1) (b := 4) (hv80)
      exact ⟨_, rfl, hI108, hF109, _, rfl, by omega, ⟨⟨⟨by omega, by omega⟩, (by intro i i0 i1; exact (Decidable.em ((0 ≤ a1.toInt ∧ a1.toInt < (gI g0 1 4).toInt) ∧ 6 * a1.toInt ≤ i ∧ i < 6 * (gI g0 1 4).toInt - 6)).elim (fun k81_ => by refine Eq.trans ?_ (if_pos k81_).symm; refine (eA_ti (((gA_sI).trans (hF104.2.1 5 ma_X10_changed_0_5)))).trans ?_; refine ((hr97.2.2 (i) (by first | exact i0 | omega) (by first | exact i1 | omega))).trans ?_; refine (if_pos k81_).trans ?_; (first | with_reducible rfl | omega | exact eA_ix (by omega) | rfl)) (fun k81_ => by refine Eq.trans ?_ (if_neg k81_).symm; refine (eA_ti (((gA_sI).trans (hF104.2.1 5 ma_X10_changed_0_5)))).trans ?_; refine ((hr97.2.2 (i) (by first | exact i0 | omega) (by first | exact i1 | omega))).trans ?_; refine (if_neg k81_).trans ?_; (first | with_reducible rfl | omega | exact eA_ix (by omega) | rfl)))⟩, ⟨(fun _ => TOLDX_z ((congrArg Int32.toInt ((gI_sI_ne (by decide)))).trans hr106.1)), (fun _ => SETX_z ((congrArg Int32.toInt ((gI_sI_ne (by decide)))).trans hr106.2))⟩⟩⟩

def F_X10_terms_0 : List (Nat × Nat) := [(0, 14), (0, 17), (1, 10), (1, 11), (220, 2), (222, 2), (223, 5), (223, 10)]
def A_X10_terms_0 : List Nat := [230]
theorem mf_X10_refused_0_1_10 : memF F_X10_refused_0 1 10 = false := by decide
theorem mf_X10_refused_0_1_11 : memF F_X10_refused_0 1 11 = false := by decide
theorem mf_X10_changed_0_1_10 : memF F_X10_changed_0 1 10 = false := by decide
theorem mf_X10_changed_0_1_11 : memF F_X10_changed_0 1 11 = false := by decide
set_option maxRecDepth 100000 in
set_option maxHeartbeats 4000000 in
theorem T_X10_terms_0 (d : Nat) {N : Nat} {g0 : List en_E} (hI0 : HI g0) (a1 : Int32) (a2 : Int32) : Ev (d + 3) 110 [.ref 0, .int a1, .int a2] (g0, N) (fun w h' => ∃ g', h' = (g', N) ∧ HI g' ∧ Fr F_X10_terms_0 A_X10_terms_0 g0 g' ∧ ∃ r : Int32, w = some (.int r) ∧ True ∧ ((((a1.toInt = 0 ∧ 0 ≤ a2.toInt ∧ a2.toInt ≤ 99) → r.toInt = (gI g0 1 10).toInt ∧ (gI g' 1 10).toInt = a2.toInt ∧ (gI g' 1 11).toInt = (gI g0 1 11).toInt) ∧ ((a1.toInt = 1 ∧ 1 ≤ a2.toInt ∧ a2.toInt ≤ 4) → r.toInt = (gI g0 1 11).toInt ∧ (gI g' 1 11).toInt = a2.toInt ∧ (gI g' 1 10).toInt = (gI g0 1 10).toInt) ∧ (¬ (a1.toInt = 0 ∧ 0 ≤ a2.toInt ∧ a2.toInt ≤ 99) ∧ ¬ (a1.toInt = 1 ∧ 1 ≤ a2.toInt ∧ a2.toInt ≤ 4) → r.toInt = -1 ∧ (gI g' 1 10).toInt = (gI g0 1 10).toInt ∧ (gI g' 1 11).toInt = (gI g0 1 11).toInt)) ∧ ((TOLDX g0 → TOLDX g') ∧ (SETX g0 → SETX g')))) := by
  have hF0 : Fr F_X10_terms_0 A_X10_terms_0 g0 g0 := Fr.rf
  refine Ev.mk rfl rfl ⟨Nat.le_of_ble_eq_true rfl, Or.inr (q_rc hI0.1 kx_0 rfl)⟩ ?_
  show At _ none _ _ (0, [(0, .ref 0), (1, .int a1), (2, .int a2)], [], (_, _)) _
  refine At.enter rfl ?_
  refine r_iload_n rfl ?_
  refine r_ifs 4 rfl (fun c131 => ?_) (fun c131 => ?_)
  · have c131_ : a1.toInt ≠ 0 := en_k_ne_t c131
    refine At.enter rfl ?_
    refine r_iload_n rfl ?_
    refine r_iconst 1 rfl ?_
    refine r_ics 38 rfl (fun c132 => ?_) (fun c132 => ?_)
    · have c132_ : a1.toInt ≠ 1 := en_i_ne_t c132
      refine At.enter rfl ?_
      refine r_aload_n rfl ?_
      refine r_iconst (-1) rfl ?_
      refine r_callV 71 rfl [.ref 0, .int (-1)] [] (Nat.le_of_ble_eq_true rfl) rfl (T_X10_refused_0 _ hI0 (-1) (by decide)) ?_
      rintro _ _ ⟨g133, rfl, hI134, hF135, v136, rfl, hr137⟩
      refine At.sti ?_
      have hF138 := Fr.tr hF0 hF135 rfl rfl
      have zv139 : ((-1) : Int32).toInt = (-1) := rfl
      refine At.enter rfl ?_
      refine r_ireti ?_
      obtain ⟨v140, hv140⟩ : ∃ v, gI g0 1 10 = v := ⟨_, rfl⟩
      have tv140 := congrArg Int32.toInt hv140
      have x141 := HI.eqI hI134 (p := 1) (b := 10) (((hF135.1 1 10 mf_X10_refused_0_1_10).trans hv140))
      obtain ⟨v142, hv142⟩ : ∃ v, gI g0 1 11 = v := ⟨_, rfl⟩
      have tv142 := congrArg Int32.toInt hv142
      have x143 := HI.eqI hI134 (p := 1) (b := 11) (((hF135.1 1 11 mf_X10_refused_0_1_11).trans hv142))
      exact ⟨_, rfl, hI134, hF138, _, rfl, trivial, ⟨(by omega), ⟨(fun t => (TOLDX_fr hF135 rfl rfl rfl rfl t)), (fun t => (SETX_fr hF135 rfl rfl rfl rfl rfl t))⟩⟩⟩
    · have c132_ : a1.toInt = 1 := en_i_ne_f c132
      refine At.enter rfl ?_
      refine r_iload_n rfl ?_
      refine r_iconst 1 rfl ?_
      refine r_iconst 4 rfl ?_
      refine q_inlS 44 rfl [.int a2, .int 1, .int 4] [] (Nat.le_of_ble_eq_true rfl) rfl ?_
      refine Ev.mk rfl rfl ⟨Nat.le_of_ble_eq_true rfl, Or.inl rfl⟩ ?_
      show At _ none _ _ (0, [(0, .int a2), (1, .int 1), (2, .int 4)], [], (_, _)) _
      refine At.enter rfl ?_
      refine r_iload_n rfl ?_
      refine r_iload_n rfl ?_
      refine r_ics 5 rfl (fun c146 => ?_) (fun c146 => ?_)
      · have c146_ : a2.toInt < 1 := en_i_lt_t c146
        refine At.enter rfl ?_
        refine r_iconst 0 rfl ?_
        refine Ar.fall 15 rfl ?_
        refine At.enter rfl ?_
        refine q_iretz (by decide) ?_
        refine At.enter rfl ?_
        refine r_ift (by decide) ?_
        refine At.enter rfl ?_
        refine r_aload_n rfl ?_
        refine r_iconst (-1) rfl ?_
        refine r_callV 71 rfl [.ref 0, .int (-1)] [] (Nat.le_of_ble_eq_true rfl) rfl (T_X10_refused_0 _ hI0 (-1) (by decide)) ?_
        rintro _ _ ⟨g147, rfl, hI148, hF149, v150, rfl, hr151⟩
        refine At.sti ?_
        have hF152 := Fr.tr hF0 hF149 rfl rfl
        have zv153 : ((-1) : Int32).toInt = (-1) := rfl
        refine At.enter rfl ?_
        refine r_ireti ?_
        obtain ⟨v154, hv154⟩ : ∃ v, gI g0 1 10 = v := ⟨_, rfl⟩
        have tv154 := congrArg Int32.toInt hv154
        have x155 := HI.eqI hI148 (p := 1) (b := 10) (((hF149.1 1 10 mf_X10_refused_0_1_10).trans hv154))
        obtain ⟨v156, hv156⟩ : ∃ v, gI g0 1 11 = v := ⟨_, rfl⟩
        have tv156 := congrArg Int32.toInt hv156
        have x157 := HI.eqI hI148 (p := 1) (b := 11) (((hF149.1 1 11 mf_X10_refused_0_1_11).trans hv156))
        exact ⟨_, rfl, hI148, hF152, _, rfl, trivial, ⟨(by omega), ⟨(fun t => (TOLDX_fr hF149 rfl rfl rfl rfl t)), (fun t => (SETX_fr hF149 rfl rfl rfl rfl rfl t))⟩⟩⟩
      · have c146_ : a2.toInt ≥ 1 := en_i_lt_f c146
        refine At.enter rfl ?_
        refine r_iload_n rfl ?_
        refine r_iload_n rfl ?_
        refine r_ics 10 rfl (fun c160 => ?_) (fun c160 => ?_)
        · have c160_ : a2.toInt > 4 := en_i_gt_t c160
          refine At.enter rfl ?_
          refine r_iconst 0 rfl ?_
          refine Ar.fall 15 rfl ?_
          refine At.enter rfl ?_
          refine q_iretz (by decide) ?_
          refine At.enter rfl ?_
          refine r_ift (by decide) ?_
          refine At.enter rfl ?_
          refine r_aload_n rfl ?_
          refine r_iconst (-1) rfl ?_
          refine r_callV 71 rfl [.ref 0, .int (-1)] [] (Nat.le_of_ble_eq_true rfl) rfl (T_X10_refused_0 _ hI0 (-1) (by decide)) ?_
          rintro _ _ ⟨g161, rfl, hI162, hF163, v164, rfl, hr165⟩
          refine At.sti ?_
          have hF166 := Fr.tr hF0 hF163 rfl rfl
          have zv167 : ((-1) : Int32).toInt = (-1) := rfl
          refine At.enter rfl ?_
          refine r_ireti ?_
          obtain ⟨v168, hv168⟩ : ∃ v, gI g0 1 10 = v := ⟨_, rfl⟩
          have tv168 := congrArg Int32.toInt hv168
          have x169 := HI.eqI hI162 (p := 1) (b := 10) (((hF163.1 1 10 mf_X10_refused_0_1_10).trans hv168))
          obtain ⟨v170, hv170⟩ : ∃ v, gI g0 1 11 = v := ⟨_, rfl⟩
          have tv170 := congrArg Int32.toInt hv170
          have x171 := HI.eqI hI162 (p := 1) (b := 11) (((hF163.1 1 11 mf_X10_refused_0_1_11).trans hv170))
          exact ⟨_, rfl, hI162, hF166, _, rfl, trivial, ⟨(by omega), ⟨(fun t => (TOLDX_fr hF163 rfl rfl rfl rfl t)), (fun t => (SETX_fr hF163 rfl rfl rfl rfl rfl t))⟩⟩⟩
        · have c160_ : a2.toInt ≤ 4 := en_i_gt_f c160
          refine At.enter rfl ?_
          refine r_iconst 1 rfl ?_
          refine r_goto ?_
          refine At.enter rfl ?_
          refine q_iretz (by decide) ?_
          refine At.enter rfl ?_
          refine r_iff 47 rfl (by decide) ?_
          refine At.enter rfl ?_
          refine r_aload_n rfl ?_
          refine q_getR (Sh.ref hI0.1 kx_0 rfl) ?_
          obtain ⟨v174, hv174⟩ : ∃ v, gI g0 1 11 = v := ⟨_, rfl⟩
          refine q_getI (Sh.int hI0.1 kx_1 rfl) v174 hv174 ?_
          refine r_istore_n ([(3, .int v174), (0, .ref 0), (1, .int a1), (2, .int a2)]) rfl ?_
          refine r_aload_n rfl ?_
          refine q_getR (Sh.ref hI0.1 kx_0 rfl) ?_
          refine r_iload_n rfl ?_
          refine q_putI (Sh.int hI0.1 kx_1 rfl) rfl ?_
          have hI175 := HI.wI0 hI0 kx_1 rfl (p := 1) (b := 11) (v := a2) rfl
          have hF176 := Fr.wI (p := 1) (b := 11) (v := a2) hF0 rfl
          refine r_goto ?_
          refine At.enter rfl ?_
          refine r_aload_n rfl ?_
          refine r_callV 76 rfl [.ref 0] [] (Nat.le_of_ble_eq_true rfl) rfl (T_X10_changed_0 _ hI175) ?_
          rintro _ _ ⟨g177, rfl, hI178, hF179, rfl, hr181⟩
          refine At.stn ?_
          have hF182 := Fr.tr hF176 hF179 rfl rfl
          refine At.enter rfl ?_
          refine r_aload_n rfl ?_
          refine r_iload_n rfl ?_
          refine q_inlV 81 rfl [.ref 0, .int v174] [] (Nat.le_of_ble_eq_true rfl) rfl ?_
          refine Ev.mk rfl rfl ⟨Nat.le_of_ble_eq_true rfl, Or.inr (q_rc hI178.1 kx_0 rfl)⟩ ?_
          show At _ none _ _ (0, [(0, .ref 0), (1, .int v174)], [], (_, _)) _
          refine At.enter rfl ?_
          refine r_aload_n rfl ?_
          refine r_iconst 0 rfl ?_
          refine q_putI (Sh.int hI178.1 kx_0 rfl) rfl ?_
          have hI183 := HI.wI0 hI178 kx_0 rfl (p := 0) (b := 17) (v := 0) rfl
          have hF184 := Fr.wI (p := 0) (b := 17) (v := 0) hF182 rfl
          refine r_iload_n rfl ?_
          refine q_ireti ?_
          refine At.enter rfl ?_
          refine r_ireti ?_
          obtain ⟨v185, hv185⟩ : ∃ v, gI g0 1 10 = v := ⟨_, rfl⟩
          have tv185 := congrArg Int32.toInt hv185
          have x186 := HI.eqI hI183 (p := 1) (b := 10) ((((gI_sI_ne (by decide)).trans ((hF179.1 1 10 mf_X10_changed_0_1_10).trans (gI_sI_ne (by decide)))).trans hv185))
          have x187 := HI.eqI hI183 (p := 1) (b := 11) (((gI_sI_ne (by decide)).trans ((hF179.1 1 11 mf_X10_changed_0_1_11).trans (gI_sI_eq hI0.1 kx_1 rfl _))))
          have x189 := HI.eqI hI0 (p := 1) (b := 11) (hv174)
          exact ⟨_, rfl, hI183, hF184, _, rfl, trivial, ⟨(by omega), ⟨(fun _ => TOLDX_z ((congrArg Int32.toInt ((gI_sI_ne (by decide)))).trans hr181.1)), (fun _ => SETX_z ((congrArg Int32.toInt ((gI_sI_ne (by decide)))).trans hr181.2))⟩⟩⟩
  · have c131_ : a1.toInt = 0 := en_k_ne_f c131
    refine At.enter rfl ?_
    refine r_iload_n rfl ?_
    refine r_iconst 0 rfl ?_
    refine r_bipush 99 rfl ?_
    refine q_inlS 11 rfl [.int a2, .int 0, .int 99] [] (Nat.le_of_ble_eq_true rfl) rfl ?_
    refine Ev.mk rfl rfl ⟨Nat.le_of_ble_eq_true rfl, Or.inl rfl⟩ ?_
    show At _ none _ _ (0, [(0, .int a2), (1, .int 0), (2, .int 99)], [], (_, _)) _
    refine At.enter rfl ?_
    refine r_iload_n rfl ?_
    refine r_iload_n rfl ?_
    refine r_ics 5 rfl (fun c190 => ?_) (fun c190 => ?_)
    · have c190_ : a2.toInt < 0 := en_i_lt_t c190
      refine At.enter rfl ?_
      refine r_iconst 0 rfl ?_
      refine Ar.fall 15 rfl ?_
      refine At.enter rfl ?_
      refine q_iretz (by decide) ?_
      refine At.enter rfl ?_
      refine r_ift (by decide) ?_
      refine At.enter rfl ?_
      refine r_iload_n rfl ?_
      refine r_iconst 1 rfl ?_
      refine r_ics 38 rfl (fun c191 => ?_) (fun c191 => ?_)
      · have c191_ : a1.toInt ≠ 1 := en_i_ne_t c191
        refine At.enter rfl ?_
        refine r_aload_n rfl ?_
        refine r_iconst (-1) rfl ?_
        refine r_callV 71 rfl [.ref 0, .int (-1)] [] (Nat.le_of_ble_eq_true rfl) rfl (T_X10_refused_0 _ hI0 (-1) (by decide)) ?_
        rintro _ _ ⟨g192, rfl, hI193, hF194, v195, rfl, hr196⟩
        refine At.sti ?_
        have hF197 := Fr.tr hF0 hF194 rfl rfl
        have zv198 : ((-1) : Int32).toInt = (-1) := rfl
        refine At.enter rfl ?_
        refine r_ireti ?_
        obtain ⟨v199, hv199⟩ : ∃ v, gI g0 1 10 = v := ⟨_, rfl⟩
        have tv199 := congrArg Int32.toInt hv199
        have x200 := HI.eqI hI193 (p := 1) (b := 10) (((hF194.1 1 10 mf_X10_refused_0_1_10).trans hv199))
        obtain ⟨v201, hv201⟩ : ∃ v, gI g0 1 11 = v := ⟨_, rfl⟩
        have tv201 := congrArg Int32.toInt hv201
        have x202 := HI.eqI hI193 (p := 1) (b := 11) (((hF194.1 1 11 mf_X10_refused_0_1_11).trans hv201))
        exact ⟨_, rfl, hI193, hF197, _, rfl, trivial, ⟨(by omega), ⟨(fun t => (TOLDX_fr hF194 rfl rfl rfl rfl t)), (fun t => (SETX_fr hF194 rfl rfl rfl rfl rfl t))⟩⟩⟩
      · have c191_ : a1.toInt = 1 := en_i_ne_f c191
        exfalso; omega
    · have c190_ : a2.toInt ≥ 0 := en_i_lt_f c190
      refine At.enter rfl ?_
      refine r_iload_n rfl ?_
      refine r_iload_n rfl ?_
      refine r_ics 10 rfl (fun c205 => ?_) (fun c205 => ?_)
      · have c205_ : a2.toInt > 99 := en_i_gt_t c205
        refine At.enter rfl ?_
        refine r_iconst 0 rfl ?_
        refine Ar.fall 15 rfl ?_
        refine At.enter rfl ?_
        refine q_iretz (by decide) ?_
        refine At.enter rfl ?_
        refine r_ift (by decide) ?_
        refine At.enter rfl ?_
        refine r_iload_n rfl ?_
        refine r_iconst 1 rfl ?_
        refine r_ics 38 rfl (fun c206 => ?_) (fun c206 => ?_)
        · have c206_ : a1.toInt ≠ 1 := en_i_ne_t c206
          refine At.enter rfl ?_
          refine r_aload_n rfl ?_
          refine r_iconst (-1) rfl ?_
          refine r_callV 71 rfl [.ref 0, .int (-1)] [] (Nat.le_of_ble_eq_true rfl) rfl (T_X10_refused_0 _ hI0 (-1) (by decide)) ?_
          rintro _ _ ⟨g207, rfl, hI208, hF209, v210, rfl, hr211⟩
          refine At.sti ?_
          have hF212 := Fr.tr hF0 hF209 rfl rfl
          have zv213 : ((-1) : Int32).toInt = (-1) := rfl
          refine At.enter rfl ?_
          refine r_ireti ?_
          obtain ⟨v214, hv214⟩ : ∃ v, gI g0 1 10 = v := ⟨_, rfl⟩
          have tv214 := congrArg Int32.toInt hv214
          have x215 := HI.eqI hI208 (p := 1) (b := 10) (((hF209.1 1 10 mf_X10_refused_0_1_10).trans hv214))
          obtain ⟨v216, hv216⟩ : ∃ v, gI g0 1 11 = v := ⟨_, rfl⟩
          have tv216 := congrArg Int32.toInt hv216
          have x217 := HI.eqI hI208 (p := 1) (b := 11) (((hF209.1 1 11 mf_X10_refused_0_1_11).trans hv216))
          exact ⟨_, rfl, hI208, hF212, _, rfl, trivial, ⟨(by omega), ⟨(fun t => (TOLDX_fr hF209 rfl rfl rfl rfl t)), (fun t => (SETX_fr hF209 rfl rfl rfl rfl rfl t))⟩⟩⟩
        · have c206_ : a1.toInt = 1 := en_i_ne_f c206
          exfalso; omega
      · have c205_ : a2.toInt ≤ 99 := en_i_gt_f c205
        refine At.enter rfl ?_
        refine r_iconst 1 rfl ?_
        refine r_goto ?_
        refine At.enter rfl ?_
        refine q_iretz (by decide) ?_
        refine At.enter rfl ?_
        refine r_iff 14 rfl (by decide) ?_
        refine At.enter rfl ?_
        refine r_aload_n rfl ?_
        refine q_getR (Sh.ref hI0.1 kx_0 rfl) ?_
        obtain ⟨v220, hv220⟩ : ∃ v, gI g0 1 10 = v := ⟨_, rfl⟩
        refine q_getI (Sh.int hI0.1 kx_1 rfl) v220 hv220 ?_
        refine r_istore_n ([(3, .int v220), (0, .ref 0), (1, .int a1), (2, .int a2)]) rfl ?_
        refine r_aload_n rfl ?_
        refine q_getR (Sh.ref hI0.1 kx_0 rfl) ?_
        refine r_iload_n rfl ?_
        refine q_putI (Sh.int hI0.1 kx_1 rfl) rfl ?_
        have hI221 := HI.wI0 hI0 kx_1 rfl (p := 1) (b := 10) (v := a2) rfl
        have hF222 := Fr.wI (p := 1) (b := 10) (v := a2) hF0 rfl
        refine r_goto ?_
        refine At.enter rfl ?_
        refine r_aload_n rfl ?_
        refine r_callV 76 rfl [.ref 0] [] (Nat.le_of_ble_eq_true rfl) rfl (T_X10_changed_0 _ hI221) ?_
        rintro _ _ ⟨g223, rfl, hI224, hF225, rfl, hr227⟩
        refine At.stn ?_
        have hF228 := Fr.tr hF222 hF225 rfl rfl
        refine At.enter rfl ?_
        refine r_aload_n rfl ?_
        refine r_iload_n rfl ?_
        refine q_inlV 81 rfl [.ref 0, .int v220] [] (Nat.le_of_ble_eq_true rfl) rfl ?_
        refine Ev.mk rfl rfl ⟨Nat.le_of_ble_eq_true rfl, Or.inr (q_rc hI224.1 kx_0 rfl)⟩ ?_
        show At _ none _ _ (0, [(0, .ref 0), (1, .int v220)], [], (_, _)) _
        refine At.enter rfl ?_
        refine r_aload_n rfl ?_
        refine r_iconst 0 rfl ?_
        refine q_putI (Sh.int hI224.1 kx_0 rfl) rfl ?_
        have hI229 := HI.wI0 hI224 kx_0 rfl (p := 0) (b := 17) (v := 0) rfl
        have hF230 := Fr.wI (p := 0) (b := 17) (v := 0) hF228 rfl
        refine r_iload_n rfl ?_
        refine q_ireti ?_
        refine At.enter rfl ?_
        refine r_ireti ?_
        have x231 := HI.eqI hI229 (p := 1) (b := 10) (((gI_sI_ne (by decide)).trans ((hF225.1 1 10 mf_X10_changed_0_1_10).trans (gI_sI_eq hI0.1 kx_1 rfl _))))
        obtain ⟨v232, hv232⟩ : ∃ v, gI g0 1 11 = v := ⟨_, rfl⟩
        have tv232 := congrArg Int32.toInt hv232
        have x233 := HI.eqI hI229 (p := 1) (b := 11) ((((gI_sI_ne (by decide)).trans ((hF225.1 1 11 mf_X10_changed_0_1_11).trans (gI_sI_ne (by decide)))).trans hv232))
        have x234 := HI.eqI hI0 (p := 1) (b := 10) (hv220)
        exact ⟨_, rfl, hI229, hF230, _, rfl, trivial, ⟨(by omega), ⟨(fun _ => TOLDX_z ((congrArg Int32.toInt ((gI_sI_ne (by decide)))).trans hr227.1)), (fun _ => SETX_z ((congrArg Int32.toInt ((gI_sI_ne (by decide)))).trans hr227.2))⟩⟩⟩
