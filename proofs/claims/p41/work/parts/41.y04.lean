def F_X10_drop_0 : List (Nat × Nat) := [(0, 14), (0, 17), (1, 4), (220, 2), (222, 2), (223, 5), (223, 10)]
def A_X10_drop_0 : List Nat := [5, 230]
set_option maxRecDepth 100000 in
set_option maxHeartbeats 4000000 in
theorem T_X10_drop_0 (d : Nat) {N : Nat} {g0 : List en_E} (hI0 : HI g0) (a1 : Int32) : Ev (d + 3) 109 [.ref 0, .int a1] (g0, N) (fun w h' => ∃ g', h' = (g', N) ∧ HI g' ∧ Fr F_X10_drop_0 A_X10_drop_0 g0 g' ∧ ∃ r : Int32, w = some (.int r) ∧ ((-2) ≤ r.toInt ∧ r.toInt ≤ 8) ∧ ((((0 ≤ a1.toInt ∧ a1.toInt < (gI g0 1 4).toInt → r.toInt = (gI g0 1 4).toInt - 1 ∧ (gI g' 1 4).toInt = (gI g0 1 4).toInt - 1) ∧ (¬ (0 ≤ a1.toInt ∧ a1.toInt < (gI g0 1 4).toInt) → r.toInt = -2 ∧ (gI g' 1 4).toInt = (gI g0 1 4).toInt)) ∧ (∀ i : Int, 0 ≤ i → i < 48 → (eA g' 5 (i)).toInt = if (0 ≤ a1.toInt ∧ a1.toInt < (gI g0 1 4).toInt) ∧ 6 * a1.toInt ≤ i ∧ i < 6 * (gI g0 1 4).toInt - 6 then (eA g0 5 (i + 6)).toInt else (eA g0 5 (i)).toInt)) ∧ SU r.toInt (gI g' 0 17).toInt)) := by
  have hF0 : Fr F_X10_drop_0 A_X10_drop_0 g0 g0 := Fr.rf
  refine Ev.mk rfl rfl ⟨Nat.le_of_ble_eq_true rfl, Or.inr (q_rc hI0.1 kx_0 rfl)⟩ ?_
  show At _ none _ _ (0, [(0, .ref 0), (1, .int a1)], [], (_, _)) _
  refine At.enter rfl ?_
  refine r_aload_n rfl ?_
  refine q_getR (Sh.ref hI0.1 kx_0 rfl) ?_
  refine r_iload_n rfl ?_
  refine q_inlV 8 rfl [.ref 1, .int a1] [] (Nat.le_of_ble_eq_true rfl) rfl ?_
  refine Ev.mk rfl rfl ⟨Nat.le_of_ble_eq_true rfl, Or.inr (q_rc hI0.1 kx_1 rfl)⟩ ?_
  show At _ none _ _ (0, [(0, .ref 1), (1, .int a1)], [], (_, _)) _
  refine At.enter rfl ?_
  refine r_iload_n rfl ?_
  refine r_ifs 4 rfl (fun c69 => ?_) (fun c69 => ?_)
  · have c69_ : a1.toInt < 0 := en_k_lt_t c69
    refine At.enter rfl ?_
    refine r_iconst 0 rfl ?_
    refine Ar.fall 17 rfl ?_
    refine At.enter rfl ?_
    refine q_iretz (by decide) ?_
    refine At.enter rfl ?_
    refine r_iff 11 rfl (by decide) ?_
    refine At.enter rfl ?_
    refine r_aload_n rfl ?_
    refine r_bipush (-2) rfl ?_
    refine r_callV 17 rfl [.ref 0, .int (-2)] [] (Nat.le_of_ble_eq_true rfl) rfl (T_X10_refused_0 _ hI0 (-2) (by decide)) ?_
    rintro _ _ ⟨g70, rfl, hI71, hF72, v73, rfl, hr74⟩
    refine At.sti ?_
    have hF75 := Fr.tr hF0 hF72 rfl rfl
    have zv76 : ((-2) : Int32).toInt = (-2) := rfl
    refine At.enter rfl ?_
    refine r_ireti ?_
    obtain ⟨v77, hv77⟩ : ∃ v, gI g0 1 4 = v := ⟨_, rfl⟩
    have rv77 := RgF.at hI0.2.1 (p := 1) (b := 4) rfl
    rw [hv77] at rv77
    dsimp only at rv77
    have tv77 := congrArg Int32.toInt hv77
    have x78 := HI.eqI hI71 (p := 1) (b := 4) (((hF72.1 1 4 mf_X10_refused_0_1_4).trans hv77))
    obtain ⟨v80, hv80⟩ : ∃ v, gI g70 0 17 = v := ⟨_, rfl⟩
    have tv80 := congrArg Int32.toInt hv80
    exact ⟨_, rfl, hI71, hF75, _, rfl, by omega, ⟨⟨⟨by omega, by omega⟩, (by intro i i0 i1; refine Eq.trans ?_ (if_neg (show ¬ ((0 ≤ a1.toInt ∧ a1.toInt < (gI g0 1 4).toInt) ∧ 6 * a1.toInt ≤ i ∧ i < 6 * (gI g0 1 4).toInt - 6) from by omega)).symm; refine (eA_ti ((hF72.2.1 5 ma_X10_refused_0_5))).trans ?_; (first | with_reducible rfl | omega | exact eA_ix (by omega) | rfl))⟩, (SU.mk (by omega))⟩⟩
  · have c69_ : a1.toInt ≥ 0 := en_k_lt_f c69
    refine At.enter rfl ?_
    refine r_iload_n rfl ?_
    refine r_aload_n rfl ?_
    obtain ⟨v82, hv82⟩ : ∃ v, gI g0 1 4 = v := ⟨_, rfl⟩
    have rv82 := RgF.at hI0.2.1 (p := 1) (b := 4) rfl
    rw [hv82] at rv82
    dsimp only at rv82
    refine q_getI (Sh.int hI0.1 kx_1 rfl) v82 hv82 ?_
    have bv84 := q_bnd a1
    have bv85 := q_bnd v82
    refine r_ics 12 rfl (fun c83 => ?_) (fun c83 => ?_)
    · have c83_ : a1.toInt ≥ v82.toInt := en_i_ge_t c83
      refine At.enter rfl ?_
      refine r_iconst 0 rfl ?_
      refine Ar.fall 17 rfl ?_
      refine At.enter rfl ?_
      refine q_iretz (by decide) ?_
      refine At.enter rfl ?_
      refine r_iff 11 rfl (by decide) ?_
      refine At.enter rfl ?_
      refine r_aload_n rfl ?_
      refine r_bipush (-2) rfl ?_
      refine r_callV 17 rfl [.ref 0, .int (-2)] [] (Nat.le_of_ble_eq_true rfl) rfl (T_X10_refused_0 _ hI0 (-2) (by decide)) ?_
      rintro _ _ ⟨g86, rfl, hI87, hF88, v89, rfl, hr90⟩
      refine At.sti ?_
      have hF91 := Fr.tr hF0 hF88 rfl rfl
      have zv92 : ((-2) : Int32).toInt = (-2) := rfl
      refine At.enter rfl ?_
      refine r_ireti ?_
      have x93 := HI.eqI hI87 (p := 1) (b := 4) (((hF88.1 1 4 mf_X10_refused_0_1_4).trans hv82))
      have x94 := HI.eqI hI0 (p := 1) (b := 4) (hv82)
      obtain ⟨v95, hv95⟩ : ∃ v, gI g86 0 17 = v := ⟨_, rfl⟩
      have tv95 := congrArg Int32.toInt hv95
      exact ⟨_, rfl, hI87, hF91, _, rfl, by omega, ⟨⟨⟨by omega, by omega⟩, (by intro i i0 i1; refine Eq.trans ?_ (if_neg (show ¬ ((0 ≤ a1.toInt ∧ a1.toInt < (gI g0 1 4).toInt) ∧ 6 * a1.toInt ≤ i ∧ i < 6 * (gI g0 1 4).toInt - 6) from by omega)).symm; refine (eA_ti ((hF88.2.1 5 ma_X10_refused_0_5))).trans ?_; (first | with_reducible rfl | omega | exact eA_ix (by omega) | rfl))⟩, (SU.mk (by omega))⟩⟩
    · have c83_ : a1.toInt < v82.toInt := en_i_ge_f c83
      refine At.enter rfl ?_
      refine r_iconst 1 rfl ?_
      refine r_goto ?_
      refine At.enter rfl ?_
      refine q_iretz (by decide) ?_
      refine At.enter rfl ?_
      refine r_ift (by decide) ?_
      refine At.enter rfl ?_
      refine r_aload_n rfl ?_
      refine q_getR (Sh.ref hI0.1 kx_0 rfl) ?_
      refine r_iload_n rfl ?_
      refine r_callV 26 rfl [.ref 1, .int a1] [] (Nat.le_of_ble_eq_true rfl) rfl (T_X0_removeLoad_1 _ hI0 a1) ?_
      rintro _ _ ⟨g97, rfl, hI98, hF99, rfl, hr101⟩
      refine At.stn ?_
      have hF102 := Fr.tr hF0 hF99 rfl rfl
      have x103 := HI.eqI hI0 (p := 1) (b := 4) (hv82)
      obtain ⟨v104, hv104⟩ : ∃ v, gI g97 1 4 = v := ⟨_, rfl⟩
      have rv104 := RgF.at hI98.2.1 (p := 1) (b := 4) rfl
      rw [hv104] at rv104
      dsimp only at rv104
      have tv104 := congrArg Int32.toInt hv104
      refine At.enter rfl ?_
      refine r_aload_n rfl ?_
      refine r_callV 30 rfl [.ref 0] [] (Nat.le_of_ble_eq_true rfl) rfl (T_X10_changed_0 _ hI98) ?_
      rintro _ _ ⟨g106, rfl, hI107, hF108, rfl⟩
      refine At.stn ?_
      have hF111 := Fr.tr hF102 hF108 rfl rfl
      refine At.enter rfl ?_
      refine r_aload_n rfl ?_
      refine r_aload_n rfl ?_
      refine q_getR (Sh.ref hI107.1 kx_0 rfl) ?_
      refine q_getI (Sh.int hI107.1 kx_1 rfl) v104 ((hF108.1 1 4 mf_X10_changed_0_1_4).trans hv104) ?_
      refine q_inlV 41 rfl [.ref 0, .int v104] [] (Nat.le_of_ble_eq_true rfl) rfl ?_
      refine Ev.mk rfl rfl ⟨Nat.le_of_ble_eq_true rfl, Or.inr (q_rc hI107.1 kx_0 rfl)⟩ ?_
      show At _ none _ _ (0, [(0, .ref 0), (1, .int v104)], [], (_, _)) _
      refine At.enter rfl ?_
      refine r_aload_n rfl ?_
      refine r_iconst 0 rfl ?_
      refine q_putI (Sh.int hI107.1 kx_0 rfl) rfl ?_
      have hI112 := HI.wI0 hI107 kx_0 rfl (p := 0) (b := 17) (v := 0) rfl
      have hF113 := Fr.wI (p := 0) (b := 17) (v := 0) hF111 rfl
      refine r_iload_n rfl ?_
      refine q_ireti ?_
      refine At.enter rfl ?_
      refine r_ireti ?_
      have x114 := HI.eqI hI112 (p := 1) (b := 4) ((((gI_sI_ne (by decide)).trans (hF108.1 1 4 mf_X10_changed_0_1_4)).trans hv104))
      have x115 := HI.eqI hI0 (p := 1) (b := 4) (hv82)
      have x116 := HI.eqI hI112 (p := 0) (b := 17) ((gI_sI_eq hI107.1 kx_0 rfl _))
      have zv117 : (0 : Int32).toInt = 0 := rfl
      exact ⟨_, rfl, hI112, hF113, _, rfl, by omega, ⟨⟨⟨by omega, by omega⟩, (by intro i i0 i1; exact (Decidable.em ((0 ≤ a1.toInt ∧ a1.toInt < (gI g0 1 4).toInt) ∧ 6 * a1.toInt ≤ i ∧ i < 6 * (gI g0 1 4).toInt - 6)).elim (fun k81_ => by refine Eq.trans ?_ (if_pos k81_).symm; refine (eA_ti (((gA_sI).trans (hF108.2.1 5 ma_X10_changed_0_5)))).trans ?_; refine ((hr101.2.2 (i) (by first | exact i0 | omega) (by first | exact i1 | omega))).trans ?_; refine (if_pos k81_).trans ?_; (first | with_reducible rfl | omega | exact eA_ix (by omega) | rfl)) (fun k81_ => by refine Eq.trans ?_ (if_neg k81_).symm; refine (eA_ti (((gA_sI).trans (hF108.2.1 5 ma_X10_changed_0_5)))).trans ?_; refine ((hr101.2.2 (i) (by first | exact i0 | omega) (by first | exact i1 | omega))).trans ?_; refine (if_neg k81_).trans ?_; (first | with_reducible rfl | omega | exact eA_ix (by omega) | rfl)))⟩, (SU.mk (by omega))⟩⟩

def F_X10_terms_0 : List (Nat × Nat) := [(0, 14), (0, 17), (1, 10), (1, 11), (220, 2), (222, 2), (223, 5), (223, 10)]
def A_X10_terms_0 : List Nat := [230]
theorem mf_X10_refused_0_1_10 : memF F_X10_refused_0 1 10 = false := by decide
theorem mf_X10_refused_0_1_11 : memF F_X10_refused_0 1 11 = false := by decide
theorem mf_X10_changed_0_1_10 : memF F_X10_changed_0 1 10 = false := by decide
theorem mf_X10_changed_0_1_11 : memF F_X10_changed_0 1 11 = false := by decide
set_option maxRecDepth 100000 in
set_option maxHeartbeats 4000000 in
theorem T_X10_terms_0 (d : Nat) {N : Nat} {g0 : List en_E} (hI0 : HI g0) (a1 : Int32) (a2 : Int32) : Ev (d + 3) 110 [.ref 0, .int a1, .int a2] (g0, N) (fun w h' => ∃ g', h' = (g', N) ∧ HI g' ∧ Fr F_X10_terms_0 A_X10_terms_0 g0 g' ∧ ∃ r : Int32, w = some (.int r) ∧ True ∧ ((((a1.toInt = 0 ∧ 0 ≤ a2.toInt ∧ a2.toInt ≤ 99) → r.toInt = (gI g0 1 10).toInt ∧ (gI g' 1 10).toInt = a2.toInt ∧ (gI g' 1 11).toInt = (gI g0 1 11).toInt) ∧ ((a1.toInt = 1 ∧ 1 ≤ a2.toInt ∧ a2.toInt ≤ 4) → r.toInt = (gI g0 1 11).toInt ∧ (gI g' 1 11).toInt = a2.toInt ∧ (gI g' 1 10).toInt = (gI g0 1 10).toInt) ∧ (¬ (a1.toInt = 0 ∧ 0 ≤ a2.toInt ∧ a2.toInt ≤ 99) ∧ ¬ (a1.toInt = 1 ∧ 1 ≤ a2.toInt ∧ a2.toInt ≤ 4) → r.toInt = -1 ∧ (gI g' 1 10).toInt = (gI g0 1 10).toInt ∧ (gI g' 1 11).toInt = (gI g0 1 11).toInt)) ∧ SU3 ((a1.toInt = 0 ∧ 0 ≤ a2.toInt ∧ a2.toInt ≤ 99) ∨ (a1.toInt = 1 ∧ 1 ≤ a2.toInt ∧ a2.toInt ≤ 4)) True (gI g' 0 17).toInt)) := by
  have hF0 : Fr F_X10_terms_0 A_X10_terms_0 g0 g0 := Fr.rf
  refine Ev.mk rfl rfl ⟨Nat.le_of_ble_eq_true rfl, Or.inr (q_rc hI0.1 kx_0 rfl)⟩ ?_
  show At _ none _ _ (0, [(0, .ref 0), (1, .int a1), (2, .int a2)], [], (_, _)) _
  refine At.enter rfl ?_
  refine r_iload_n rfl ?_
  refine r_ifs 4 rfl (fun c131 => ?_) (fun c131 => ?_)
  · have c131_ : a1.toInt ≠ 0 := en_k_ne_t c131
    refine At.enter rfl ?_
    refine r_iload_n rfl ?_
    refine r_iconst 1 rfl ?_
    refine r_ics 38 rfl (fun c132 => ?_) (fun c132 => ?_)
    · have c132_ : a1.toInt ≠ 1 := en_i_ne_t c132
      refine At.enter rfl ?_
      refine r_aload_n rfl ?_
      refine r_iconst (-1) rfl ?_
      refine r_callV 71 rfl [.ref 0, .int (-1)] [] (Nat.le_of_ble_eq_true rfl) rfl (T_X10_refused_0 _ hI0 (-1) (by decide)) ?_
      rintro _ _ ⟨g133, rfl, hI134, hF135, v136, rfl, hr137⟩
      refine At.sti ?_
      have hF138 := Fr.tr hF0 hF135 rfl rfl
      have zv139 : ((-1) : Int32).toInt = (-1) := rfl
      refine At.enter rfl ?_
      refine r_ireti ?_
      obtain ⟨v140, hv140⟩ : ∃ v, gI g0 1 10 = v := ⟨_, rfl⟩
      have tv140 := congrArg Int32.toInt hv140
      have x141 := HI.eqI hI134 (p := 1) (b := 10) (((hF135.1 1 10 mf_X10_refused_0_1_10).trans hv140))
      obtain ⟨v142, hv142⟩ : ∃ v, gI g0 1 11 = v := ⟨_, rfl⟩
      have tv142 := congrArg Int32.toInt hv142
      have x143 := HI.eqI hI134 (p := 1) (b := 11) (((hF135.1 1 11 mf_X10_refused_0_1_11).trans hv142))
      obtain ⟨v146, hv146⟩ : ∃ v, gI g133 0 17 = v := ⟨_, rfl⟩
      have tv146 := congrArg Int32.toInt hv146
      exact ⟨_, rfl, hI134, hF138, _, rfl, trivial, ⟨(by omega), (SU3.mk (by simp only [not_true_eq_false, true_and, and_true, false_and, false_or, or_false]; omega))⟩⟩
    · have c132_ : a1.toInt = 1 := en_i_ne_f c132
      refine At.enter rfl ?_
      refine r_iload_n rfl ?_
      refine r_iconst 1 rfl ?_
      refine r_iconst 4 rfl ?_
      refine q_inlS 44 rfl [.int a2, .int 1, .int 4] [] (Nat.le_of_ble_eq_true rfl) rfl ?_
      refine Ev.mk rfl rfl ⟨Nat.le_of_ble_eq_true rfl, Or.inl rfl⟩ ?_
      show At _ none _ _ (0, [(0, .int a2), (1, .int 1), (2, .int 4)], [], (_, _)) _
      refine At.enter rfl ?_
      refine r_iload_n rfl ?_
      refine r_iload_n rfl ?_
      refine r_ics 5 rfl (fun c148 => ?_) (fun c148 => ?_)
      · have c148_ : a2.toInt < 1 := en_i_lt_t c148
        refine At.enter rfl ?_
        refine r_iconst 0 rfl ?_
        refine Ar.fall 15 rfl ?_
        refine At.enter rfl ?_
        refine q_iretz (by decide) ?_
        refine At.enter rfl ?_
        refine r_ift (by decide) ?_
        refine At.enter rfl ?_
        refine r_aload_n rfl ?_
        refine r_iconst (-1) rfl ?_
        refine r_callV 71 rfl [.ref 0, .int (-1)] [] (Nat.le_of_ble_eq_true rfl) rfl (T_X10_refused_0 _ hI0 (-1) (by decide)) ?_
        rintro _ _ ⟨g149, rfl, hI150, hF151, v152, rfl, hr153⟩
        refine At.sti ?_
        have hF154 := Fr.tr hF0 hF151 rfl rfl
        have zv155 : ((-1) : Int32).toInt = (-1) := rfl
        refine At.enter rfl ?_
        refine r_ireti ?_
        obtain ⟨v156, hv156⟩ : ∃ v, gI g0 1 10 = v := ⟨_, rfl⟩
        have tv156 := congrArg Int32.toInt hv156
        have x157 := HI.eqI hI150 (p := 1) (b := 10) (((hF151.1 1 10 mf_X10_refused_0_1_10).trans hv156))
        obtain ⟨v158, hv158⟩ : ∃ v, gI g0 1 11 = v := ⟨_, rfl⟩
        have tv158 := congrArg Int32.toInt hv158
        have x159 := HI.eqI hI150 (p := 1) (b := 11) (((hF151.1 1 11 mf_X10_refused_0_1_11).trans hv158))
        obtain ⟨v162, hv162⟩ : ∃ v, gI g149 0 17 = v := ⟨_, rfl⟩
        have tv162 := congrArg Int32.toInt hv162
        exact ⟨_, rfl, hI150, hF154, _, rfl, trivial, ⟨(by omega), (SU3.mk (by simp only [not_true_eq_false, true_and, and_true, false_and, false_or, or_false]; omega))⟩⟩
      · have c148_ : a2.toInt ≥ 1 := en_i_lt_f c148
        refine At.enter rfl ?_
        refine r_iload_n rfl ?_
        refine r_iload_n rfl ?_
        refine r_ics 10 rfl (fun c164 => ?_) (fun c164 => ?_)
        · have c164_ : a2.toInt > 4 := en_i_gt_t c164
          refine At.enter rfl ?_
          refine r_iconst 0 rfl ?_
          refine Ar.fall 15 rfl ?_
          refine At.enter rfl ?_
          refine q_iretz (by decide) ?_
          refine At.enter rfl ?_
          refine r_ift (by decide) ?_
          refine At.enter rfl ?_
          refine r_aload_n rfl ?_
          refine r_iconst (-1) rfl ?_
          refine r_callV 71 rfl [.ref 0, .int (-1)] [] (Nat.le_of_ble_eq_true rfl) rfl (T_X10_refused_0 _ hI0 (-1) (by decide)) ?_
          rintro _ _ ⟨g165, rfl, hI166, hF167, v168, rfl, hr169⟩
          refine At.sti ?_
          have hF170 := Fr.tr hF0 hF167 rfl rfl
          have zv171 : ((-1) : Int32).toInt = (-1) := rfl
          refine At.enter rfl ?_
          refine r_ireti ?_
          obtain ⟨v172, hv172⟩ : ∃ v, gI g0 1 10 = v := ⟨_, rfl⟩
          have tv172 := congrArg Int32.toInt hv172
          have x173 := HI.eqI hI166 (p := 1) (b := 10) (((hF167.1 1 10 mf_X10_refused_0_1_10).trans hv172))
          obtain ⟨v174, hv174⟩ : ∃ v, gI g0 1 11 = v := ⟨_, rfl⟩
          have tv174 := congrArg Int32.toInt hv174
          have x175 := HI.eqI hI166 (p := 1) (b := 11) (((hF167.1 1 11 mf_X10_refused_0_1_11).trans hv174))
          obtain ⟨v178, hv178⟩ : ∃ v, gI g165 0 17 = v := ⟨_, rfl⟩
          have tv178 := congrArg Int32.toInt hv178
          exact ⟨_, rfl, hI166, hF170, _, rfl, trivial, ⟨(by omega), (SU3.mk (by simp only [not_true_eq_false, true_and, and_true, false_and, false_or, or_false]; omega))⟩⟩
        · have c164_ : a2.toInt ≤ 4 := en_i_gt_f c164
          refine At.enter rfl ?_
          refine r_iconst 1 rfl ?_
          refine r_goto ?_
          refine At.enter rfl ?_
          refine q_iretz (by decide) ?_
          refine At.enter rfl ?_
          refine r_iff 47 rfl (by decide) ?_
          refine At.enter rfl ?_
          refine r_aload_n rfl ?_
          refine q_getR (Sh.ref hI0.1 kx_0 rfl) ?_
          obtain ⟨v180, hv180⟩ : ∃ v, gI g0 1 11 = v := ⟨_, rfl⟩
          refine q_getI (Sh.int hI0.1 kx_1 rfl) v180 hv180 ?_
          refine r_istore_n ([(3, .int v180), (0, .ref 0), (1, .int a1), (2, .int a2)]) rfl ?_
          refine r_aload_n rfl ?_
          refine q_getR (Sh.ref hI0.1 kx_0 rfl) ?_
          refine r_iload_n rfl ?_
          refine q_putI (Sh.int hI0.1 kx_1 rfl) rfl ?_
          have hI181 := HI.wI0 hI0 kx_1 rfl (p := 1) (b := 11) (v := a2) rfl
          have hF182 := Fr.wI (p := 1) (b := 11) (v := a2) hF0 rfl
          refine r_goto ?_
          refine At.enter rfl ?_
          refine r_aload_n rfl ?_
          refine r_callV 76 rfl [.ref 0] [] (Nat.le_of_ble_eq_true rfl) rfl (T_X10_changed_0 _ hI181) ?_
          rintro _ _ ⟨g183, rfl, hI184, hF185, rfl⟩
          refine At.stn ?_
          have hF188 := Fr.tr hF182 hF185 rfl rfl
          refine At.enter rfl ?_
          refine r_aload_n rfl ?_
          refine r_iload_n rfl ?_
          refine q_inlV 81 rfl [.ref 0, .int v180] [] (Nat.le_of_ble_eq_true rfl) rfl ?_
          refine Ev.mk rfl rfl ⟨Nat.le_of_ble_eq_true rfl, Or.inr (q_rc hI184.1 kx_0 rfl)⟩ ?_
          show At _ none _ _ (0, [(0, .ref 0), (1, .int v180)], [], (_, _)) _
          refine At.enter rfl ?_
          refine r_aload_n rfl ?_
          refine r_iconst 0 rfl ?_
          refine q_putI (Sh.int hI184.1 kx_0 rfl) rfl ?_
          have hI189 := HI.wI0 hI184 kx_0 rfl (p := 0) (b := 17) (v := 0) rfl
          have hF190 := Fr.wI (p := 0) (b := 17) (v := 0) hF188 rfl
          refine r_iload_n rfl ?_
          refine q_ireti ?_
          refine At.enter rfl ?_
          refine r_ireti ?_
          obtain ⟨v191, hv191⟩ : ∃ v, gI g0 1 10 = v := ⟨_, rfl⟩
          have tv191 := congrArg Int32.toInt hv191
          have x192 := HI.eqI hI189 (p := 1) (b := 10) ((((gI_sI_ne (by decide)).trans ((hF185.1 1 10 mf_X10_changed_0_1_10).trans (gI_sI_ne (by decide)))).trans hv191))
          have x193 := HI.eqI hI189 (p := 1) (b := 11) (((gI_sI_ne (by decide)).trans ((hF185.1 1 11 mf_X10_changed_0_1_11).trans (gI_sI_eq hI0.1 kx_1 rfl _))))
          have x195 := HI.eqI hI0 (p := 1) (b := 11) (hv180)
          have x196 := HI.eqI hI189 (p := 0) (b := 17) ((gI_sI_eq hI184.1 kx_0 rfl _))
          have zv197 : (0 : Int32).toInt = 0 := rfl
          exact ⟨_, rfl, hI189, hF190, _, rfl, trivial, ⟨(by omega), (SU3.mk (by simp only [not_true_eq_false, true_and, and_true, false_and, false_or, or_false]; omega))⟩⟩
  · have c131_ : a1.toInt = 0 := en_k_ne_f c131
    refine At.enter rfl ?_
    refine r_iload_n rfl ?_
    refine r_iconst 0 rfl ?_
    refine r_bipush 99 rfl ?_
    refine q_inlS 11 rfl [.int a2, .int 0, .int 99] [] (Nat.le_of_ble_eq_true rfl) rfl ?_
    refine Ev.mk rfl rfl ⟨Nat.le_of_ble_eq_true rfl, Or.inl rfl⟩ ?_
    show At _ none _ _ (0, [(0, .int a2), (1, .int 0), (2, .int 99)], [], (_, _)) _
    refine At.enter rfl ?_
    refine r_iload_n rfl ?_
    refine r_iload_n rfl ?_
    refine r_ics 5 rfl (fun c198 => ?_) (fun c198 => ?_)
    · have c198_ : a2.toInt < 0 := en_i_lt_t c198
      refine At.enter rfl ?_
      refine r_iconst 0 rfl ?_
      refine Ar.fall 15 rfl ?_
      refine At.enter rfl ?_
      refine q_iretz (by decide) ?_
      refine At.enter rfl ?_
      refine r_ift (by decide) ?_
      refine At.enter rfl ?_
      refine r_iload_n rfl ?_
      refine r_iconst 1 rfl ?_
      refine r_ics 38 rfl (fun c199 => ?_) (fun c199 => ?_)
      · have c199_ : a1.toInt ≠ 1 := en_i_ne_t c199
        refine At.enter rfl ?_
        refine r_aload_n rfl ?_
        refine r_iconst (-1) rfl ?_
        refine r_callV 71 rfl [.ref 0, .int (-1)] [] (Nat.le_of_ble_eq_true rfl) rfl (T_X10_refused_0 _ hI0 (-1) (by decide)) ?_
        rintro _ _ ⟨g200, rfl, hI201, hF202, v203, rfl, hr204⟩
        refine At.sti ?_
        have hF205 := Fr.tr hF0 hF202 rfl rfl
        have zv206 : ((-1) : Int32).toInt = (-1) := rfl
        refine At.enter rfl ?_
        refine r_ireti ?_
        obtain ⟨v207, hv207⟩ : ∃ v, gI g0 1 10 = v := ⟨_, rfl⟩
        have tv207 := congrArg Int32.toInt hv207
        have x208 := HI.eqI hI201 (p := 1) (b := 10) (((hF202.1 1 10 mf_X10_refused_0_1_10).trans hv207))
        obtain ⟨v209, hv209⟩ : ∃ v, gI g0 1 11 = v := ⟨_, rfl⟩
        have tv209 := congrArg Int32.toInt hv209
        have x210 := HI.eqI hI201 (p := 1) (b := 11) (((hF202.1 1 11 mf_X10_refused_0_1_11).trans hv209))
        obtain ⟨v213, hv213⟩ : ∃ v, gI g200 0 17 = v := ⟨_, rfl⟩
        have tv213 := congrArg Int32.toInt hv213
        exact ⟨_, rfl, hI201, hF205, _, rfl, trivial, ⟨(by omega), (SU3.mk (by simp only [not_true_eq_false, true_and, and_true, false_and, false_or, or_false]; omega))⟩⟩
      · have c199_ : a1.toInt = 1 := en_i_ne_f c199
        exfalso; omega
    · have c198_ : a2.toInt ≥ 0 := en_i_lt_f c198
      refine At.enter rfl ?_
      refine r_iload_n rfl ?_
      refine r_iload_n rfl ?_
      refine r_ics 10 rfl (fun c215 => ?_) (fun c215 => ?_)
      · have c215_ : a2.toInt > 99 := en_i_gt_t c215
        refine At.enter rfl ?_
        refine r_iconst 0 rfl ?_
        refine Ar.fall 15 rfl ?_
        refine At.enter rfl ?_
        refine q_iretz (by decide) ?_
        refine At.enter rfl ?_
        refine r_ift (by decide) ?_
        refine At.enter rfl ?_
        refine r_iload_n rfl ?_
        refine r_iconst 1 rfl ?_
        refine r_ics 38 rfl (fun c216 => ?_) (fun c216 => ?_)
        · have c216_ : a1.toInt ≠ 1 := en_i_ne_t c216
          refine At.enter rfl ?_
          refine r_aload_n rfl ?_
          refine r_iconst (-1) rfl ?_
          refine r_callV 71 rfl [.ref 0, .int (-1)] [] (Nat.le_of_ble_eq_true rfl) rfl (T_X10_refused_0 _ hI0 (-1) (by decide)) ?_
          rintro _ _ ⟨g217, rfl, hI218, hF219, v220, rfl, hr221⟩
          refine At.sti ?_
          have hF222 := Fr.tr hF0 hF219 rfl rfl
          have zv223 : ((-1) : Int32).toInt = (-1) := rfl
          refine At.enter rfl ?_
          refine r_ireti ?_
          obtain ⟨v224, hv224⟩ : ∃ v, gI g0 1 10 = v := ⟨_, rfl⟩
          have tv224 := congrArg Int32.toInt hv224
          have x225 := HI.eqI hI218 (p := 1) (b := 10) (((hF219.1 1 10 mf_X10_refused_0_1_10).trans hv224))
          obtain ⟨v226, hv226⟩ : ∃ v, gI g0 1 11 = v := ⟨_, rfl⟩
          have tv226 := congrArg Int32.toInt hv226
          have x227 := HI.eqI hI218 (p := 1) (b := 11) (((hF219.1 1 11 mf_X10_refused_0_1_11).trans hv226))
          obtain ⟨v230, hv230⟩ : ∃ v, gI g217 0 17 = v := ⟨_, rfl⟩
          have tv230 := congrArg Int32.toInt hv230
          exact ⟨_, rfl, hI218, hF222, _, rfl, trivial, ⟨(by omega), (SU3.mk (by simp only [not_true_eq_false, true_and, and_true, false_and, false_or, or_false]; omega))⟩⟩
        · have c216_ : a1.toInt = 1 := en_i_ne_f c216
          exfalso; omega
      · have c215_ : a2.toInt ≤ 99 := en_i_gt_f c215
        refine At.enter rfl ?_
        refine r_iconst 1 rfl ?_
        refine r_goto ?_
        refine At.enter rfl ?_
        refine q_iretz (by decide) ?_
        refine At.enter rfl ?_
        refine r_iff 14 rfl (by decide) ?_
        refine At.enter rfl ?_
        refine r_aload_n rfl ?_
        refine q_getR (Sh.ref hI0.1 kx_0 rfl) ?_
        obtain ⟨v232, hv232⟩ : ∃ v, gI g0 1 10 = v := ⟨_, rfl⟩
        refine q_getI (Sh.int hI0.1 kx_1 rfl) v232 hv232 ?_
        refine r_istore_n ([(3, .int v232), (0, .ref 0), (1, .int a1), (2, .int a2)]) rfl ?_
        refine r_aload_n rfl ?_
        refine q_getR (Sh.ref hI0.1 kx_0 rfl) ?_
        refine r_iload_n rfl ?_
        refine q_putI (Sh.int hI0.1 kx_1 rfl) rfl ?_
        have hI233 := HI.wI0 hI0 kx_1 rfl (p := 1) (b := 10) (v := a2) rfl
        have hF234 := Fr.wI (p := 1) (b := 10) (v := a2) hF0 rfl
        refine r_goto ?_
        refine At.enter rfl ?_
        refine r_aload_n rfl ?_
        refine r_callV 76 rfl [.ref 0] [] (Nat.le_of_ble_eq_true rfl) rfl (T_X10_changed_0 _ hI233) ?_
        rintro _ _ ⟨g235, rfl, hI236, hF237, rfl⟩
        refine At.stn ?_
        have hF240 := Fr.tr hF234 hF237 rfl rfl
        refine At.enter rfl ?_
        refine r_aload_n rfl ?_
        refine r_iload_n rfl ?_
        refine q_inlV 81 rfl [.ref 0, .int v232] [] (Nat.le_of_ble_eq_true rfl) rfl ?_
        refine Ev.mk rfl rfl ⟨Nat.le_of_ble_eq_true rfl, Or.inr (q_rc hI236.1 kx_0 rfl)⟩ ?_
        show At _ none _ _ (0, [(0, .ref 0), (1, .int v232)], [], (_, _)) _
        refine At.enter rfl ?_
        refine r_aload_n rfl ?_
        refine r_iconst 0 rfl ?_
        refine q_putI (Sh.int hI236.1 kx_0 rfl) rfl ?_
        have hI241 := HI.wI0 hI236 kx_0 rfl (p := 0) (b := 17) (v := 0) rfl
        have hF242 := Fr.wI (p := 0) (b := 17) (v := 0) hF240 rfl
        refine r_iload_n rfl ?_
        refine q_ireti ?_
        refine At.enter rfl ?_
        refine r_ireti ?_
        have x243 := HI.eqI hI241 (p := 1) (b := 10) (((gI_sI_ne (by decide)).trans ((hF237.1 1 10 mf_X10_changed_0_1_10).trans (gI_sI_eq hI0.1 kx_1 rfl _))))
        obtain ⟨v244, hv244⟩ : ∃ v, gI g0 1 11 = v := ⟨_, rfl⟩
        have tv244 := congrArg Int32.toInt hv244
        have x245 := HI.eqI hI241 (p := 1) (b := 11) ((((gI_sI_ne (by decide)).trans ((hF237.1 1 11 mf_X10_changed_0_1_11).trans (gI_sI_ne (by decide)))).trans hv244))
        have x246 := HI.eqI hI0 (p := 1) (b := 10) (hv232)
        have x248 := HI.eqI hI241 (p := 0) (b := 17) ((gI_sI_eq hI236.1 kx_0 rfl _))
        have zv249 : (0 : Int32).toInt = 0 := rfl
        exact ⟨_, rfl, hI241, hF242, _, rfl, trivial, ⟨(by omega), (SU3.mk (by simp only [not_true_eq_false, true_and, and_true, false_and, false_or, or_false]; omega))⟩⟩
