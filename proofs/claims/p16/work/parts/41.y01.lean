def F_X10_drop_0 : List (Nat × Nat) := [(0, 14), (0, 17), (1, 4), (220, 2), (222, 2), (223, 5), (223, 10)]
def A_X10_drop_0 : List Nat := [5, 230]
set_option maxRecDepth 100000 in
set_option maxHeartbeats 4000000 in
theorem T_X10_drop_0 (d : Nat) {N : Nat} {g0 : List en_E} (hI0 : HI g0) (a1 : Int32) : Ev (d + 3) 109 [.ref 0, .int a1] (g0, N) (fun w h' => ∃ g', h' = (g', N) ∧ HI g' ∧ Fr F_X10_drop_0 A_X10_drop_0 g0 g' ∧ ∃ r : Int32, w = some (.int r) ∧ ((-2) ≤ r.toInt ∧ r.toInt ≤ 8) ∧ (((0 ≤ a1.toInt ∧ a1.toInt < (gI g0 1 4).toInt → r.toInt = (gI g0 1 4).toInt - 1 ∧ (gI g' 1 4).toInt = (gI g0 1 4).toInt - 1) ∧ (¬ (0 ≤ a1.toInt ∧ a1.toInt < (gI g0 1 4).toInt) → r.toInt = -2 ∧ (gI g' 1 4).toInt = (gI g0 1 4).toInt)) ∧ (∀ i : Int, 0 ≤ i → i < 48 → (eA g' 5 (i)).toInt = if (0 ≤ a1.toInt ∧ a1.toInt < (gI g0 1 4).toInt) ∧ 6 * a1.toInt ≤ i ∧ i < 6 * (gI g0 1 4).toInt - 6 then (eA g0 5 (i + 6)).toInt else (eA g0 5 (i)).toInt))) := by
  have hF0 : Fr F_X10_drop_0 A_X10_drop_0 g0 g0 := Fr.rf
  refine Ev.mk rfl rfl ⟨Nat.le_of_ble_eq_true rfl, Or.inr (q_rc hI0.1 kx_0 rfl)⟩ ?_
  show At _ none _ _ (0, [(0, .ref 0), (1, .int a1)], [], (_, _)) _
  refine At.enter rfl ?_
  refine r_aload_n rfl ?_
  refine q_getR (Sh.ref hI0.1 kx_0 rfl) ?_
  refine r_iload_n rfl ?_
  refine q_inlV 8 rfl [.ref 1, .int a1] [] (Nat.le_of_ble_eq_true rfl) rfl ?_
  refine Ev.mk rfl rfl ⟨Nat.le_of_ble_eq_true rfl, Or.inr (q_rc hI0.1 kx_1 rfl)⟩ ?_
  show At _ none _ _ (0, [(0, .ref 1), (1, .int a1)], [], (_, _)) _
  refine At.enter rfl ?_
  refine r_iload_n rfl ?_
  refine r_ifs 4 rfl (fun c69 => ?_) (fun c69 => ?_)
  · have c69_ : a1.toInt < 0 := en_k_lt_t c69
    refine At.enter rfl ?_
    refine r_iconst 0 rfl ?_
    refine Ar.fall 17 rfl ?_
    refine At.enter rfl ?_
    refine q_iretz (by decide) ?_
    refine At.enter rfl ?_
    refine r_iff 11 rfl (by decide) ?_
    refine At.enter rfl ?_
    refine r_aload_n rfl ?_
    refine r_bipush (-2) rfl ?_
    refine r_callV 17 rfl [.ref 0, .int (-2)] [] (Nat.le_of_ble_eq_true rfl) rfl (T_X10_refused_0 _ hI0 (-2) (by decide)) ?_
    rintro _ _ ⟨g70, rfl, hI71, hF72, v73, rfl, hr74⟩
    refine At.sti ?_
    have hF75 := Fr.tr hF0 hF72 rfl rfl
    have zv76 : ((-2) : Int32).toInt = (-2) := rfl
    refine At.enter rfl ?_
    refine r_ireti ?_
    obtain ⟨v77, hv77⟩ : ∃ v, gI g0 1 4 = v := ⟨_, rfl⟩
    have rv77 := RgF.at hI0.2.1 (p := 1) (b := 4) rfl
    rw [hv77] at rv77
    dsimp only at rv77
    have tv77 := congrArg Int32.toInt hv77
    have x78 := HI.eqI hI71 (p := 1) (b := 4) (((hF72.1 1 4 (by decide)).trans hv77))
    have x79 := HI.eqI hI0 (p := 1) (b := 4) (hv77)
    exact ⟨_, rfl, hI71, hF75, _, rfl, by omega, ⟨⟨by omega, by omega⟩, (by intro i i0 i1; refine Eq.trans ?_ (if_neg (show ¬ ((0 ≤ a1.toInt ∧ a1.toInt < (gI g0 1 4).toInt) ∧ 6 * a1.toInt ≤ i ∧ i < 6 * (gI g0 1 4).toInt - 6) from by omega)).symm; refine (eA_ti ((hF72.2.1 5 (by decide)))).trans ?_; (first | rfl | exact eA_ix (by omega) | omega))⟩⟩
  · have c69_ : a1.toInt ≥ 0 := en_k_lt_f c69
    refine At.enter rfl ?_
    refine r_iload_n rfl ?_
    refine r_aload_n rfl ?_
    obtain ⟨v80, hv80⟩ : ∃ v, gI g0 1 4 = v := ⟨_, rfl⟩
    have rv80 := RgF.at hI0.2.1 (p := 1) (b := 4) rfl
    rw [hv80] at rv80
    dsimp only at rv80
    refine q_getI (Sh.int hI0.1 kx_1 rfl) v80 hv80 ?_
    have bv82 := q_bnd a1
    have bv83 := q_bnd v80
    refine r_ics 12 rfl (fun c81 => ?_) (fun c81 => ?_)
    · have c81_ : a1.toInt ≥ v80.toInt := en_i_ge_t c81
      refine At.enter rfl ?_
      refine r_iconst 0 rfl ?_
      refine Ar.fall 17 rfl ?_
      refine At.enter rfl ?_
      refine q_iretz (by decide) ?_
      refine At.enter rfl ?_
      refine r_iff 11 rfl (by decide) ?_
      refine At.enter rfl ?_
      refine r_aload_n rfl ?_
      refine r_bipush (-2) rfl ?_
      refine r_callV 17 rfl [.ref 0, .int (-2)] [] (Nat.le_of_ble_eq_true rfl) rfl (T_X10_refused_0 _ hI0 (-2) (by decide)) ?_
      rintro _ _ ⟨g84, rfl, hI85, hF86, v87, rfl, hr88⟩
      refine At.sti ?_
      have hF89 := Fr.tr hF0 hF86 rfl rfl
      have zv90 : ((-2) : Int32).toInt = (-2) := rfl
      refine At.enter rfl ?_
      refine r_ireti ?_
      have x91 := HI.eqI hI85 (p := 1) (b := 4) (((hF86.1 1 4 (by decide)).trans hv80))
      have x92 := HI.eqI hI0 (p := 1) (b := 4) (hv80)
      exact ⟨_, rfl, hI85, hF89, _, rfl, by omega, ⟨⟨by omega, by omega⟩, (by intro i i0 i1; refine Eq.trans ?_ (if_neg (show ¬ ((0 ≤ a1.toInt ∧ a1.toInt < (gI g0 1 4).toInt) ∧ 6 * a1.toInt ≤ i ∧ i < 6 * (gI g0 1 4).toInt - 6) from by omega)).symm; refine (eA_ti ((hF86.2.1 5 (by decide)))).trans ?_; (first | rfl | exact eA_ix (by omega) | omega))⟩⟩
    · have c81_ : a1.toInt < v80.toInt := en_i_ge_f c81
      refine At.enter rfl ?_
      refine r_iconst 1 rfl ?_
      refine r_goto ?_
      refine At.enter rfl ?_
      refine q_iretz (by decide) ?_
      refine At.enter rfl ?_
      refine r_ift (by decide) ?_
      refine At.enter rfl ?_
      refine r_aload_n rfl ?_
      refine q_getR (Sh.ref hI0.1 kx_0 rfl) ?_
      refine r_iload_n rfl ?_
      refine r_callV 26 rfl [.ref 1, .int a1] [] (Nat.le_of_ble_eq_true rfl) rfl (T_X0_removeLoad_1 _ hI0 a1) ?_
      rintro _ _ ⟨g93, rfl, hI94, hF95, rfl, hr97⟩
      refine At.stn ?_
      have hF98 := Fr.tr hF0 hF95 rfl rfl
      have x99 := HI.eqI hI0 (p := 1) (b := 4) (hv80)
      obtain ⟨v100, hv100⟩ : ∃ v, gI g93 1 4 = v := ⟨_, rfl⟩
      have rv100 := RgF.at hI94.2.1 (p := 1) (b := 4) rfl
      rw [hv100] at rv100
      dsimp only at rv100
      have tv100 := congrArg Int32.toInt hv100
      have x101 := HI.eqI hI94 (p := 1) (b := 4) (hv100)
      refine At.enter rfl ?_
      refine r_aload_n rfl ?_
      refine r_callV 30 rfl [.ref 0] [] (Nat.le_of_ble_eq_true rfl) rfl (T_X10_changed_0 _ hI94) ?_
      rintro _ _ ⟨g102, rfl, hI103, hF104, rfl⟩
      refine At.stn ?_
      have hF107 := Fr.tr hF98 hF104 rfl rfl
      refine At.enter rfl ?_
      refine r_aload_n rfl ?_
      refine r_aload_n rfl ?_
      refine q_getR (Sh.ref hI103.1 kx_0 rfl) ?_
      refine q_getI (Sh.int hI103.1 kx_1 rfl) v100 ((hF104.1 1 4 (by decide)).trans hv100) ?_
      refine q_inlV 41 rfl [.ref 0, .int v100] [] (Nat.le_of_ble_eq_true rfl) rfl ?_
      refine Ev.mk rfl rfl ⟨Nat.le_of_ble_eq_true rfl, Or.inr (q_rc hI103.1 kx_0 rfl)⟩ ?_
      show At _ none _ _ (0, [(0, .ref 0), (1, .int v100)], [], (_, _)) _
      refine At.enter rfl ?_
      refine r_aload_n rfl ?_
      refine r_iconst 0 rfl ?_
      refine q_putI (Sh.int hI103.1 kx_0 rfl) rfl ?_
      have hI108 := HI.wI0 hI103 kx_0 rfl (p := 0) (b := 17) (v := 0) rfl
      have hF109 := Fr.wI (p := 0) (b := 17) (v := 0) hF107 rfl
      refine r_iload_n rfl ?_
      refine q_ireti ?_
      refine At.enter rfl ?_
      refine r_ireti ?_
      have x110 := HI.eqI hI108 (p := 1) (b := 4) ((((gI_sI_ne (by decide)).trans (hF104.1 1 4 (by decide))).trans hv100))
      have x111 := HI.eqI hI0 (p := 1) (b := 4) (hv80)
      exact ⟨_, rfl, hI108, hF109, _, rfl, by omega, ⟨⟨by omega, by omega⟩, (by intro i i0 i1; exact (Decidable.em ((0 ≤ a1.toInt ∧ a1.toInt < (gI g0 1 4).toInt) ∧ 6 * a1.toInt ≤ i ∧ i < 6 * (gI g0 1 4).toInt - 6)).elim (fun k81_ => by refine Eq.trans ?_ (if_pos k81_).symm; refine (eA_ti (((gA_sI).trans (hF104.2.1 5 (by decide))))).trans ?_; refine ((hr97.2.2 (i) (by omega) (by omega))).trans ?_; exact (Decidable.em ((0 ≤ a1.toInt ∧ a1.toInt < (gI g0 1 4).toInt) ∧ 6 * a1.toInt ≤ (i) ∧ (i) < 6 * (gI g0 1 4).toInt - 6)).elim (fun k82_ => by refine (if_pos k82_).trans ?_; (first | rfl | exact eA_ix (by omega) | omega)) (fun k82_ => by refine (if_neg k82_).trans ?_; (first | rfl | exact eA_ix (by omega) | omega))) (fun k81_ => by refine Eq.trans ?_ (if_neg k81_).symm; refine (eA_ti (((gA_sI).trans (hF104.2.1 5 (by decide))))).trans ?_; refine ((hr97.2.2 (i) (by omega) (by omega))).trans ?_; exact (Decidable.em ((0 ≤ a1.toInt ∧ a1.toInt < (gI g0 1 4).toInt) ∧ 6 * a1.toInt ≤ (i) ∧ (i) < 6 * (gI g0 1 4).toInt - 6)).elim (fun k83_ => by refine (if_pos k83_).trans ?_; (first | rfl | exact eA_ix (by omega) | omega)) (fun k83_ => by refine (if_neg k83_).trans ?_; (first | rfl | exact eA_ix (by omega) | omega))))⟩⟩

def F_X10_terms_0 : List (Nat × Nat) := [(0, 14), (0, 17), (1, 10), (1, 11), (220, 2), (222, 2), (223, 5), (223, 10)]
def A_X10_terms_0 : List Nat := [230]
set_option maxRecDepth 100000 in
set_option maxHeartbeats 4000000 in
theorem T_X10_terms_0 (d : Nat) {N : Nat} {g0 : List en_E} (hI0 : HI g0) (a1 : Int32) (a2 : Int32) : Ev (d + 3) 110 [.ref 0, .int a1, .int a2] (g0, N) (fun w h' => ∃ g', h' = (g', N) ∧ HI g' ∧ Fr F_X10_terms_0 A_X10_terms_0 g0 g' ∧ ∃ r : Int32, w = some (.int r) ∧ True ∧ (((a1.toInt = 0 ∧ 0 ≤ a2.toInt ∧ a2.toInt ≤ 99) → r.toInt = (gI g0 1 10).toInt ∧ (gI g' 1 10).toInt = a2.toInt ∧ (gI g' 1 11).toInt = (gI g0 1 11).toInt) ∧ ((a1.toInt = 1 ∧ 1 ≤ a2.toInt ∧ a2.toInt ≤ 4) → r.toInt = (gI g0 1 11).toInt ∧ (gI g' 1 11).toInt = a2.toInt ∧ (gI g' 1 10).toInt = (gI g0 1 10).toInt) ∧ (¬ (a1.toInt = 0 ∧ 0 ≤ a2.toInt ∧ a2.toInt ≤ 99) ∧ ¬ (a1.toInt = 1 ∧ 1 ≤ a2.toInt ∧ a2.toInt ≤ 4) → r.toInt = -1 ∧ (gI g' 1 10).toInt = (gI g0 1 10).toInt ∧ (gI g' 1 11).toInt = (gI g0 1 11).toInt))) := by
  have hF0 : Fr F_X10_terms_0 A_X10_terms_0 g0 g0 := Fr.rf
  refine Ev.mk rfl rfl ⟨Nat.le_of_ble_eq_true rfl, Or.inr (q_rc hI0.1 kx_0 rfl)⟩ ?_
  show At _ none _ _ (0, [(0, .ref 0), (1, .int a1), (2, .int a2)], [], (_, _)) _
  refine At.enter rfl ?_
  refine r_iload_n rfl ?_
  refine r_ifs 4 rfl (fun c131 => ?_) (fun c131 => ?_)
  · have c131_ : a1.toInt ≠ 0 := en_k_ne_t c131
    refine At.enter rfl ?_
    refine r_iload_n rfl ?_
    refine r_iconst 1 rfl ?_
    refine r_ics 38 rfl (fun c132 => ?_) (fun c132 => ?_)
    · have c132_ : a1.toInt ≠ 1 := en_i_ne_t c132
      refine At.enter rfl ?_
      refine r_aload_n rfl ?_
      refine r_iconst (-1) rfl ?_
      refine r_callV 71 rfl [.ref 0, .int (-1)] [] (Nat.le_of_ble_eq_true rfl) rfl (T_X10_refused_0 _ hI0 (-1) (by decide)) ?_
      rintro _ _ ⟨g133, rfl, hI134, hF135, v136, rfl, hr137⟩
      refine At.sti ?_
      have hF138 := Fr.tr hF0 hF135 rfl rfl
      have zv139 : ((-1) : Int32).toInt = (-1) := rfl
      refine At.enter rfl ?_
      refine r_ireti ?_
      obtain ⟨v140, hv140⟩ : ∃ v, gI g0 1 10 = v := ⟨_, rfl⟩
      have tv140 := congrArg Int32.toInt hv140
      have x141 := HI.eqI hI134 (p := 1) (b := 10) (((hF135.1 1 10 (by decide)).trans hv140))
      obtain ⟨v142, hv142⟩ : ∃ v, gI g0 1 11 = v := ⟨_, rfl⟩
      have tv142 := congrArg Int32.toInt hv142
      have x143 := HI.eqI hI134 (p := 1) (b := 11) (((hF135.1 1 11 (by decide)).trans hv142))
      have x144 := HI.eqI hI0 (p := 1) (b := 10) (hv140)
      have x145 := HI.eqI hI0 (p := 1) (b := 11) (hv142)
      exact ⟨_, rfl, hI134, hF138, _, rfl, trivial, (by omega)⟩
    · have c132_ : a1.toInt = 1 := en_i_ne_f c132
      refine At.enter rfl ?_
      refine r_iload_n rfl ?_
      refine r_iconst 1 rfl ?_
      refine r_iconst 4 rfl ?_
      refine q_inlS 44 rfl [.int a2, .int 1, .int 4] [] (Nat.le_of_ble_eq_true rfl) rfl ?_
      refine Ev.mk rfl rfl ⟨Nat.le_of_ble_eq_true rfl, Or.inl rfl⟩ ?_
      show At _ none _ _ (0, [(0, .int a2), (1, .int 1), (2, .int 4)], [], (_, _)) _
      refine At.enter rfl ?_
      refine r_iload_n rfl ?_
      refine r_iload_n rfl ?_
      refine r_ics 5 rfl (fun c146 => ?_) (fun c146 => ?_)
      · have c146_ : a2.toInt < 1 := en_i_lt_t c146
        refine At.enter rfl ?_
        refine r_iconst 0 rfl ?_
        refine Ar.fall 15 rfl ?_
        refine At.enter rfl ?_
        refine q_iretz (by decide) ?_
        refine At.enter rfl ?_
        refine r_ift (by decide) ?_
        refine At.enter rfl ?_
        refine r_aload_n rfl ?_
        refine r_iconst (-1) rfl ?_
        refine r_callV 71 rfl [.ref 0, .int (-1)] [] (Nat.le_of_ble_eq_true rfl) rfl (T_X10_refused_0 _ hI0 (-1) (by decide)) ?_
        rintro _ _ ⟨g147, rfl, hI148, hF149, v150, rfl, hr151⟩
        refine At.sti ?_
        have hF152 := Fr.tr hF0 hF149 rfl rfl
        have zv153 : ((-1) : Int32).toInt = (-1) := rfl
        refine At.enter rfl ?_
        refine r_ireti ?_
        obtain ⟨v154, hv154⟩ : ∃ v, gI g0 1 10 = v := ⟨_, rfl⟩
        have tv154 := congrArg Int32.toInt hv154
        have x155 := HI.eqI hI148 (p := 1) (b := 10) (((hF149.1 1 10 (by decide)).trans hv154))
        obtain ⟨v156, hv156⟩ : ∃ v, gI g0 1 11 = v := ⟨_, rfl⟩
        have tv156 := congrArg Int32.toInt hv156
        have x157 := HI.eqI hI148 (p := 1) (b := 11) (((hF149.1 1 11 (by decide)).trans hv156))
        have x158 := HI.eqI hI0 (p := 1) (b := 10) (hv154)
        have x159 := HI.eqI hI0 (p := 1) (b := 11) (hv156)
        exact ⟨_, rfl, hI148, hF152, _, rfl, trivial, (by omega)⟩
      · have c146_ : a2.toInt ≥ 1 := en_i_lt_f c146
        refine At.enter rfl ?_
        refine r_iload_n rfl ?_
        refine r_iload_n rfl ?_
        refine r_ics 10 rfl (fun c160 => ?_) (fun c160 => ?_)
        · have c160_ : a2.toInt > 4 := en_i_gt_t c160
          refine At.enter rfl ?_
          refine r_iconst 0 rfl ?_
          refine Ar.fall 15 rfl ?_
          refine At.enter rfl ?_
          refine q_iretz (by decide) ?_
          refine At.enter rfl ?_
          refine r_ift (by decide) ?_
          refine At.enter rfl ?_
          refine r_aload_n rfl ?_
          refine r_iconst (-1) rfl ?_
          refine r_callV 71 rfl [.ref 0, .int (-1)] [] (Nat.le_of_ble_eq_true rfl) rfl (T_X10_refused_0 _ hI0 (-1) (by decide)) ?_
          rintro _ _ ⟨g161, rfl, hI162, hF163, v164, rfl, hr165⟩
          refine At.sti ?_
          have hF166 := Fr.tr hF0 hF163 rfl rfl
          have zv167 : ((-1) : Int32).toInt = (-1) := rfl
          refine At.enter rfl ?_
          refine r_ireti ?_
          obtain ⟨v168, hv168⟩ : ∃ v, gI g0 1 10 = v := ⟨_, rfl⟩
          have tv168 := congrArg Int32.toInt hv168
          have x169 := HI.eqI hI162 (p := 1) (b := 10) (((hF163.1 1 10 (by decide)).trans hv168))
          obtain ⟨v170, hv170⟩ : ∃ v, gI g0 1 11 = v := ⟨_, rfl⟩
          have tv170 := congrArg Int32.toInt hv170
          have x171 := HI.eqI hI162 (p := 1) (b := 11) (((hF163.1 1 11 (by decide)).trans hv170))
          have x172 := HI.eqI hI0 (p := 1) (b := 10) (hv168)
          have x173 := HI.eqI hI0 (p := 1) (b := 11) (hv170)
          exact ⟨_, rfl, hI162, hF166, _, rfl, trivial, (by omega)⟩
        · have c160_ : a2.toInt ≤ 4 := en_i_gt_f c160
          refine At.enter rfl ?_
          refine r_iconst 1 rfl ?_
          refine r_goto ?_
          refine At.enter rfl ?_
          refine q_iretz (by decide) ?_
          refine At.enter rfl ?_
          refine r_iff 47 rfl (by decide) ?_
          refine At.enter rfl ?_
          refine r_aload_n rfl ?_
          refine q_getR (Sh.ref hI0.1 kx_0 rfl) ?_
          obtain ⟨v174, hv174⟩ : ∃ v, gI g0 1 11 = v := ⟨_, rfl⟩
          refine q_getI (Sh.int hI0.1 kx_1 rfl) v174 hv174 ?_
          refine r_istore_n ([(3, .int v174), (0, .ref 0), (1, .int a1), (2, .int a2)]) rfl ?_
          refine r_aload_n rfl ?_
          refine q_getR (Sh.ref hI0.1 kx_0 rfl) ?_
          refine r_iload_n rfl ?_
          refine q_putI (Sh.int hI0.1 kx_1 rfl) rfl ?_
          have hI175 := HI.wI0 hI0 kx_1 rfl (p := 1) (b := 11) (v := a2) rfl
          have hF176 := Fr.wI (p := 1) (b := 11) (v := a2) hF0 rfl
          refine r_goto ?_
          refine At.enter rfl ?_
          refine r_aload_n rfl ?_
          refine r_callV 76 rfl [.ref 0] [] (Nat.le_of_ble_eq_true rfl) rfl (T_X10_changed_0 _ hI175) ?_
          rintro _ _ ⟨g177, rfl, hI178, hF179, rfl⟩
          refine At.stn ?_
          have hF182 := Fr.tr hF176 hF179 rfl rfl
          refine At.enter rfl ?_
          refine r_aload_n rfl ?_
          refine r_iload_n rfl ?_
          refine q_inlV 81 rfl [.ref 0, .int v174] [] (Nat.le_of_ble_eq_true rfl) rfl ?_
          refine Ev.mk rfl rfl ⟨Nat.le_of_ble_eq_true rfl, Or.inr (q_rc hI178.1 kx_0 rfl)⟩ ?_
          show At _ none _ _ (0, [(0, .ref 0), (1, .int v174)], [], (_, _)) _
          refine At.enter rfl ?_
          refine r_aload_n rfl ?_
          refine r_iconst 0 rfl ?_
          refine q_putI (Sh.int hI178.1 kx_0 rfl) rfl ?_
          have hI183 := HI.wI0 hI178 kx_0 rfl (p := 0) (b := 17) (v := 0) rfl
          have hF184 := Fr.wI (p := 0) (b := 17) (v := 0) hF182 rfl
          refine r_iload_n rfl ?_
          refine q_ireti ?_
          refine At.enter rfl ?_
          refine r_ireti ?_
          obtain ⟨v185, hv185⟩ : ∃ v, gI g0 1 10 = v := ⟨_, rfl⟩
          have tv185 := congrArg Int32.toInt hv185
          have x186 := HI.eqI hI183 (p := 1) (b := 10) ((((gI_sI_ne (by decide)).trans ((hF179.1 1 10 (by decide)).trans (gI_sI_ne (by decide)))).trans hv185))
          have x187 := HI.eqI hI183 (p := 1) (b := 11) (((gI_sI_ne (by decide)).trans ((hF179.1 1 11 (by decide)).trans (gI_sI_eq hI0.1 kx_1 rfl _))))
          have x188 := HI.eqI hI0 (p := 1) (b := 10) (hv185)
          have x189 := HI.eqI hI0 (p := 1) (b := 11) (hv174)
          exact ⟨_, rfl, hI183, hF184, _, rfl, trivial, (by omega)⟩
  · have c131_ : a1.toInt = 0 := en_k_ne_f c131
    refine At.enter rfl ?_
    refine r_iload_n rfl ?_
    refine r_iconst 0 rfl ?_
    refine r_bipush 99 rfl ?_
    refine q_inlS 11 rfl [.int a2, .int 0, .int 99] [] (Nat.le_of_ble_eq_true rfl) rfl ?_
    refine Ev.mk rfl rfl ⟨Nat.le_of_ble_eq_true rfl, Or.inl rfl⟩ ?_
    show At _ none _ _ (0, [(0, .int a2), (1, .int 0), (2, .int 99)], [], (_, _)) _
    refine At.enter rfl ?_
    refine r_iload_n rfl ?_
    refine r_iload_n rfl ?_
    refine r_ics 5 rfl (fun c190 => ?_) (fun c190 => ?_)
    · have c190_ : a2.toInt < 0 := en_i_lt_t c190
      refine At.enter rfl ?_
      refine r_iconst 0 rfl ?_
      refine Ar.fall 15 rfl ?_
      refine At.enter rfl ?_
      refine q_iretz (by decide) ?_
      refine At.enter rfl ?_
      refine r_ift (by decide) ?_
      refine At.enter rfl ?_
      refine r_iload_n rfl ?_
      refine r_iconst 1 rfl ?_
      refine r_ics 38 rfl (fun c191 => ?_) (fun c191 => ?_)
      · have c191_ : a1.toInt ≠ 1 := en_i_ne_t c191
        refine At.enter rfl ?_
        refine r_aload_n rfl ?_
        refine r_iconst (-1) rfl ?_
        refine r_callV 71 rfl [.ref 0, .int (-1)] [] (Nat.le_of_ble_eq_true rfl) rfl (T_X10_refused_0 _ hI0 (-1) (by decide)) ?_
        rintro _ _ ⟨g192, rfl, hI193, hF194, v195, rfl, hr196⟩
        refine At.sti ?_
        have hF197 := Fr.tr hF0 hF194 rfl rfl
        have zv198 : ((-1) : Int32).toInt = (-1) := rfl
        refine At.enter rfl ?_
        refine r_ireti ?_
        obtain ⟨v199, hv199⟩ : ∃ v, gI g0 1 10 = v := ⟨_, rfl⟩
        have tv199 := congrArg Int32.toInt hv199
        have x200 := HI.eqI hI193 (p := 1) (b := 10) (((hF194.1 1 10 (by decide)).trans hv199))
        obtain ⟨v201, hv201⟩ : ∃ v, gI g0 1 11 = v := ⟨_, rfl⟩
        have tv201 := congrArg Int32.toInt hv201
        have x202 := HI.eqI hI193 (p := 1) (b := 11) (((hF194.1 1 11 (by decide)).trans hv201))
        have x203 := HI.eqI hI0 (p := 1) (b := 10) (hv199)
        have x204 := HI.eqI hI0 (p := 1) (b := 11) (hv201)
        exact ⟨_, rfl, hI193, hF197, _, rfl, trivial, (by omega)⟩
      · have c191_ : a1.toInt = 1 := en_i_ne_f c191
        exfalso; omega
    · have c190_ : a2.toInt ≥ 0 := en_i_lt_f c190
      refine At.enter rfl ?_
      refine r_iload_n rfl ?_
      refine r_iload_n rfl ?_
      refine r_ics 10 rfl (fun c205 => ?_) (fun c205 => ?_)
      · have c205_ : a2.toInt > 99 := en_i_gt_t c205
        refine At.enter rfl ?_
        refine r_iconst 0 rfl ?_
        refine Ar.fall 15 rfl ?_
        refine At.enter rfl ?_
        refine q_iretz (by decide) ?_
        refine At.enter rfl ?_
        refine r_ift (by decide) ?_
        refine At.enter rfl ?_
        refine r_iload_n rfl ?_
        refine r_iconst 1 rfl ?_
        refine r_ics 38 rfl (fun c206 => ?_) (fun c206 => ?_)
        · have c206_ : a1.toInt ≠ 1 := en_i_ne_t c206
          refine At.enter rfl ?_
          refine r_aload_n rfl ?_
          refine r_iconst (-1) rfl ?_
          refine r_callV 71 rfl [.ref 0, .int (-1)] [] (Nat.le_of_ble_eq_true rfl) rfl (T_X10_refused_0 _ hI0 (-1) (by decide)) ?_
          rintro _ _ ⟨g207, rfl, hI208, hF209, v210, rfl, hr211⟩
          refine At.sti ?_
          have hF212 := Fr.tr hF0 hF209 rfl rfl
          have zv213 : ((-1) : Int32).toInt = (-1) := rfl
          refine At.enter rfl ?_
          refine r_ireti ?_
          obtain ⟨v214, hv214⟩ : ∃ v, gI g0 1 10 = v := ⟨_, rfl⟩
          have tv214 := congrArg Int32.toInt hv214
          have x215 := HI.eqI hI208 (p := 1) (b := 10) (((hF209.1 1 10 (by decide)).trans hv214))
          obtain ⟨v216, hv216⟩ : ∃ v, gI g0 1 11 = v := ⟨_, rfl⟩
          have tv216 := congrArg Int32.toInt hv216
          have x217 := HI.eqI hI208 (p := 1) (b := 11) (((hF209.1 1 11 (by decide)).trans hv216))
          have x218 := HI.eqI hI0 (p := 1) (b := 10) (hv214)
          have x219 := HI.eqI hI0 (p := 1) (b := 11) (hv216)
          exact ⟨_, rfl, hI208, hF212, _, rfl, trivial, (by omega)⟩
        · have c206_ : a1.toInt = 1 := en_i_ne_f c206
          exfalso; omega
      · have c205_ : a2.toInt ≤ 99 := en_i_gt_f c205
        refine At.enter rfl ?_
        refine r_iconst 1 rfl ?_
        refine r_goto ?_
        refine At.enter rfl ?_
        refine q_iretz (by decide) ?_
        refine At.enter rfl ?_
        refine r_iff 14 rfl (by decide) ?_
        refine At.enter rfl ?_
        refine r_aload_n rfl ?_
        refine q_getR (Sh.ref hI0.1 kx_0 rfl) ?_
        obtain ⟨v220, hv220⟩ : ∃ v, gI g0 1 10 = v := ⟨_, rfl⟩
        refine q_getI (Sh.int hI0.1 kx_1 rfl) v220 hv220 ?_
        refine r_istore_n ([(3, .int v220), (0, .ref 0), (1, .int a1), (2, .int a2)]) rfl ?_
        refine r_aload_n rfl ?_
        refine q_getR (Sh.ref hI0.1 kx_0 rfl) ?_
        refine r_iload_n rfl ?_
        refine q_putI (Sh.int hI0.1 kx_1 rfl) rfl ?_
        have hI221 := HI.wI0 hI0 kx_1 rfl (p := 1) (b := 10) (v := a2) rfl
        have hF222 := Fr.wI (p := 1) (b := 10) (v := a2) hF0 rfl
        refine r_goto ?_
        refine At.enter rfl ?_
        refine r_aload_n rfl ?_
        refine r_callV 76 rfl [.ref 0] [] (Nat.le_of_ble_eq_true rfl) rfl (T_X10_changed_0 _ hI221) ?_
        rintro _ _ ⟨g223, rfl, hI224, hF225, rfl⟩
        refine At.stn ?_
        have hF228 := Fr.tr hF222 hF225 rfl rfl
        refine At.enter rfl ?_
        refine r_aload_n rfl ?_
        refine r_iload_n rfl ?_
        refine q_inlV 81 rfl [.ref 0, .int v220] [] (Nat.le_of_ble_eq_true rfl) rfl ?_
        refine Ev.mk rfl rfl ⟨Nat.le_of_ble_eq_true rfl, Or.inr (q_rc hI224.1 kx_0 rfl)⟩ ?_
        show At _ none _ _ (0, [(0, .ref 0), (1, .int v220)], [], (_, _)) _
        refine At.enter rfl ?_
        refine r_aload_n rfl ?_
        refine r_iconst 0 rfl ?_
        refine q_putI (Sh.int hI224.1 kx_0 rfl) rfl ?_
        have hI229 := HI.wI0 hI224 kx_0 rfl (p := 0) (b := 17) (v := 0) rfl
        have hF230 := Fr.wI (p := 0) (b := 17) (v := 0) hF228 rfl
        refine r_iload_n rfl ?_
        refine q_ireti ?_
        refine At.enter rfl ?_
        refine r_ireti ?_
        have x231 := HI.eqI hI229 (p := 1) (b := 10) (((gI_sI_ne (by decide)).trans ((hF225.1 1 10 (by decide)).trans (gI_sI_eq hI0.1 kx_1 rfl _))))
        obtain ⟨v232, hv232⟩ : ∃ v, gI g0 1 11 = v := ⟨_, rfl⟩
        have tv232 := congrArg Int32.toInt hv232
        have x233 := HI.eqI hI229 (p := 1) (b := 11) ((((gI_sI_ne (by decide)).trans ((hF225.1 1 11 (by decide)).trans (gI_sI_ne (by decide)))).trans hv232))
        have x234 := HI.eqI hI0 (p := 1) (b := 10) (hv220)
        have x235 := HI.eqI hI0 (p := 1) (b := 11) (hv232)
        exact ⟨_, rfl, hI229, hF230, _, rfl, trivial, (by omega)⟩

def F_X10_feed_0 : List (Nat × Nat) := [(174, 1)]
def A_X10_feed_0 : List Nat := [175]
set_option maxRecDepth 100000 in
set_option maxHeartbeats 4000000 in
theorem T_X10_feed_0 (d : Nat) {N : Nat} {g0 : List en_E} (hI0 : HI g0) (a1 : Int32) (a2 : Int32) (a3 : Int32) (a4 : Int32) (a5 : Int32) : Ev (d + 2) 111 [.ref 0, .int a1, .int a2, .int a3, .int a4, .int a5] (g0, N) (fun w h' => ∃ g', h' = (g', N) ∧ HI g' ∧ Fr F_X10_feed_0 A_X10_feed_0 g0 g' ∧ ∃ r : Int32, w = some (.int r) ∧ ((-1) ≤ r.toInt ∧ r.toInt ≤ 400) ∧ (((380 < (gI g0 174 1).toInt → r.toInt = -1 ∧ (gI g' 174 1).toInt = (gI g0 174 1).toInt) ∧ ((gI g0 174 1).toInt ≤ 380 → r.toInt = (gI g0 174 1).toInt + 20 ∧ (gI g' 174 1).toInt = (gI g0 174 1).toInt + 20)) ∧ (∀ i : Int, 0 ≤ i → i < 400 → (eA g' 175 (i)).toInt = if (gI g0 174 1).toInt ≤ 380 ∧ (gI g0 174 1).toInt + 0 ≤ i ∧ i < (gI g0 174 1).toInt + 4 then BYT a1 (i - (gI g0 174 1).toInt - 0) else if (gI g0 174 1).toInt ≤ 380 ∧ (gI g0 174 1).toInt + 4 ≤ i ∧ i < (gI g0 174 1).toInt + 8 then BYT a2 (i - (gI g0 174 1).toInt - 4) else if (gI g0 174 1).toInt ≤ 380 ∧ (gI g0 174 1).toInt + 8 ≤ i ∧ i < (gI g0 174 1).toInt + 12 then BYT a3 (i - (gI g0 174 1).toInt - 8) else if (gI g0 174 1).toInt ≤ 380 ∧ (gI g0 174 1).toInt + 12 ≤ i ∧ i < (gI g0 174 1).toInt + 16 then BYT a4 (i - (gI g0 174 1).toInt - 12) else if (gI g0 174 1).toInt ≤ 380 ∧ (gI g0 174 1).toInt + 16 ≤ i ∧ i < (gI g0 174 1).toInt + 20 then BYT a5 (i - (gI g0 174 1).toInt - 16) else (eA g0 175 (i)).toInt))) := by
  have hF0 : Fr F_X10_feed_0 A_X10_feed_0 g0 g0 := Fr.rf
  refine Ev.mk rfl rfl ⟨Nat.le_of_ble_eq_true rfl, Or.inr (q_rc hI0.1 kx_0 rfl)⟩ ?_
  show At _ none _ _ (0, [(0, .ref 0), (1, .int a1), (2, .int a2), (3, .int a3), (4, .int a4), (5, .int a5)], [], (_, _)) _
  refine At.enter rfl ?_
  refine r_aload_n rfl ?_
  refine q_getR (Sh.ref hI0.1 kx_0 rfl) ?_
  obtain ⟨v97, hv97⟩ : ∃ v, gI g0 174 1 = v := ⟨_, rfl⟩
  have rv97 := RgF.at hI0.2.1 (p := 174) (b := 1) rfl
  rw [hv97] at rv97
  dsimp only at rv97
  refine q_getI (Sh.int hI0.1 kx_174 rfl) v97 hv97 ?_
  refine r_bipush 20 rfl ?_
  refine q_iadd (v97.toInt + 20) rfl (by omega) (fun v98 hv98 => ?_)
  refine r_sipush 400 rfl ?_
  refine r_ics 16 rfl (fun c99 => ?_) (fun c99 => ?_)
  · have c99_ : v98.toInt ≤ 400 := en_i_le_t c99
    refine At.enter rfl ?_
    refine r_aload_n rfl ?_
    refine q_getR (Sh.ref hI0.1 kx_0 rfl) ?_
    refine r_iload_n rfl ?_
    refine r_callV 26 rfl [.ref 174, .int a1] [] (Nat.le_of_ble_eq_true rfl) rfl (T_X8_append_174 _ hI0 a1) ?_
    rintro _ _ ⟨g100, rfl, hI101, hF102, rfl, hr104⟩
    refine At.stn ?_
    have hF105 := Fr.tr hF0 hF102 rfl rfl
    have x106 := HI.eqI hI0 (p := 174) (b := 1) (hv97)
    obtain ⟨v107, hv107⟩ : ∃ v, gI g100 174 1 = v := ⟨_, rfl⟩
    have rv107 := RgF.at hI101.2.1 (p := 174) (b := 1) rfl
    rw [hv107] at rv107
    dsimp only at rv107
    have tv107 := congrArg Int32.toInt hv107
    have x108 := HI.eqI hI101 (p := 174) (b := 1) (hv107)
    refine At.enter rfl ?_
    refine r_aload_n rfl ?_
    refine q_getR (Sh.ref hI101.1 kx_0 rfl) ?_
    refine r_iload_n rfl ?_
    refine r_callV 34 rfl [.ref 174, .int a2] [] (Nat.le_of_ble_eq_true rfl) rfl (T_X8_append_174 _ hI101 a2) ?_
    rintro _ _ ⟨g109, rfl, hI110, hF111, rfl, hr113⟩
    refine At.stn ?_
    have hF114 := Fr.tr hF105 hF111 rfl rfl
    have x115 := HI.eqI hI101 (p := 174) (b := 1) (hv107)
    obtain ⟨v116, hv116⟩ : ∃ v, gI g109 174 1 = v := ⟨_, rfl⟩
    have rv116 := RgF.at hI110.2.1 (p := 174) (b := 1) rfl
    rw [hv116] at rv116
    dsimp only at rv116
    have tv116 := congrArg Int32.toInt hv116
    have x117 := HI.eqI hI110 (p := 174) (b := 1) (hv116)
    refine At.enter rfl ?_
    refine r_aload_n rfl ?_
    refine q_getR (Sh.ref hI110.1 kx_0 rfl) ?_
    refine r_iload_n rfl ?_
    refine r_callV 42 rfl [.ref 174, .int a3] [] (Nat.le_of_ble_eq_true rfl) rfl (T_X8_append_174 _ hI110 a3) ?_
    rintro _ _ ⟨g118, rfl, hI119, hF120, rfl, hr122⟩
    refine At.stn ?_
    have hF123 := Fr.tr hF114 hF120 rfl rfl
    have x124 := HI.eqI hI110 (p := 174) (b := 1) (hv116)
    obtain ⟨v125, hv125⟩ : ∃ v, gI g118 174 1 = v := ⟨_, rfl⟩
    have rv125 := RgF.at hI119.2.1 (p := 174) (b := 1) rfl
    rw [hv125] at rv125
    dsimp only at rv125
    have tv125 := congrArg Int32.toInt hv125
    have x126 := HI.eqI hI119 (p := 174) (b := 1) (hv125)
    refine At.enter rfl ?_
    refine r_aload_n rfl ?_
    refine q_getR (Sh.ref hI119.1 kx_0 rfl) ?_
    refine r_iload rfl ?_
    refine r_callV 51 rfl [.ref 174, .int a4] [] (Nat.le_of_ble_eq_true rfl) rfl (T_X8_append_174 _ hI119 a4) ?_
    rintro _ _ ⟨g127, rfl, hI128, hF129, rfl, hr131⟩
    refine At.stn ?_
    have hF132 := Fr.tr hF123 hF129 rfl rfl
    have x133 := HI.eqI hI119 (p := 174) (b := 1) (hv125)
    obtain ⟨v134, hv134⟩ : ∃ v, gI g127 174 1 = v := ⟨_, rfl⟩
    have rv134 := RgF.at hI128.2.1 (p := 174) (b := 1) rfl
    rw [hv134] at rv134
    dsimp only at rv134
    have tv134 := congrArg Int32.toInt hv134
    have x135 := HI.eqI hI128 (p := 174) (b := 1) (hv134)
    refine At.enter rfl ?_
    refine r_aload_n rfl ?_
    refine q_getR (Sh.ref hI128.1 kx_0 rfl) ?_
    refine r_iload rfl ?_
    refine r_callV 60 rfl [.ref 174, .int a5] [] (Nat.le_of_ble_eq_true rfl) rfl (T_X8_append_174 _ hI128 a5) ?_
    rintro _ _ ⟨g136, rfl, hI137, hF138, rfl, hr140⟩
    refine At.stn ?_
    have hF141 := Fr.tr hF132 hF138 rfl rfl
    have x142 := HI.eqI hI128 (p := 174) (b := 1) (hv134)
    obtain ⟨v143, hv143⟩ : ∃ v, gI g136 174 1 = v := ⟨_, rfl⟩
    have rv143 := RgF.at hI137.2.1 (p := 174) (b := 1) rfl
    rw [hv143] at rv143
    dsimp only at rv143
    have tv143 := congrArg Int32.toInt hv143
    have x144 := HI.eqI hI137 (p := 174) (b := 1) (hv143)
    refine At.enter rfl ?_
    refine r_aload_n rfl ?_
    refine q_getR (Sh.ref hI137.1 kx_0 rfl) ?_
    refine q_getI (Sh.int hI137.1 kx_174 rfl) v143 hv143 ?_
    refine r_ireti ?_
    have x145 := HI.eqI hI137 (p := 174) (b := 1) (hv143)
    have x146 := HI.eqI hI0 (p := 174) (b := 1) (hv97)
    exact ⟨_, rfl, hI137, hF141, _, rfl, by omega, ⟨(by omega), (by intro i i0 i1; rcases (show i < (gI g0 174 1).toInt ∨ ((gI g0 174 1).toInt + 0 ≤ i ∧ i < (gI g0 174 1).toInt + 4) ∨ ((gI g0 174 1).toInt + 4 ≤ i ∧ i < (gI g0 174 1).toInt + 8) ∨ ((gI g0 174 1).toInt + 8 ≤ i ∧ i < (gI g0 174 1).toInt + 12) ∨ ((gI g0 174 1).toInt + 12 ≤ i ∧ i < (gI g0 174 1).toInt + 16) ∨ ((gI g0 174 1).toInt + 16 ≤ i ∧ i < (gI g0 174 1).toInt + 20) ∨ (gI g0 174 1).toInt + 20 ≤ i from by omega) with k | k | k | k | k | k | k; (refine Eq.trans ?_ (if_neg (show ¬ ((gI g0 174 1).toInt ≤ 380 ∧ (gI g0 174 1).toInt + 0 ≤ i ∧ i < (gI g0 174 1).toInt + 4) from fun z => by omega)).symm; refine Eq.trans ?_ (if_neg (show ¬ ((gI g0 174 1).toInt ≤ 380 ∧ (gI g0 174 1).toInt + 4 ≤ i ∧ i < (gI g0 174 1).toInt + 8) from fun z => by omega)).symm; refine Eq.trans ?_ (if_neg (show ¬ ((gI g0 174 1).toInt ≤ 380 ∧ (gI g0 174 1).toInt + 8 ≤ i ∧ i < (gI g0 174 1).toInt + 12) from fun z => by omega)).symm; refine Eq.trans ?_ (if_neg (show ¬ ((gI g0 174 1).toInt ≤ 380 ∧ (gI g0 174 1).toInt + 12 ≤ i ∧ i < (gI g0 174 1).toInt + 16) from fun z => by omega)).symm; refine Eq.trans ?_ (if_neg (show ¬ ((gI g0 174 1).toInt ≤ 380 ∧ (gI g0 174 1).toInt + 16 ≤ i ∧ i < (gI g0 174 1).toInt + 20) from fun z => by omega)).symm; refine ((hr140.2 (by omega)) (i) (by omega) (by omega)).trans ?_; refine (if_neg (show ¬ ((gI g127 174 1).toInt ≤ (i) ∧ (i) < (gI g127 174 1).toInt + 4) from fun z => by omega)).trans ?_; refine ((hr131.2 (by omega)) (i) (by omega) (by omega)).trans ?_; refine (if_neg (show ¬ ((gI g118 174 1).toInt ≤ (i) ∧ (i) < (gI g118 174 1).toInt + 4) from fun z => by omega)).trans ?_; refine ((hr122.2 (by omega)) (i) (by omega) (by omega)).trans ?_; refine (if_neg (show ¬ ((gI g109 174 1).toInt ≤ (i) ∧ (i) < (gI g109 174 1).toInt + 4) from fun z => by omega)).trans ?_; refine ((hr113.2 (by omega)) (i) (by omega) (by omega)).trans ?_; refine (if_neg (show ¬ ((gI g100 174 1).toInt ≤ (i) ∧ (i) < (gI g100 174 1).toInt + 4) from fun z => by omega)).trans ?_; refine ((hr104.2 (by omega)) (i) (by omega) (by omega)).trans ?_; refine (if_neg (show ¬ ((gI g0 174 1).toInt ≤ (i) ∧ (i) < (gI g0 174 1).toInt + 4) from fun z => by omega)).trans ?_; rfl); (refine Eq.trans ?_ (if_pos (show (gI g0 174 1).toInt ≤ 380 ∧ (gI g0 174 1).toInt + 0 ≤ i ∧ i < (gI g0 174 1).toInt + 4 from ⟨by omega, by omega, by omega⟩)).symm; refine ((hr140.2 (by omega)) (i) (by omega) (by omega)).trans ?_; refine (if_neg (show ¬ ((gI g127 174 1).toInt ≤ (i) ∧ (i) < (gI g127 174 1).toInt + 4) from fun z => by omega)).trans ?_; refine ((hr131.2 (by omega)) (i) (by omega) (by omega)).trans ?_; refine (if_neg (show ¬ ((gI g118 174 1).toInt ≤ (i) ∧ (i) < (gI g118 174 1).toInt + 4) from fun z => by omega)).trans ?_; refine ((hr122.2 (by omega)) (i) (by omega) (by omega)).trans ?_; refine (if_neg (show ¬ ((gI g109 174 1).toInt ≤ (i) ∧ (i) < (gI g109 174 1).toInt + 4) from fun z => by omega)).trans ?_; refine ((hr113.2 (by omega)) (i) (by omega) (by omega)).trans ?_; refine (if_neg (show ¬ ((gI g100 174 1).toInt ≤ (i) ∧ (i) < (gI g100 174 1).toInt + 4) from fun z => by omega)).trans ?_; refine ((hr104.2 (by omega)) (i) (by omega) (by omega)).trans ?_; refine (if_pos (show (gI g0 174 1).toInt ≤ (i) ∧ (i) < (gI g0 174 1).toInt + 4 from ⟨by omega, by omega⟩)).trans ?_; exact congrArg (BYT _) (by omega)); (refine Eq.trans ?_ (if_neg (show ¬ ((gI g0 174 1).toInt ≤ 380 ∧ (gI g0 174 1).toInt + 0 ≤ i ∧ i < (gI g0 174 1).toInt + 4) from fun z => by omega)).symm; refine Eq.trans ?_ (if_pos (show (gI g0 174 1).toInt ≤ 380 ∧ (gI g0 174 1).toInt + 4 ≤ i ∧ i < (gI g0 174 1).toInt + 8 from ⟨by omega, by omega, by omega⟩)).symm; refine ((hr140.2 (by omega)) (i) (by omega) (by omega)).trans ?_; refine (if_neg (show ¬ ((gI g127 174 1).toInt ≤ (i) ∧ (i) < (gI g127 174 1).toInt + 4) from fun z => by omega)).trans ?_; refine ((hr131.2 (by omega)) (i) (by omega) (by omega)).trans ?_; refine (if_neg (show ¬ ((gI g118 174 1).toInt ≤ (i) ∧ (i) < (gI g118 174 1).toInt + 4) from fun z => by omega)).trans ?_; refine ((hr122.2 (by omega)) (i) (by omega) (by omega)).trans ?_; refine (if_neg (show ¬ ((gI g109 174 1).toInt ≤ (i) ∧ (i) < (gI g109 174 1).toInt + 4) from fun z => by omega)).trans ?_; refine ((hr113.2 (by omega)) (i) (by omega) (by omega)).trans ?_; refine (if_pos (show (gI g100 174 1).toInt ≤ (i) ∧ (i) < (gI g100 174 1).toInt + 4 from ⟨by omega, by omega⟩)).trans ?_; exact congrArg (BYT _) (by omega)); (refine Eq.trans ?_ (if_neg (show ¬ ((gI g0 174 1).toInt ≤ 380 ∧ (gI g0 174 1).toInt + 0 ≤ i ∧ i < (gI g0 174 1).toInt + 4) from fun z => by omega)).symm; refine Eq.trans ?_ (if_neg (show ¬ ((gI g0 174 1).toInt ≤ 380 ∧ (gI g0 174 1).toInt + 4 ≤ i ∧ i < (gI g0 174 1).toInt + 8) from fun z => by omega)).symm; refine Eq.trans ?_ (if_pos (show (gI g0 174 1).toInt ≤ 380 ∧ (gI g0 174 1).toInt + 8 ≤ i ∧ i < (gI g0 174 1).toInt + 12 from ⟨by omega, by omega, by omega⟩)).symm; refine ((hr140.2 (by omega)) (i) (by omega) (by omega)).trans ?_; refine (if_neg (show ¬ ((gI g127 174 1).toInt ≤ (i) ∧ (i) < (gI g127 174 1).toInt + 4) from fun z => by omega)).trans ?_; refine ((hr131.2 (by omega)) (i) (by omega) (by omega)).trans ?_; refine (if_neg (show ¬ ((gI g118 174 1).toInt ≤ (i) ∧ (i) < (gI g118 174 1).toInt + 4) from fun z => by omega)).trans ?_; refine ((hr122.2 (by omega)) (i) (by omega) (by omega)).trans ?_; refine (if_pos (show (gI g109 174 1).toInt ≤ (i) ∧ (i) < (gI g109 174 1).toInt + 4 from ⟨by omega, by omega⟩)).trans ?_; exact congrArg (BYT _) (by omega)); (refine Eq.trans ?_ (if_neg (show ¬ ((gI g0 174 1).toInt ≤ 380 ∧ (gI g0 174 1).toInt + 0 ≤ i ∧ i < (gI g0 174 1).toInt + 4) from fun z => by omega)).symm; refine Eq.trans ?_ (if_neg (show ¬ ((gI g0 174 1).toInt ≤ 380 ∧ (gI g0 174 1).toInt + 4 ≤ i ∧ i < (gI g0 174 1).toInt + 8) from fun z => by omega)).symm; refine Eq.trans ?_ (if_neg (show ¬ ((gI g0 174 1).toInt ≤ 380 ∧ (gI g0 174 1).toInt + 8 ≤ i ∧ i < (gI g0 174 1).toInt + 12) from fun z => by omega)).symm; refine Eq.trans ?_ (if_pos (show (gI g0 174 1).toInt ≤ 380 ∧ (gI g0 174 1).toInt + 12 ≤ i ∧ i < (gI g0 174 1).toInt + 16 from ⟨by omega, by omega, by omega⟩)).symm; refine ((hr140.2 (by omega)) (i) (by omega) (by omega)).trans ?_; refine (if_neg (show ¬ ((gI g127 174 1).toInt ≤ (i) ∧ (i) < (gI g127 174 1).toInt + 4) from fun z => by omega)).trans ?_; refine ((hr131.2 (by omega)) (i) (by omega) (by omega)).trans ?_; refine (if_pos (show (gI g118 174 1).toInt ≤ (i) ∧ (i) < (gI g118 174 1).toInt + 4 from ⟨by omega, by omega⟩)).trans ?_; exact congrArg (BYT _) (by omega)); (refine Eq.trans ?_ (if_neg (show ¬ ((gI g0 174 1).toInt ≤ 380 ∧ (gI g0 174 1).toInt + 0 ≤ i ∧ i < (gI g0 174 1).toInt + 4) from fun z => by omega)).symm; refine Eq.trans ?_ (if_neg (show ¬ ((gI g0 174 1).toInt ≤ 380 ∧ (gI g0 174 1).toInt + 4 ≤ i ∧ i < (gI g0 174 1).toInt + 8) from fun z => by omega)).symm; refine Eq.trans ?_ (if_neg (show ¬ ((gI g0 174 1).toInt ≤ 380 ∧ (gI g0 174 1).toInt + 8 ≤ i ∧ i < (gI g0 174 1).toInt + 12) from fun z => by omega)).symm; refine Eq.trans ?_ (if_neg (show ¬ ((gI g0 174 1).toInt ≤ 380 ∧ (gI g0 174 1).toInt + 12 ≤ i ∧ i < (gI g0 174 1).toInt + 16) from fun z => by omega)).symm; refine Eq.trans ?_ (if_pos (show (gI g0 174 1).toInt ≤ 380 ∧ (gI g0 174 1).toInt + 16 ≤ i ∧ i < (gI g0 174 1).toInt + 20 from ⟨by omega, by omega, by omega⟩)).symm; refine ((hr140.2 (by omega)) (i) (by omega) (by omega)).trans ?_; refine (if_pos (show (gI g127 174 1).toInt ≤ (i) ∧ (i) < (gI g127 174 1).toInt + 4 from ⟨by omega, by omega⟩)).trans ?_; exact congrArg (BYT _) (by omega)); (refine Eq.trans ?_ (if_neg (show ¬ ((gI g0 174 1).toInt ≤ 380 ∧ (gI g0 174 1).toInt + 0 ≤ i ∧ i < (gI g0 174 1).toInt + 4) from fun z => by omega)).symm; refine Eq.trans ?_ (if_neg (show ¬ ((gI g0 174 1).toInt ≤ 380 ∧ (gI g0 174 1).toInt + 4 ≤ i ∧ i < (gI g0 174 1).toInt + 8) from fun z => by omega)).symm; refine Eq.trans ?_ (if_neg (show ¬ ((gI g0 174 1).toInt ≤ 380 ∧ (gI g0 174 1).toInt + 8 ≤ i ∧ i < (gI g0 174 1).toInt + 12) from fun z => by omega)).symm; refine Eq.trans ?_ (if_neg (show ¬ ((gI g0 174 1).toInt ≤ 380 ∧ (gI g0 174 1).toInt + 12 ≤ i ∧ i < (gI g0 174 1).toInt + 16) from fun z => by omega)).symm; refine Eq.trans ?_ (if_neg (show ¬ ((gI g0 174 1).toInt ≤ 380 ∧ (gI g0 174 1).toInt + 16 ≤ i ∧ i < (gI g0 174 1).toInt + 20) from fun z => by omega)).symm; refine ((hr140.2 (by omega)) (i) (by omega) (by omega)).trans ?_; refine (if_neg (show ¬ ((gI g127 174 1).toInt ≤ (i) ∧ (i) < (gI g127 174 1).toInt + 4) from fun z => by omega)).trans ?_; refine ((hr131.2 (by omega)) (i) (by omega) (by omega)).trans ?_; refine (if_neg (show ¬ ((gI g118 174 1).toInt ≤ (i) ∧ (i) < (gI g118 174 1).toInt + 4) from fun z => by omega)).trans ?_; refine ((hr122.2 (by omega)) (i) (by omega) (by omega)).trans ?_; refine (if_neg (show ¬ ((gI g109 174 1).toInt ≤ (i) ∧ (i) < (gI g109 174 1).toInt + 4) from fun z => by omega)).trans ?_; refine ((hr113.2 (by omega)) (i) (by omega) (by omega)).trans ?_; refine (if_neg (show ¬ ((gI g100 174 1).toInt ≤ (i) ∧ (i) < (gI g100 174 1).toInt + 4) from fun z => by omega)).trans ?_; refine ((hr104.2 (by omega)) (i) (by omega) (by omega)).trans ?_; refine (if_neg (show ¬ ((gI g0 174 1).toInt ≤ (i) ∧ (i) < (gI g0 174 1).toInt + 4) from fun z => by omega)).trans ?_; rfl))⟩⟩
  · have c99_ : v98.toInt > 400 := en_i_le_f c99
    refine At.enter rfl ?_
    refine r_iconst (-1) rfl ?_
    refine r_ireti ?_
    have zv147 : ((-1) : Int32).toInt = (-1) := rfl
    have x148 := HI.eqI hI0 (p := 174) (b := 1) (hv97)
    have x149 := HI.eqI hI0 (p := 174) (b := 1) (hv97)
    exact ⟨_, rfl, hI0, hF0, _, rfl, by decide, ⟨(by omega), (by intro i i0 i1; refine Eq.trans ?_ (if_neg (show ¬ ((gI g0 174 1).toInt ≤ 380 ∧ (gI g0 174 1).toInt + 0 ≤ i ∧ i < (gI g0 174 1).toInt + 4) from by omega)).symm; refine Eq.trans ?_ (if_neg (show ¬ ((gI g0 174 1).toInt ≤ 380 ∧ (gI g0 174 1).toInt + 4 ≤ i ∧ i < (gI g0 174 1).toInt + 8) from by omega)).symm; refine Eq.trans ?_ (if_neg (show ¬ ((gI g0 174 1).toInt ≤ 380 ∧ (gI g0 174 1).toInt + 8 ≤ i ∧ i < (gI g0 174 1).toInt + 12) from by omega)).symm; refine Eq.trans ?_ (if_neg (show ¬ ((gI g0 174 1).toInt ≤ 380 ∧ (gI g0 174 1).toInt + 12 ≤ i ∧ i < (gI g0 174 1).toInt + 16) from by omega)).symm; refine Eq.trans ?_ (if_neg (show ¬ ((gI g0 174 1).toInt ≤ 380 ∧ (gI g0 174 1).toInt + 16 ≤ i ∧ i < (gI g0 174 1).toInt + 20) from by omega)).symm; (first | rfl | exact eA_ix (by omega) | omega))⟩⟩

def F_X10_end_0 : List (Nat × Nat) := [(174, 1)]
def A_X10_end_0 : List Nat := []
set_option maxRecDepth 100000 in
set_option maxHeartbeats 4000000 in
theorem T_X10_end_0 (d : Nat) {N : Nat} {g0 : List en_E} (hI0 : HI g0) (a1 : Int32) : Ev (d + 2) 112 [.ref 0, .int a1] (g0, N) (fun w h' => ∃ g', h' = (g', N) ∧ HI g' ∧ Fr F_X10_end_0 A_X10_end_0 g0 g' ∧ ∃ r : Int32, w = some (.int r) ∧ ((-1) ≤ r.toInt ∧ r.toInt ≤ 400) ∧ ((0 ≤ a1.toInt ∧ a1.toInt ≤ (gI g0 174 1).toInt → r.toInt = a1.toInt ∧ (gI g' 174 1).toInt = a1.toInt) ∧ (a1.toInt < 0 ∨ (gI g0 174 1).toInt < a1.toInt → r.toInt = -1 ∧ (gI g' 174 1).toInt = (gI g0 174 1).toInt))) := by
  have hF0 : Fr F_X10_end_0 A_X10_end_0 g0 g0 := Fr.rf
  refine Ev.mk rfl rfl ⟨Nat.le_of_ble_eq_true rfl, Or.inr (q_rc hI0.1 kx_0 rfl)⟩ ?_
  show At _ none _ _ (0, [(0, .ref 0), (1, .int a1)], [], (_, _)) _
  refine At.enter rfl ?_
  refine r_iload_n rfl ?_
  refine r_iconst 0 rfl ?_
  refine r_aload_n rfl ?_
  refine q_getR (Sh.ref hI0.1 kx_0 rfl) ?_
  obtain ⟨v15, hv15⟩ : ∃ v, gI g0 174 1 = v := ⟨_, rfl⟩
  have rv15 := RgF.at hI0.2.1 (p := 174) (b := 1) rfl
  rw [hv15] at rv15
  dsimp only at rv15
  refine q_getI (Sh.int hI0.1 kx_174 rfl) v15 hv15 ?_
  refine q_inlS 12 rfl [.int a1, .int 0, .int v15] [] (Nat.le_of_ble_eq_true rfl) rfl ?_
  refine Ev.mk rfl rfl ⟨Nat.le_of_ble_eq_true rfl, Or.inl rfl⟩ ?_
  show At _ none _ _ (0, [(0, .int a1), (1, .int 0), (2, .int v15)], [], (_, _)) _
  refine At.enter rfl ?_
  refine r_iload_n rfl ?_
  refine r_iload_n rfl ?_
  refine r_ics 5 rfl (fun c16 => ?_) (fun c16 => ?_)
  · have c16_ : a1.toInt < 0 := en_i_lt_t c16
    refine At.enter rfl ?_
    refine r_iconst 0 rfl ?_
    refine Ar.fall 15 rfl ?_
    refine At.enter rfl ?_
    refine q_iretz (by decide) ?_
    refine At.enter rfl ?_
    refine r_iff 15 rfl (by decide) ?_
    refine At.enter rfl ?_
    refine r_iconst (-1) rfl ?_
    refine r_ireti ?_
    have zv17 : ((-1) : Int32).toInt = (-1) := rfl
    have x18 := HI.eqI hI0 (p := 174) (b := 1) (hv15)
    have x19 := HI.eqI hI0 (p := 174) (b := 1) (hv15)
    exact ⟨_, rfl, hI0, hF0, _, rfl, by decide, (by omega)⟩
  · have c16_ : a1.toInt ≥ 0 := en_i_lt_f c16
    refine At.enter rfl ?_
    refine r_iload_n rfl ?_
    refine r_iload_n rfl ?_
    have bv21 := q_bnd a1
    have bv22 := q_bnd v15
    refine r_ics 10 rfl (fun c20 => ?_) (fun c20 => ?_)
    · have c20_ : a1.toInt > v15.toInt := en_i_gt_t c20
      refine At.enter rfl ?_
      refine r_iconst 0 rfl ?_
      refine Ar.fall 15 rfl ?_
      refine At.enter rfl ?_
      refine q_iretz (by decide) ?_
      refine At.enter rfl ?_
      refine r_iff 15 rfl (by decide) ?_
      refine At.enter rfl ?_
      refine r_iconst (-1) rfl ?_
      refine r_ireti ?_
      have zv23 : ((-1) : Int32).toInt = (-1) := rfl
      have x24 := HI.eqI hI0 (p := 174) (b := 1) (hv15)
      have x25 := HI.eqI hI0 (p := 174) (b := 1) (hv15)
      exact ⟨_, rfl, hI0, hF0, _, rfl, by decide, (by omega)⟩
    · have c20_ : a1.toInt ≤ v15.toInt := en_i_gt_f c20
      refine At.enter rfl ?_
      refine r_iconst 1 rfl ?_
      refine r_goto ?_
      refine At.enter rfl ?_
      refine q_iretz (by decide) ?_
      refine At.enter rfl ?_
      refine r_ift (by decide) ?_
      refine At.enter rfl ?_
      refine r_aload_n rfl ?_
      refine q_getR (Sh.ref hI0.1 kx_0 rfl) ?_
      refine r_iload_n rfl ?_
      refine q_putI (Sh.int hI0.1 kx_174 rfl) rfl ?_
      have hI26 := HI.wI1 hI0 kx_174 rfl (p := 174) (b := 1) (v := a1) rfl (by dsimp only; omega)
      have hF27 := Fr.wI (p := 174) (b := 1) (v := a1) hF0 rfl
      refine r_iload_n rfl ?_
      refine r_ireti ?_
      have x28 := HI.eqI hI26 (p := 174) (b := 1) ((gI_sI_eq hI0.1 kx_174 rfl _))
      have x29 := HI.eqI hI0 (p := 174) (b := 1) (hv15)
      exact ⟨_, rfl, hI26, hF27, _, rfl, by omega, (by omega)⟩

def F_X10_row_0 : List (Nat × Nat) := [(0, 14), (0, 16), (0, 17), (1, 4), (174, 1), (220, 2), (222, 2), (223, 5), (223, 10)]
def A_X10_row_0 : List Nat := [5, 230]
set_option maxRecDepth 100000 in
set_option maxHeartbeats 4000000 in
theorem T_X10_row_0 (d : Nat) {N : Nat} {g0 : List en_E} (hI0 : HI g0) : Ev (d + 4) 113 [.ref 0] (g0, N) (fun w h' => ∃ g', h' = (g', N) ∧ HI g' ∧ Fr F_X10_row_0 A_X10_row_0 g0 g' ∧ ∃ r : Int32, w = some (.int r) ∧ ((-6) ≤ r.toInt ∧ r.toInt ≤ 400) ∧ (((gI g' 1 4).toInt = RLI (fun i : Int => (eA g0 175 i).toInt) (gI g0 174 1).toInt (gI g0 1 0).toInt (gI g0 1 4).toInt (6 * (((gI g0 174 1).toInt + 5) / 6)) ∧ ((gI g0 174 1).toInt = 0 → r.toInt = -6 ∧ (gI g' 0 16).toInt = (gI g0 0 16).toInt) ∧ ((gI g0 174 1).toInt ≠ 0 → r.toInt = (gI g' 1 4).toInt - (gI g0 1 4).toInt ∧ (gI g' 0 16).toInt = (6 * (((gI g0 174 1).toInt + 5) / 6)) / 6 - r.toInt) ∧ (gI g' 174 1).toInt = 0) ∧ (∀ i : Int, 0 ≤ i → i < 48 → (eA g' 5 (i)).toInt = RFI (fun i : Int => (eA g0 175 i).toInt) (gI g0 174 1).toInt (gI g0 1 0).toInt (gI g0 1 4).toInt (fun i : Int => (eA g0 5 i).toInt) (6 * (((gI g0 174 1).toInt + 5) / 6)) (i)))) := by
  have hF0 : Fr F_X10_row_0 A_X10_row_0 g0 g0 := Fr.rf
  refine Ev.mk rfl rfl ⟨Nat.le_of_ble_eq_true rfl, Or.inr (q_rc hI0.1 kx_0 rfl)⟩ ?_
  show At _ none _ _ (0, [(0, .ref 0)], [], (_, _)) _
  refine At.enter rfl ?_
  refine r_aload_n rfl ?_
  refine q_getR (Sh.ref hI0.1 kx_0 rfl) ?_
  obtain ⟨v4760, hv4760⟩ : ∃ v, gI g0 174 1 = v := ⟨_, rfl⟩
  have rv4760 := RgF.at hI0.2.1 (p := 174) (b := 1) rfl
  rw [hv4760] at rv4760
  dsimp only at rv4760
  refine q_getI (Sh.int hI0.1 kx_174 rfl) v4760 hv4760 ?_
  refine r_istore_n ([(1, .int v4760), (0, .ref 0)]) rfl ?_
  refine r_iload_n rfl ?_
  refine r_ifs 12 rfl (fun c4761 => ?_) (fun c4761 => ?_)
  · have c4761_ : v4760.toInt ≠ 0 := en_k_ne_t c4761
    refine At.enter rfl ?_
    refine r_iconst 0 rfl ?_
    refine r_istore_n ([(2, .int 0), (1, .int v4760), (0, .ref 0)]) rfl ?_
    refine r_iconst 0 rfl ?_
    refine r_istore_n ([(3, .int 0), (2, .int 0), (1, .int v4760), (0, .ref 0)]) rfl ?_
    refine r_iconst 0 rfl ?_
    refine r_istore ([(4, .int 0), (3, .int 0), (2, .int 0), (1, .int v4760), (0, .ref 0)]) rfl ?_
    refine Ar.fall 26 rfl ?_
    obtain ⟨v4762, hv4762⟩ : ∃ v, gI g0 1 4 = v := ⟨_, rfl⟩
    have rv4762 := RgF.at hI0.2.1 (p := 1) (b := 4) rfl
    rw [hv4762] at rv4762
    dsimp only at rv4762
    have tv4762 := congrArg Int32.toInt hv4762
    have z_7035 : (0 : Int32).toInt = 0 := rfl
    have z_7036 : (0 : Int32).toInt = 0 := rfl
    have z_7037 : (0 : Int32).toInt = 0 := rfl
    have x7038 := HI.eqI hI0 (p := 1) (b := 4) (hv4762)
    obtain ⟨v7039, hv7039⟩ : ∃ v, gI g0 1 0 = v := ⟨_, rfl⟩
    have rv7039 := RgF.at hI0.2.1 (p := 1) (b := 0) rfl
    rw [hv7039] at rv7039
    dsimp only at rv7039
    have tv7039 := congrArg Int32.toInt hv7039
    have x7040 := HI.eqI hI0 (p := 1) (b := 0) (hv7039)
    have x7041 := HI.eqI hI0 (p := 174) (b := 1) (hv4760)
    refine w_loopI (fun n_ l_ g_ => ∃ x7007 : Int32, ∃ x7008 : Int32, ∃ x7009 : Int32, ∃ x7010 : Int32, n_ = 405 - x7009.toInt ∧ HI g_ ∧ Fr F_X10_row_0 A_X10_row_0 g0 g_ ∧ gI g_ 1 4 = x7010 ∧ gI g_ 174 1 = v4760 ∧ en_get 0 l_ = some (.ref 0) ∧ en_get 1 l_ = some (.int v4760) ∧ en_get 2 l_ = some (.int x7007) ∧ en_get 3 l_ = some (.int x7008) ∧ en_get 4 l_ = some (.int x7009) ∧ (0 ≤ x7007.toInt ∧ x7007.toInt ≤ 400) ∧ (0 ≤ x7008.toInt ∧ x7008.toInt ≤ 400) ∧ (0 ≤ x7009.toInt ∧ x7009.toInt ≤ 405) ∧ (0 ≤ x7010.toInt ∧ x7010.toInt ≤ 8) ∧ (x7009.toInt % 6 = 0) ∧ (0 ≤ x7009.toInt) ∧ (x7009.toInt < (gI g0 174 1).toInt + 6) ∧ (x7010.toInt = RLI (fun i : Int => (eA g0 175 i).toInt) (gI g0 174 1).toInt (gI g0 1 0).toInt (gI g0 1 4).toInt x7009.toInt) ∧ (x7007.toInt = x7010.toInt - (gI g0 1 4).toInt) ∧ (x7008.toInt = x7009.toInt / 6 - x7007.toInt) ∧ (∀ i : Int, 0 ≤ i → i < 48 → (eA g_ 5 (i)).toInt = RFI (fun i : Int => (eA g0 175 i).toInt) (gI g0 174 1).toInt (gI g0 1 0).toInt (gI g0 1 4).toInt (fun i : Int => (eA g0 5 i).toInt) x7009.toInt (i))) ?_ (405 - 0) ⟨0, 0, 0, v4762, by first | rfl | omega, hI0, hF0, hv4762, hv4760, rfl, rfl, rfl, rfl, rfl, by decide, by decide, by decide, by omega, by omega, by omega, by omega, (by refine Eq.trans ?_ (RLI.z _ _ _ _ (by first | rfl | decide | omega)); omega), by omega, by omega, (by intro i i0 i1; exact RFI.z _ _ _ _ (fun i : Int => (eA g0 5 i).toInt) (by first | rfl | decide | omega) _)⟩
    rintro n7015 l7014 g7011 ⟨x7007, x7008, x7009, x7010, hm7042, hI7012, hF7013, e7017, e7018, e7019, e7020, e7021, e7022, e7023, r7024, r7025, r7026, r7027, q7028, q7029, q7030, q7031, q7032, q7033, q7034⟩ ih7016
    have tv7043 := congrArg Int32.toInt e7018
    have tv7044 := congrArg Int32.toInt e7017
    refine At.enter rfl ?_
    refine r_iload e7023 ?_
    refine r_iload_n e7020 ?_
    have bv7046 := q_bnd x7009
    have bv7047 := q_bnd v4760
    refine r_ics 32 rfl (fun c7045 => ?_) (fun c7045 => ?_)
    · have c7045_ : x7009.toInt ≥ v4760.toInt := en_i_ge_t c7045
      refine At.enter rfl ?_
      refine r_aload_n e7019 ?_
      refine q_getR (Sh.ref hI7012.1 kx_0 rfl) ?_
      refine r_iconst 0 rfl ?_
      refine q_putI (Sh.int hI7012.1 kx_174 rfl) rfl ?_
      have hI7048 := HI.wI1 hI7012 kx_174 rfl (p := 174) (b := 1) (v := 0) rfl (by decide)
      have hF7049 := Fr.wI (p := 174) (b := 1) (v := 0) hF7013 rfl
      refine r_aload_n e7019 ?_
      refine r_iload_n e7022 ?_
      refine q_putI (Sh.int hI7048.1 kx_0 rfl) rfl ?_
      have hI7050 := HI.wI0 hI7048 kx_0 rfl (p := 0) (b := 16) (v := x7008) rfl
      have hF7051 := Fr.wI (p := 0) (b := 16) (v := x7008) hF7049 rfl
      refine r_aload_n e7019 ?_
      refine r_callV 82 rfl [.ref 0] [] (Nat.le_of_ble_eq_true rfl) rfl (T_X10_changed_0 _ hI7050) ?_
      rintro _ _ ⟨g7052, rfl, hI7053, hF7054, rfl⟩
      refine At.stn ?_
      have hF7057 := Fr.tr hF7051 hF7054 rfl rfl
      refine At.enter rfl ?_
      refine r_aload_n e7019 ?_
      refine r_iload_n e7021 ?_
      refine q_inlV 87 rfl [.ref 0, .int x7007] [] (Nat.le_of_ble_eq_true rfl) rfl ?_
      refine Ev.mk rfl rfl ⟨Nat.le_of_ble_eq_true rfl, Or.inr (q_rc hI7053.1 kx_0 rfl)⟩ ?_
      show At _ none _ _ (0, [(0, .ref 0), (1, .int x7007)], [], (_, _)) _
      refine At.enter rfl ?_
      refine r_aload_n rfl ?_
      refine r_iconst 0 rfl ?_
      refine q_putI (Sh.int hI7053.1 kx_0 rfl) rfl ?_
      have hI7058 := HI.wI0 hI7053 kx_0 rfl (p := 0) (b := 17) (v := 0) rfl
      have hF7059 := Fr.wI (p := 0) (b := 17) (v := 0) hF7057 rfl
      refine r_iload_n rfl ?_
      refine q_ireti ?_
      refine At.enter rfl ?_
      refine r_ireti ?_
      have x7060 := HI.eqI hI7058 (p := 1) (b := 4) ((((gI_sI_ne (by decide)).trans ((hF7054.1 1 4 (by decide)).trans ((gI_sI_ne (by decide)).trans (gI_sI_ne (by decide))))).trans e7017))
      have x7061 := HI.eqI hI0 (p := 1) (b := 4) (hv4762)
      have x7062 := HI.eqI hI7058 (p := 174) (b := 1) (((gI_sI_ne (by decide)).trans ((hF7054.1 174 1 (by decide)).trans ((gI_sI_ne (by decide)).trans (gI_sI_eq hI7012.1 kx_174 rfl _)))))
      have zv7063 : (0 : Int32).toInt = 0 := rfl
      have x7064 := HI.eqI hI0 (p := 174) (b := 1) (hv4760)
      have x7065 := HI.eqI hI7058 (p := 0) (b := 16) (((gI_sI_ne (by decide)).trans ((hF7054.1 0 16 (by decide)).trans (gI_sI_eq hI7048.1 kx_0 rfl _))))
      obtain ⟨v7066, hv7066⟩ : ∃ v, gI g0 0 16 = v := ⟨_, rfl⟩
      have tv7066 := congrArg Int32.toInt hv7066
      have x7067 := HI.eqI hI0 (p := 0) (b := 16) (hv7066)
      have x7068 := HI.eqI hI0 (p := 1) (b := 0) (hv7039)
      exact ⟨_, rfl, hI7058, hF7059, _, rfl, by omega, ⟨⟨(by rw [show (6 * (((gI g0 174 1).toInt + 5) / 6)) = x7009.toInt from by omega]; refine Eq.trans ?_ q7031; omega), by omega, by omega, by omega⟩, (by intro i i0 i1; rw [show (6 * (((gI g0 174 1).toInt + 5) / 6)) = x7009.toInt from by omega]; refine (eA_ti (((gA_sI).trans ((hF7054.2.1 5 (by decide)).trans ((gA_sI).trans (gA_sI)))))).trans ?_; exact q7034 i i0 i1)⟩⟩
    · have c7045_ : x7009.toInt < v4760.toInt := en_i_ge_f c7045
      refine At.enter rfl ?_
      refine r_iload e7023 ?_
      refine r_bipush 6 rfl ?_
      refine q_iadd (x7009.toInt + 6) rfl (by omega) (fun v7069 hv7069 => ?_)
      refine r_iload_n e7020 ?_
      have bv7071 := q_bnd v7069
      refine r_ics 41 rfl (fun c7070 => ?_) (fun c7070 => ?_)
      · have c7070_ : v7069.toInt > v4760.toInt := en_i_gt_t c7070
        refine At.enter rfl ?_
        refine q_iinc e7022 (x7008.toInt + 1) rfl (by omega) (fun v7072 hv7072 => ?_)
        refine Ar.fall 59 rfl ?_
        refine At.enter rfl ?_
        refine q_iinc (w_p1 (by decide) (Or.inr rfl) e7023) (x7009.toInt + 6) rfl (by omega) (fun v7073 hv7073 => ?_)
        refine r_goto ?_
        exact ih7016 (405 - v7073.toInt) _ _ ⟨x7007, v7072, v7073, x7010, by first | rfl | omega, hI7012, hF7013, e7017, e7018, (w_p1 (by decide) (Or.inr rfl) (w_p1 (by decide) (Or.inr rfl) e7019)), (w_p1 (by decide) (Or.inr rfl) (w_p1 (by decide) (Or.inr rfl) e7020)), (w_p1 (by decide) (Or.inr rfl) (w_p1 (by decide) (Or.inr rfl) e7021)), (w_p1 (by decide) (Or.inr rfl) (w_e1 _ _ _)), (w_e1 _ _ _), by omega, by omega, by omega, by omega, by omega, by omega, by omega, (RLI.n (by omega) (by omega) q7031 (fun h => by have h2 : x7009.toInt + 6 ≤ (gI g0 174 1).toInt ∧ x7010.toInt < 8 ∧ (1 ≤ (eA g0 175 x7009.toInt).toInt ∧ (eA g0 175 x7009.toInt).toInt ≤ 9) ∧ (0 ≤ (eA g0 175 (x7009.toInt + 3)).toInt ∧ (eA g0 175 (x7009.toInt + 3)).toInt ≤ 99) ∧ (0 ≤ (eA g0 175 (x7009.toInt + 4)).toInt ∧ (eA g0 175 (x7009.toInt + 4)).toInt ≤ 9) ∧ (0 ≤ (eA g0 175 (x7009.toInt + 5)).toInt ∧ (eA g0 175 (x7009.toInt + 5)).toInt ≤ 9999) ∧ (0 ≤ (eA g0 175 (x7009.toInt + 1)).toInt ∧ (eA g0 175 (x7009.toInt + 1)).toInt < (gI g0 1 0).toInt) ∧ (0 ≤ (eA g0 175 (x7009.toInt + 2)).toInt ∧ (eA g0 175 (x7009.toInt + 2)).toInt < (gI g0 1 0).toInt) := h; omega) (by omega) (by omega)), by omega, by omega, (by intro i i0 i1; refine (eA_ti (rfl)).trans ?_; refine (q7034 i i0 i1).trans ?_; exact RFI.n (by omega) (by omega) q7031 (by omega) rfl (fun k => absurd k.1 (fun h => by have h2 : x7009.toInt + 6 ≤ (gI g0 174 1).toInt ∧ x7010.toInt < 8 ∧ (1 ≤ (eA g0 175 x7009.toInt).toInt ∧ (eA g0 175 x7009.toInt).toInt ≤ 9) ∧ (0 ≤ (eA g0 175 (x7009.toInt + 3)).toInt ∧ (eA g0 175 (x7009.toInt + 3)).toInt ≤ 99) ∧ (0 ≤ (eA g0 175 (x7009.toInt + 4)).toInt ∧ (eA g0 175 (x7009.toInt + 4)).toInt ≤ 9) ∧ (0 ≤ (eA g0 175 (x7009.toInt + 5)).toInt ∧ (eA g0 175 (x7009.toInt + 5)).toInt ≤ 9999) ∧ (0 ≤ (eA g0 175 (x7009.toInt + 1)).toInt ∧ (eA g0 175 (x7009.toInt + 1)).toInt < (gI g0 1 0).toInt) ∧ (0 ≤ (eA g0 175 (x7009.toInt + 2)).toInt ∧ (eA g0 175 (x7009.toInt + 2)).toInt < (gI g0 1 0).toInt) := h; omega)))⟩ ⟨by omega, by omega⟩
      · have c7070_ : v7069.toInt ≤ v4760.toInt := en_i_gt_f c7070
        refine At.enter rfl ?_
        refine r_aload_n e7019 ?_
        refine r_iload e7023 ?_
        refine q_inlV 47 rfl [.ref 0, .int x7009] [] (Nat.le_of_ble_eq_true rfl) rfl ?_
        refine Ev.mk rfl rfl ⟨Nat.le_of_ble_eq_true rfl, Or.inr (q_rc hI7012.1 kx_0 rfl)⟩ ?_
        show At _ none _ _ (0, [(0, .ref 0), (1, .int x7009)], [], (_, _)) _
        refine At.enter rfl ?_
        refine r_aload_n rfl ?_
        refine q_getR (Sh.ref hI7012.1 kx_0 rfl) ?_
        refine r_iload_n rfl ?_
        refine r_iconst 0 rfl ?_
        refine q_iadd (x7009.toInt + 0) rfl (by omega) (fun v7074 hv7074 => ?_)
        refine r_callV 10 rfl [.ref 174, .int v7074] [] (Nat.le_of_ble_eq_true rfl) rfl (T_X8_at_174 _ hI7012 v7074) ?_
        rintro _ _ ⟨g7075, rfl, hI7076, hF7077, v7078, rfl, hr7079⟩
        refine At.sti ?_
        have hF7080 := Fr.tr hF7013 hF7077 rfl rfl
        have x7081 := HI.eqI hI7012 (p := 174) (b := 1) (e7018)
        have y7082 := (eA_ix (g := g0) (p := 175) (show x7009.toInt = v7074.toInt from by omega)).trans (eA_ti (j := v7074.toInt) ((hF7013.2.1 175 (by decide)))).symm
        have y7083 : v7078.toInt = (eA g0 175 x7009.toInt).toInt := (hr7079.2.2 ⟨by omega, by omega⟩).trans y7082.symm
        clear hr7079 y7082
        have x7084 := HI.eqI hI7012 (p := 174) (b := 1) (e7018)
        refine At.enter rfl ?_
        refine r_istore_n ([(2, .int v7078), (0, .ref 0), (1, .int x7009)]) rfl ?_
        refine r_aload_n rfl ?_
        refine q_getR (Sh.ref hI7076.1 kx_0 rfl) ?_
        refine r_iload_n rfl ?_
        refine r_iconst 1 rfl ?_
        refine q_iadd (x7009.toInt + 1) rfl (by omega) (fun v7085 hv7085 => ?_)
        refine r_callV 21 rfl [.ref 174, .int v7085] [] (Nat.le_of_ble_eq_true rfl) rfl (T_X8_at_174 _ hI7076 v7085) ?_
        rintro _ _ ⟨g7086, rfl, hI7087, hF7088, v7089, rfl, hr7090⟩
        refine At.sti ?_
        have hF7091 := Fr.tr hF7080 hF7088 rfl rfl
        have x7092 := HI.eqI hI7076 (p := 174) (b := 1) (((hF7077.1 174 1 (by decide)).trans e7018))
        have y7093 := (eA_ix (g := g0) (p := 175) (show (x7009.toInt + 1) = v7085.toInt from by omega)).trans (eA_ti (j := v7085.toInt) (((hF7077.2.1 175 (by decide)).trans (hF7013.2.1 175 (by decide))))).symm
        have y7094 : v7089.toInt = (eA g0 175 (x7009.toInt + 1)).toInt := (hr7090.2.2 ⟨by omega, by omega⟩).trans y7093.symm
        clear hr7090 y7093
        have x7095 := HI.eqI hI7076 (p := 174) (b := 1) (((hF7077.1 174 1 (by decide)).trans e7018))
        refine At.enter rfl ?_
        refine r_istore_n ([(3, .int v7089), (2, .int v7078), (0, .ref 0), (1, .int x7009)]) rfl ?_
        refine r_aload_n rfl ?_
        refine q_getR (Sh.ref hI7087.1 kx_0 rfl) ?_
        refine r_iload_n rfl ?_
        refine r_iconst 2 rfl ?_
        refine q_iadd (x7009.toInt + 2) rfl (by omega) (fun v7096 hv7096 => ?_)
        refine r_callV 32 rfl [.ref 174, .int v7096] [] (Nat.le_of_ble_eq_true rfl) rfl (T_X8_at_174 _ hI7087 v7096) ?_
        rintro _ _ ⟨g7097, rfl, hI7098, hF7099, v7100, rfl, hr7101⟩
        refine At.sti ?_
        have hF7102 := Fr.tr hF7091 hF7099 rfl rfl
        have x7103 := HI.eqI hI7087 (p := 174) (b := 1) ((((hF7088.1 174 1 (by decide)).trans (hF7077.1 174 1 (by decide))).trans e7018))
        have y7104 := (eA_ix (g := g0) (p := 175) (show (x7009.toInt + 2) = v7096.toInt from by omega)).trans (eA_ti (j := v7096.toInt) (((hF7088.2.1 175 (by decide)).trans ((hF7077.2.1 175 (by decide)).trans (hF7013.2.1 175 (by decide)))))).symm
        have y7105 : v7100.toInt = (eA g0 175 (x7009.toInt + 2)).toInt := (hr7101.2.2 ⟨by omega, by omega⟩).trans y7104.symm
        clear hr7101 y7104
        have x7106 := HI.eqI hI7087 (p := 174) (b := 1) ((((hF7088.1 174 1 (by decide)).trans (hF7077.1 174 1 (by decide))).trans e7018))
        refine At.enter rfl ?_
        refine r_istore ([(4, .int v7100), (3, .int v7089), (2, .int v7078), (0, .ref 0), (1, .int x7009)]) rfl ?_
        refine r_aload_n rfl ?_
        refine q_getR (Sh.ref hI7098.1 kx_0 rfl) ?_
        refine r_iload_n rfl ?_
        refine r_iconst 3 rfl ?_
        refine q_iadd (x7009.toInt + 3) rfl (by omega) (fun v7107 hv7107 => ?_)
        refine r_callV 44 rfl [.ref 174, .int v7107] [] (Nat.le_of_ble_eq_true rfl) rfl (T_X8_at_174 _ hI7098 v7107) ?_
        rintro _ _ ⟨g7108, rfl, hI7109, hF7110, v7111, rfl, hr7112⟩
        refine At.sti ?_
        have hF7113 := Fr.tr hF7102 hF7110 rfl rfl
        have x7114 := HI.eqI hI7098 (p := 174) (b := 1) ((((hF7099.1 174 1 (by decide)).trans ((hF7088.1 174 1 (by decide)).trans (hF7077.1 174 1 (by decide)))).trans e7018))
        have y7115 := (eA_ix (g := g0) (p := 175) (show (x7009.toInt + 3) = v7107.toInt from by omega)).trans (eA_ti (j := v7107.toInt) (((hF7099.2.1 175 (by decide)).trans ((hF7088.2.1 175 (by decide)).trans ((hF7077.2.1 175 (by decide)).trans (hF7013.2.1 175 (by decide))))))).symm
        have y7116 : v7111.toInt = (eA g0 175 (x7009.toInt + 3)).toInt := (hr7112.2.2 ⟨by omega, by omega⟩).trans y7115.symm
        clear hr7112 y7115
        have x7117 := HI.eqI hI7098 (p := 174) (b := 1) ((((hF7099.1 174 1 (by decide)).trans ((hF7088.1 174 1 (by decide)).trans (hF7077.1 174 1 (by decide)))).trans e7018))
        refine At.enter rfl ?_
        refine r_istore ([(5, .int v7111), (4, .int v7100), (3, .int v7089), (2, .int v7078), (0, .ref 0), (1, .int x7009)]) rfl ?_
        refine r_aload_n rfl ?_
        refine q_getR (Sh.ref hI7109.1 kx_0 rfl) ?_
        refine r_iload_n rfl ?_
        refine r_iconst 4 rfl ?_
        refine q_iadd (x7009.toInt + 4) rfl (by omega) (fun v7118 hv7118 => ?_)
        refine r_callV 56 rfl [.ref 174, .int v7118] [] (Nat.le_of_ble_eq_true rfl) rfl (T_X8_at_174 _ hI7109 v7118) ?_
        rintro _ _ ⟨g7119, rfl, hI7120, hF7121, v7122, rfl, hr7123⟩
        refine At.sti ?_
        have hF7124 := Fr.tr hF7113 hF7121 rfl rfl
        have x7125 := HI.eqI hI7109 (p := 174) (b := 1) ((((hF7110.1 174 1 (by decide)).trans ((hF7099.1 174 1 (by decide)).trans ((hF7088.1 174 1 (by decide)).trans (hF7077.1 174 1 (by decide))))).trans e7018))
        have y7126 := (eA_ix (g := g0) (p := 175) (show (x7009.toInt + 4) = v7118.toInt from by omega)).trans (eA_ti (j := v7118.toInt) (((hF7110.2.1 175 (by decide)).trans ((hF7099.2.1 175 (by decide)).trans ((hF7088.2.1 175 (by decide)).trans ((hF7077.2.1 175 (by decide)).trans (hF7013.2.1 175 (by decide)))))))).symm
        have y7127 : v7122.toInt = (eA g0 175 (x7009.toInt + 4)).toInt := (hr7123.2.2 ⟨by omega, by omega⟩).trans y7126.symm
        clear hr7123 y7126
        have x7128 := HI.eqI hI7109 (p := 174) (b := 1) ((((hF7110.1 174 1 (by decide)).trans ((hF7099.1 174 1 (by decide)).trans ((hF7088.1 174 1 (by decide)).trans (hF7077.1 174 1 (by decide))))).trans e7018))
        refine At.enter rfl ?_
        refine r_istore ([(6, .int v7122), (5, .int v7111), (4, .int v7100), (3, .int v7089), (2, .int v7078), (0, .ref 0), (1, .int x7009)]) rfl ?_
        refine r_aload_n rfl ?_
        refine q_getR (Sh.ref hI7120.1 kx_0 rfl) ?_
        refine r_iload_n rfl ?_
        refine r_iconst 5 rfl ?_
        refine q_iadd (x7009.toInt + 5) rfl (by omega) (fun v7129 hv7129 => ?_)
        refine r_callV 68 rfl [.ref 174, .int v7129] [] (Nat.le_of_ble_eq_true rfl) rfl (T_X8_at_174 _ hI7120 v7129) ?_
        rintro _ _ ⟨g7130, rfl, hI7131, hF7132, v7133, rfl, hr7134⟩
        refine At.sti ?_
        have hF7135 := Fr.tr hF7124 hF7132 rfl rfl
        have x7136 := HI.eqI hI7120 (p := 174) (b := 1) ((((hF7121.1 174 1 (by decide)).trans ((hF7110.1 174 1 (by decide)).trans ((hF7099.1 174 1 (by decide)).trans ((hF7088.1 174 1 (by decide)).trans (hF7077.1 174 1 (by decide)))))).trans e7018))
        have y7137 := (eA_ix (g := g0) (p := 175) (show (x7009.toInt + 5) = v7129.toInt from by omega)).trans (eA_ti (j := v7129.toInt) (((hF7121.2.1 175 (by decide)).trans ((hF7110.2.1 175 (by decide)).trans ((hF7099.2.1 175 (by decide)).trans ((hF7088.2.1 175 (by decide)).trans ((hF7077.2.1 175 (by decide)).trans (hF7013.2.1 175 (by decide))))))))).symm
        have y7138 : v7133.toInt = (eA g0 175 (x7009.toInt + 5)).toInt := (hr7134.2.2 ⟨by omega, by omega⟩).trans y7137.symm
        clear hr7134 y7137
        have x7139 := HI.eqI hI7120 (p := 174) (b := 1) ((((hF7121.1 174 1 (by decide)).trans ((hF7110.1 174 1 (by decide)).trans ((hF7099.1 174 1 (by decide)).trans ((hF7088.1 174 1 (by decide)).trans (hF7077.1 174 1 (by decide)))))).trans e7018))
        refine At.enter rfl ?_
        refine r_istore ([(7, .int v7133), (6, .int v7122), (5, .int v7111), (4, .int v7100), (3, .int v7089), (2, .int v7078), (0, .ref 0), (1, .int x7009)]) rfl ?_
        refine r_aload_n rfl ?_
        refine r_iload_n rfl ?_
        refine r_iload_n rfl ?_
        refine r_iload rfl ?_
        refine r_iload rfl ?_
        refine r_iload rfl ?_
        refine r_iload rfl ?_
        refine r_callV 84 rfl [.ref 0, .int v7078, .int v7089, .int v7100, .int v7111, .int v7122, .int v7133] [] (Nat.le_of_ble_eq_true rfl) rfl (T_X10_whyNoLoad_0 _ hI7131 v7078 v7089 v7100 v7111 v7122 v7133) ?_
        rintro _ _ ⟨g7140, rfl, hI7141, hF7142, v7143, rfl, hr7144⟩
        refine At.sti ?_
        have hF7145 := Fr.tr hF7135 hF7142 rfl rfl
        have x7146 := HI.eqI hI7131 (p := 1) (b := 0) ((((hF7132.1 1 0 (by decide)).trans ((hF7121.1 1 0 (by decide)).trans ((hF7110.1 1 0 (by decide)).trans ((hF7099.1 1 0 (by decide)).trans ((hF7088.1 1 0 (by decide)).trans ((hF7077.1 1 0 (by decide)).trans (hF7013.1 1 0 (by decide)))))))).trans hv7039))
        have x7147 := HI.eqI hI7131 (p := 1) (b := 4) ((((hF7132.1 1 4 (by decide)).trans ((hF7121.1 1 4 (by decide)).trans ((hF7110.1 1 4 (by decide)).trans ((hF7099.1 1 4 (by decide)).trans ((hF7088.1 1 4 (by decide)).trans (hF7077.1 1 4 (by decide))))))).trans e7017))
        refine At.enter rfl ?_
        refine r_ifs 87 rfl (fun c7148 => ?_) (fun c7148 => ?_)
        · have c7148_ : v7143.toInt = 0 := en_k_eq_t c7148
          refine At.enter rfl ?_
          refine r_aload_n rfl ?_
          refine q_getR (Sh.ref hI7141.1 kx_0 rfl) ?_
          refine r_iload_n rfl ?_
          refine r_iload_n rfl ?_
          refine r_iload rfl ?_
          refine r_iload rfl ?_
          refine r_iload rfl ?_
          refine r_iload rfl ?_
          refine r_callV 106 rfl [.ref 1, .int v7078, .int v7089, .int v7100, .int v7111, .int v7122, .int v7133] [] (Nat.le_of_ble_eq_true rfl) rfl (T_X0_addLoad_1 _ hI7141 v7078 v7089 v7100 v7111 v7122 v7133) ?_
          rintro _ _ ⟨g7149, rfl, hI7150, hF7151, v7152, rfl, hr7153⟩
          refine At.sti ?_
          have hF7154 := Fr.tr hF7145 hF7151 rfl rfl
          have x7155 := HI.eqI hI7141 (p := 1) (b := 4) ((((hF7142.1 1 4 (by decide)).trans ((hF7132.1 1 4 (by decide)).trans ((hF7121.1 1 4 (by decide)).trans ((hF7110.1 1 4 (by decide)).trans ((hF7099.1 1 4 (by decide)).trans ((hF7088.1 1 4 (by decide)).trans (hF7077.1 1 4 (by decide)))))))).trans e7017))
          obtain ⟨v7156, hv7156⟩ : ∃ v, gI g7149 1 4 = v := ⟨_, rfl⟩
          have rv7156 := RgF.at hI7150.2.1 (p := 1) (b := 4) rfl
          rw [hv7156] at rv7156
          dsimp only at rv7156
          have tv7156 := congrArg Int32.toInt hv7156
          have x7157 := HI.eqI hI7150 (p := 1) (b := 4) (hv7156)
          refine At.enter rfl ?_
          refine r_pop rfl ?_
          refine r_iconst 1 rfl ?_
          refine q_iretz (by decide) ?_
          refine At.enter rfl ?_
          refine r_iff 50 rfl (by decide) ?_
          refine At.enter rfl ?_
          refine q_iinc e7021 (x7007.toInt + 1) rfl (by omega) (fun v7158 hv7158 => ?_)
          refine r_goto ?_
          refine At.enter rfl ?_
          refine q_iinc (w_p1 (by decide) (Or.inr rfl) e7023) (x7009.toInt + 6) rfl (by omega) (fun v7159 hv7159 => ?_)
          refine r_goto ?_
          have c7160 := WNL.y hr7144.2 (by omega)
          exact ih7016 (405 - v7159.toInt) _ _ ⟨v7158, x7008, v7159, v7156, by first | rfl | omega, hI7150, hF7154, hv7156, (((hF7151.1 174 1 (by decide)).trans ((hF7142.1 174 1 (by decide)).trans ((hF7132.1 174 1 (by decide)).trans ((hF7121.1 174 1 (by decide)).trans ((hF7110.1 174 1 (by decide)).trans ((hF7099.1 174 1 (by decide)).trans ((hF7088.1 174 1 (by decide)).trans (hF7077.1 174 1 (by decide))))))))).trans e7018), (w_p1 (by decide) (Or.inr rfl) (w_p1 (by decide) (Or.inr rfl) e7019)), (w_p1 (by decide) (Or.inr rfl) (w_p1 (by decide) (Or.inr rfl) e7020)), (w_p1 (by decide) (Or.inr rfl) (w_e1 _ _ _)), (w_p1 (by decide) (Or.inr rfl) (w_p1 (by decide) (Or.inr rfl) e7022)), (w_e1 _ _ _), by omega, by omega, by omega, by omega, by omega, by omega, by omega, (RLI.y (by omega) (by omega) q7031 (show x7009.toInt + 6 ≤ (gI g0 174 1).toInt ∧ x7010.toInt < 8 ∧ (1 ≤ (eA g0 175 x7009.toInt).toInt ∧ (eA g0 175 x7009.toInt).toInt ≤ 9) ∧ (0 ≤ (eA g0 175 (x7009.toInt + 3)).toInt ∧ (eA g0 175 (x7009.toInt + 3)).toInt ≤ 99) ∧ (0 ≤ (eA g0 175 (x7009.toInt + 4)).toInt ∧ (eA g0 175 (x7009.toInt + 4)).toInt ≤ 9) ∧ (0 ≤ (eA g0 175 (x7009.toInt + 5)).toInt ∧ (eA g0 175 (x7009.toInt + 5)).toInt ≤ 9999) ∧ (0 ≤ (eA g0 175 (x7009.toInt + 1)).toInt ∧ (eA g0 175 (x7009.toInt + 1)).toInt < (gI g0 1 0).toInt) ∧ (0 ≤ (eA g0 175 (x7009.toInt + 2)).toInt ∧ (eA g0 175 (x7009.toInt + 2)).toInt < (gI g0 1 0).toInt) from by have c := WNL.y hr7144.2 (by omega); omega) (by omega) (by omega)), by omega, by omega, (by intro i i0 i1; refine (hr7153.2.2.2 i i0 i1).trans ?_; exact (Decidable.em ((gI g7140 1 4).toInt < 8 ∧ i = 6 * (gI g7140 1 4).toInt + 0)).elim (fun k84_ => by refine (if_pos k84_).trans ?_; refine Eq.trans ?_ (RFI.y (l := x7010.toInt) (by omega) (by omega) q7031 (show x7009.toInt + 6 ≤ (gI g0 174 1).toInt ∧ x7010.toInt < 8 ∧ (1 ≤ (eA g0 175 x7009.toInt).toInt ∧ (eA g0 175 x7009.toInt).toInt ≤ 9) ∧ (0 ≤ (eA g0 175 (x7009.toInt + 3)).toInt ∧ (eA g0 175 (x7009.toInt + 3)).toInt ≤ 99) ∧ (0 ≤ (eA g0 175 (x7009.toInt + 4)).toInt ∧ (eA g0 175 (x7009.toInt + 4)).toInt ≤ 9) ∧ (0 ≤ (eA g0 175 (x7009.toInt + 5)).toInt ∧ (eA g0 175 (x7009.toInt + 5)).toInt ≤ 9999) ∧ (0 ≤ (eA g0 175 (x7009.toInt + 1)).toInt ∧ (eA g0 175 (x7009.toInt + 1)).toInt < (gI g0 1 0).toInt) ∧ (0 ≤ (eA g0 175 (x7009.toInt + 2)).toInt ∧ (eA g0 175 (x7009.toInt + 2)).toInt < (gI g0 1 0).toInt) from by have c := WNL.y hr7144.2 (by omega); omega) (by omega) (by omega)); refine Eq.trans ?_ (eA_ix (g := g0) (p := 175) (show x7009.toInt = x7009.toInt + (i - 6 * x7010.toInt) from by omega)); omega) (fun k84_ => by refine (if_neg k84_).trans ?_; exact (Decidable.em ((gI g7140 1 4).toInt < 8 ∧ i = 6 * (gI g7140 1 4).toInt + 1)).elim (fun k85_ => by refine (if_pos k85_).trans ?_; refine Eq.trans ?_ (RFI.y (l := x7010.toInt) (by omega) (by omega) q7031 (show x7009.toInt + 6 ≤ (gI g0 174 1).toInt ∧ x7010.toInt < 8 ∧ (1 ≤ (eA g0 175 x7009.toInt).toInt ∧ (eA g0 175 x7009.toInt).toInt ≤ 9) ∧ (0 ≤ (eA g0 175 (x7009.toInt + 3)).toInt ∧ (eA g0 175 (x7009.toInt + 3)).toInt ≤ 99) ∧ (0 ≤ (eA g0 175 (x7009.toInt + 4)).toInt ∧ (eA g0 175 (x7009.toInt + 4)).toInt ≤ 9) ∧ (0 ≤ (eA g0 175 (x7009.toInt + 5)).toInt ∧ (eA g0 175 (x7009.toInt + 5)).toInt ≤ 9999) ∧ (0 ≤ (eA g0 175 (x7009.toInt + 1)).toInt ∧ (eA g0 175 (x7009.toInt + 1)).toInt < (gI g0 1 0).toInt) ∧ (0 ≤ (eA g0 175 (x7009.toInt + 2)).toInt ∧ (eA g0 175 (x7009.toInt + 2)).toInt < (gI g0 1 0).toInt) from by have c := WNL.y hr7144.2 (by omega); omega) (by omega) (by omega)); refine Eq.trans ?_ (eA_ix (g := g0) (p := 175) (show x7009.toInt + 1 = x7009.toInt + (i - 6 * x7010.toInt) from by omega)); omega) (fun k85_ => by refine (if_neg k85_).trans ?_; exact (Decidable.em ((gI g7140 1 4).toInt < 8 ∧ i = 6 * (gI g7140 1 4).toInt + 2)).elim (fun k86_ => by refine (if_pos k86_).trans ?_; refine Eq.trans ?_ (RFI.y (l := x7010.toInt) (by omega) (by omega) q7031 (show x7009.toInt + 6 ≤ (gI g0 174 1).toInt ∧ x7010.toInt < 8 ∧ (1 ≤ (eA g0 175 x7009.toInt).toInt ∧ (eA g0 175 x7009.toInt).toInt ≤ 9) ∧ (0 ≤ (eA g0 175 (x7009.toInt + 3)).toInt ∧ (eA g0 175 (x7009.toInt + 3)).toInt ≤ 99) ∧ (0 ≤ (eA g0 175 (x7009.toInt + 4)).toInt ∧ (eA g0 175 (x7009.toInt + 4)).toInt ≤ 9) ∧ (0 ≤ (eA g0 175 (x7009.toInt + 5)).toInt ∧ (eA g0 175 (x7009.toInt + 5)).toInt ≤ 9999) ∧ (0 ≤ (eA g0 175 (x7009.toInt + 1)).toInt ∧ (eA g0 175 (x7009.toInt + 1)).toInt < (gI g0 1 0).toInt) ∧ (0 ≤ (eA g0 175 (x7009.toInt + 2)).toInt ∧ (eA g0 175 (x7009.toInt + 2)).toInt < (gI g0 1 0).toInt) from by have c := WNL.y hr7144.2 (by omega); omega) (by omega) (by omega)); refine Eq.trans ?_ (eA_ix (g := g0) (p := 175) (show x7009.toInt + 2 = x7009.toInt + (i - 6 * x7010.toInt) from by omega)); omega) (fun k86_ => by refine (if_neg k86_).trans ?_; exact (Decidable.em ((gI g7140 1 4).toInt < 8 ∧ i = 6 * (gI g7140 1 4).toInt + 3)).elim (fun k87_ => by refine (if_pos k87_).trans ?_; refine Eq.trans ?_ (RFI.y (l := x7010.toInt) (by omega) (by omega) q7031 (show x7009.toInt + 6 ≤ (gI g0 174 1).toInt ∧ x7010.toInt < 8 ∧ (1 ≤ (eA g0 175 x7009.toInt).toInt ∧ (eA g0 175 x7009.toInt).toInt ≤ 9) ∧ (0 ≤ (eA g0 175 (x7009.toInt + 3)).toInt ∧ (eA g0 175 (x7009.toInt + 3)).toInt ≤ 99) ∧ (0 ≤ (eA g0 175 (x7009.toInt + 4)).toInt ∧ (eA g0 175 (x7009.toInt + 4)).toInt ≤ 9) ∧ (0 ≤ (eA g0 175 (x7009.toInt + 5)).toInt ∧ (eA g0 175 (x7009.toInt + 5)).toInt ≤ 9999) ∧ (0 ≤ (eA g0 175 (x7009.toInt + 1)).toInt ∧ (eA g0 175 (x7009.toInt + 1)).toInt < (gI g0 1 0).toInt) ∧ (0 ≤ (eA g0 175 (x7009.toInt + 2)).toInt ∧ (eA g0 175 (x7009.toInt + 2)).toInt < (gI g0 1 0).toInt) from by have c := WNL.y hr7144.2 (by omega); omega) (by omega) (by omega)); refine Eq.trans ?_ (eA_ix (g := g0) (p := 175) (show x7009.toInt + 3 = x7009.toInt + (i - 6 * x7010.toInt) from by omega)); omega) (fun k87_ => by refine (if_neg k87_).trans ?_; exact (Decidable.em ((gI g7140 1 4).toInt < 8 ∧ i = 6 * (gI g7140 1 4).toInt + 4)).elim (fun k88_ => by refine (if_pos k88_).trans ?_; refine Eq.trans ?_ (RFI.y (l := x7010.toInt) (by omega) (by omega) q7031 (show x7009.toInt + 6 ≤ (gI g0 174 1).toInt ∧ x7010.toInt < 8 ∧ (1 ≤ (eA g0 175 x7009.toInt).toInt ∧ (eA g0 175 x7009.toInt).toInt ≤ 9) ∧ (0 ≤ (eA g0 175 (x7009.toInt + 3)).toInt ∧ (eA g0 175 (x7009.toInt + 3)).toInt ≤ 99) ∧ (0 ≤ (eA g0 175 (x7009.toInt + 4)).toInt ∧ (eA g0 175 (x7009.toInt + 4)).toInt ≤ 9) ∧ (0 ≤ (eA g0 175 (x7009.toInt + 5)).toInt ∧ (eA g0 175 (x7009.toInt + 5)).toInt ≤ 9999) ∧ (0 ≤ (eA g0 175 (x7009.toInt + 1)).toInt ∧ (eA g0 175 (x7009.toInt + 1)).toInt < (gI g0 1 0).toInt) ∧ (0 ≤ (eA g0 175 (x7009.toInt + 2)).toInt ∧ (eA g0 175 (x7009.toInt + 2)).toInt < (gI g0 1 0).toInt) from by have c := WNL.y hr7144.2 (by omega); omega) (by omega) (by omega)); refine Eq.trans ?_ (eA_ix (g := g0) (p := 175) (show x7009.toInt + 4 = x7009.toInt + (i - 6 * x7010.toInt) from by omega)); omega) (fun k88_ => by refine (if_neg k88_).trans ?_; exact (Decidable.em ((gI g7140 1 4).toInt < 8 ∧ i = 6 * (gI g7140 1 4).toInt + 5)).elim (fun k89_ => by refine (if_pos k89_).trans ?_; refine Eq.trans ?_ (RFI.y (l := x7010.toInt) (by omega) (by omega) q7031 (show x7009.toInt + 6 ≤ (gI g0 174 1).toInt ∧ x7010.toInt < 8 ∧ (1 ≤ (eA g0 175 x7009.toInt).toInt ∧ (eA g0 175 x7009.toInt).toInt ≤ 9) ∧ (0 ≤ (eA g0 175 (x7009.toInt + 3)).toInt ∧ (eA g0 175 (x7009.toInt + 3)).toInt ≤ 99) ∧ (0 ≤ (eA g0 175 (x7009.toInt + 4)).toInt ∧ (eA g0 175 (x7009.toInt + 4)).toInt ≤ 9) ∧ (0 ≤ (eA g0 175 (x7009.toInt + 5)).toInt ∧ (eA g0 175 (x7009.toInt + 5)).toInt ≤ 9999) ∧ (0 ≤ (eA g0 175 (x7009.toInt + 1)).toInt ∧ (eA g0 175 (x7009.toInt + 1)).toInt < (gI g0 1 0).toInt) ∧ (0 ≤ (eA g0 175 (x7009.toInt + 2)).toInt ∧ (eA g0 175 (x7009.toInt + 2)).toInt < (gI g0 1 0).toInt) from by have c := WNL.y hr7144.2 (by omega); omega) (by omega) (by omega)); refine Eq.trans ?_ (eA_ix (g := g0) (p := 175) (show x7009.toInt + 5 = x7009.toInt + (i - 6 * x7010.toInt) from by omega)); omega) (fun k89_ => by refine (if_neg k89_).trans ?_; refine (eA_ti (((hF7142.2.1 5 (by decide)).trans ((hF7132.2.1 5 (by decide)).trans ((hF7121.2.1 5 (by decide)).trans ((hF7110.2.1 5 (by decide)).trans ((hF7099.2.1 5 (by decide)).trans ((hF7088.2.1 5 (by decide)).trans (hF7077.2.1 5 (by decide)))))))))).trans ?_; refine (q7034 i i0 i1).trans ?_; exact RFI.n (by omega) (by omega) q7031 (by omega) rfl (fun k => absurd k.2 (by omega)))))))))⟩ ⟨by omega, by omega⟩
        · have c7148_ : v7143.toInt ≠ 0 := en_k_eq_f c7148
          refine At.enter rfl ?_
          refine r_iconst 0 rfl ?_
          refine q_iretz (by decide) ?_
          refine At.enter rfl ?_
          refine r_ift (by decide) ?_
          refine At.enter rfl ?_
          refine q_iinc e7022 (x7008.toInt + 1) rfl (by omega) (fun v7161 hv7161 => ?_)
          refine Ar.fall 59 rfl ?_
          refine At.enter rfl ?_
          refine q_iinc (w_p1 (by decide) (Or.inr rfl) e7023) (x7009.toInt + 6) rfl (by omega) (fun v7162 hv7162 => ?_)
          refine r_goto ?_
          exact ih7016 (405 - v7162.toInt) _ _ ⟨x7007, v7161, v7162, x7010, by first | rfl | omega, hI7141, hF7145, (((hF7142.1 1 4 (by decide)).trans ((hF7132.1 1 4 (by decide)).trans ((hF7121.1 1 4 (by decide)).trans ((hF7110.1 1 4 (by decide)).trans ((hF7099.1 1 4 (by decide)).trans ((hF7088.1 1 4 (by decide)).trans (hF7077.1 1 4 (by decide)))))))).trans e7017), (((hF7142.1 174 1 (by decide)).trans ((hF7132.1 174 1 (by decide)).trans ((hF7121.1 174 1 (by decide)).trans ((hF7110.1 174 1 (by decide)).trans ((hF7099.1 174 1 (by decide)).trans ((hF7088.1 174 1 (by decide)).trans (hF7077.1 174 1 (by decide)))))))).trans e7018), (w_p1 (by decide) (Or.inr rfl) (w_p1 (by decide) (Or.inr rfl) e7019)), (w_p1 (by decide) (Or.inr rfl) (w_p1 (by decide) (Or.inr rfl) e7020)), (w_p1 (by decide) (Or.inr rfl) (w_p1 (by decide) (Or.inr rfl) e7021)), (w_p1 (by decide) (Or.inr rfl) (w_e1 _ _ _)), (w_e1 _ _ _), by omega, by omega, by omega, by omega, by omega, by omega, by omega, (RLI.n (by omega) (by omega) q7031 (fun h => by have h2 : x7009.toInt + 6 ≤ (gI g0 174 1).toInt ∧ x7010.toInt < 8 ∧ (1 ≤ (eA g0 175 x7009.toInt).toInt ∧ (eA g0 175 x7009.toInt).toInt ≤ 9) ∧ (0 ≤ (eA g0 175 (x7009.toInt + 3)).toInt ∧ (eA g0 175 (x7009.toInt + 3)).toInt ≤ 99) ∧ (0 ≤ (eA g0 175 (x7009.toInt + 4)).toInt ∧ (eA g0 175 (x7009.toInt + 4)).toInt ≤ 9) ∧ (0 ≤ (eA g0 175 (x7009.toInt + 5)).toInt ∧ (eA g0 175 (x7009.toInt + 5)).toInt ≤ 9999) ∧ (0 ≤ (eA g0 175 (x7009.toInt + 1)).toInt ∧ (eA g0 175 (x7009.toInt + 1)).toInt < (gI g0 1 0).toInt) ∧ (0 ≤ (eA g0 175 (x7009.toInt + 2)).toInt ∧ (eA g0 175 (x7009.toInt + 2)).toInt < (gI g0 1 0).toInt) := h; have c := WNL.n hr7144.2 (by omega); omega) (by omega) (by omega)), by omega, by omega, (by intro i i0 i1; refine (eA_ti (((hF7142.2.1 5 (by decide)).trans ((hF7132.2.1 5 (by decide)).trans ((hF7121.2.1 5 (by decide)).trans ((hF7110.2.1 5 (by decide)).trans ((hF7099.2.1 5 (by decide)).trans ((hF7088.2.1 5 (by decide)).trans (hF7077.2.1 5 (by decide)))))))))).trans ?_; refine (q7034 i i0 i1).trans ?_; exact RFI.n (by omega) (by omega) q7031 (by omega) rfl (fun k => absurd k.1 (fun h => by have h2 : x7009.toInt + 6 ≤ (gI g0 174 1).toInt ∧ x7010.toInt < 8 ∧ (1 ≤ (eA g0 175 x7009.toInt).toInt ∧ (eA g0 175 x7009.toInt).toInt ≤ 9) ∧ (0 ≤ (eA g0 175 (x7009.toInt + 3)).toInt ∧ (eA g0 175 (x7009.toInt + 3)).toInt ≤ 99) ∧ (0 ≤ (eA g0 175 (x7009.toInt + 4)).toInt ∧ (eA g0 175 (x7009.toInt + 4)).toInt ≤ 9) ∧ (0 ≤ (eA g0 175 (x7009.toInt + 5)).toInt ∧ (eA g0 175 (x7009.toInt + 5)).toInt ≤ 9999) ∧ (0 ≤ (eA g0 175 (x7009.toInt + 1)).toInt ∧ (eA g0 175 (x7009.toInt + 1)).toInt < (gI g0 1 0).toInt) ∧ (0 ≤ (eA g0 175 (x7009.toInt + 2)).toInt ∧ (eA g0 175 (x7009.toInt + 2)).toInt < (gI g0 1 0).toInt) := h; have c := WNL.n hr7144.2 (by omega); omega)))⟩ ⟨by omega, by omega⟩
  · have c4761_ : v4760.toInt = 0 := en_k_ne_f c4761
    refine At.enter rfl ?_
    refine r_aload_n rfl ?_
    refine r_bipush (-6) rfl ?_
    refine r_callV 18 rfl [.ref 0, .int (-6)] [] (Nat.le_of_ble_eq_true rfl) rfl (T_X10_refused_0 _ hI0 (-6) (by decide)) ?_
    rintro _ _ ⟨g7163, rfl, hI7164, hF7165, v7166, rfl, hr7167⟩
    refine At.sti ?_
    have hF7168 := Fr.tr hF0 hF7165 rfl rfl
    have zv7169 : ((-6) : Int32).toInt = (-6) := rfl
    refine At.enter rfl ?_
    refine r_ireti ?_
    obtain ⟨v7170, hv7170⟩ : ∃ v, gI g0 1 4 = v := ⟨_, rfl⟩
    have rv7170 := RgF.at hI0.2.1 (p := 1) (b := 4) rfl
    rw [hv7170] at rv7170
    dsimp only at rv7170
    have tv7170 := congrArg Int32.toInt hv7170
    have x7171 := HI.eqI hI7164 (p := 1) (b := 4) (((hF7165.1 1 4 (by decide)).trans hv7170))
    have x7172 := HI.eqI hI0 (p := 1) (b := 4) (hv7170)
    have x7173 := HI.eqI hI7164 (p := 174) (b := 1) (((hF7165.1 174 1 (by decide)).trans hv4760))
    have x7174 := HI.eqI hI0 (p := 174) (b := 1) (hv4760)
    obtain ⟨v7175, hv7175⟩ : ∃ v, gI g0 0 16 = v := ⟨_, rfl⟩
    have tv7175 := congrArg Int32.toInt hv7175
    have x7176 := HI.eqI hI7164 (p := 0) (b := 16) (((hF7165.1 0 16 (by decide)).trans hv7175))
    have x7177 := HI.eqI hI0 (p := 0) (b := 16) (hv7175)
    obtain ⟨v7178, hv7178⟩ : ∃ v, gI g0 1 0 = v := ⟨_, rfl⟩
    have rv7178 := RgF.at hI0.2.1 (p := 1) (b := 0) rfl
    rw [hv7178] at rv7178
    dsimp only at rv7178
    have tv7178 := congrArg Int32.toInt hv7178
    have x7179 := HI.eqI hI0 (p := 1) (b := 0) (hv7178)
    exact ⟨_, rfl, hI7164, hF7168, _, rfl, by omega, ⟨⟨(by refine Eq.trans ?_ (RLI.z _ _ _ _ (by omega)); omega), by omega, by omega, by omega⟩, (by intro i i0 i1; refine (eA_ti ((hF7165.2.1 5 (by decide)))).trans ?_; exact RFI.z _ _ _ _ (fun i : Int => (eA g0 5 i).toInt) (by omega) _)⟩⟩

def F_X10_dropped_0 : List (Nat × Nat) := []
def A_X10_dropped_0 : List Nat := []
set_option maxRecDepth 100000 in
set_option maxHeartbeats 4000000 in
theorem T_X10_dropped_0 (d : Nat) {N : Nat} {g0 : List en_E} (hI0 : HI g0) : Ev (d + 1) 114 [.ref 0] (g0, N) (fun w h' => ∃ g', h' = (g', N) ∧ HI g' ∧ Fr F_X10_dropped_0 A_X10_dropped_0 g0 g' ∧ ∃ r : Int32, w = some (.int r) ∧ True ∧ (r.toInt = (gI g0 0 16).toInt)) := by
  have hF0 : Fr F_X10_dropped_0 A_X10_dropped_0 g0 g0 := Fr.rf
  refine Ev.mk rfl rfl ⟨Nat.le_of_ble_eq_true rfl, Or.inr (q_rc hI0.1 kx_0 rfl)⟩ ?_
  show At _ none _ _ (0, [(0, .ref 0)], [], (_, _)) _
  refine At.enter rfl ?_
  refine r_aload_n rfl ?_
  obtain ⟨v3, hv3⟩ : ∃ v, gI g0 0 16 = v := ⟨_, rfl⟩
  refine q_getI (Sh.int hI0.1 kx_0 rfl) v3 hv3 ?_
  refine r_ireti ?_
  have x4 := HI.eqI hI0 (p := 0) (b := 16) (hv3)
  exact ⟨_, rfl, hI0, hF0, _, rfl, trivial, (by omega)⟩

def F_X10_fault_0 : List (Nat × Nat) := []
def A_X10_fault_0 : List Nat := []
set_option maxRecDepth 100000 in
set_option maxHeartbeats 4000000 in
theorem T_X10_fault_0 (d : Nat) {N : Nat} {g0 : List en_E} (hI0 : HI g0) : Ev (d + 1) 116 [.ref 0] (g0, N) (fun w h' => ∃ g', h' = (g', N) ∧ HI g' ∧ Fr F_X10_fault_0 A_X10_fault_0 g0 g' ∧ ∃ r : Int32, w = some (.int r) ∧ True) := by
  have hF0 : Fr F_X10_fault_0 A_X10_fault_0 g0 g0 := Fr.rf
  refine Ev.mk rfl rfl ⟨Nat.le_of_ble_eq_true rfl, Or.inr (q_rc hI0.1 kx_0 rfl)⟩ ?_
  show At _ none _ _ (0, [(0, .ref 0)], [], (_, _)) _
  refine At.enter rfl ?_
  refine r_aload_n rfl ?_
  refine q_getR (Sh.ref hI0.1 kx_0 rfl) ?_
  obtain ⟨v3, hv3⟩ : ∃ v, gI g0 176 2 = v := ⟨_, rfl⟩
  refine q_getI (Sh.int hI0.1 kx_176 rfl) v3 hv3 ?_
  refine r_ireti ?_
  exact ⟨_, rfl, hI0, hF0, _, rfl, trivial⟩

def F_X10_force_0 : List (Nat × Nat) := [(0, 14), (0, 17), (1, 9), (220, 2), (222, 2), (223, 5), (223, 10)]
def A_X10_force_0 : List Nat := [230]
set_option maxRecDepth 100000 in
set_option maxHeartbeats 4000000 in
theorem T_X10_force_0 (d : Nat) {N : Nat} {g0 : List en_E} (hI0 : HI g0) (a1 : Int32) : Ev (d + 3) 117 [.ref 0, .int a1] (g0, N) (fun w h' => ∃ g', h' = (g', N) ∧ HI g' ∧ Fr F_X10_force_0 A_X10_force_0 g0 g' ∧ ∃ r : Int32, w = some (.int r) ∧ True) := by
  have hF0 : Fr F_X10_force_0 A_X10_force_0 g0 g0 := Fr.rf
  refine Ev.mk rfl rfl ⟨Nat.le_of_ble_eq_true rfl, Or.inr (q_rc hI0.1 kx_0 rfl)⟩ ?_
  show At _ none _ _ (0, [(0, .ref 0), (1, .int a1)], [], (_, _)) _
  refine At.enter rfl ?_
  refine r_iload_n rfl ?_
  refine r_iconst (-1) rfl ?_
  refine r_ics 5 rfl (fun c87 => ?_) (fun c87 => ?_)
  · have c87_ : a1.toInt = (-1) := en_i_eq_t c87
    refine At.enter rfl ?_
    refine r_aload_n rfl ?_
    refine q_getR (Sh.ref hI0.1 kx_0 rfl) ?_
    obtain ⟨v88, hv88⟩ : ∃ v, gI g0 1 9 = v := ⟨_, rfl⟩
    refine q_getI (Sh.int hI0.1 kx_1 rfl) v88 hv88 ?_
    refine r_istore_n ([(2, .int v88), (0, .ref 0), (1, .int a1)]) rfl ?_
    refine r_aload_n rfl ?_
    refine q_getR (Sh.ref hI0.1 kx_0 rfl) ?_
    refine r_iload_n rfl ?_
    refine q_putI (Sh.int hI0.1 kx_1 rfl) rfl ?_
    have hI89 := HI.wI0 hI0 kx_1 rfl (p := 1) (b := 9) (v := a1) rfl
    have hF90 := Fr.wI (p := 1) (b := 9) (v := a1) hF0 rfl
    refine r_aload_n rfl ?_
    refine r_callV 49 rfl [.ref 0] [] (Nat.le_of_ble_eq_true rfl) rfl (T_X10_changed_0 _ hI89) ?_
    rintro _ _ ⟨g91, rfl, hI92, hF93, rfl⟩
    refine At.stn ?_
    have hF96 := Fr.tr hF90 hF93 rfl rfl
    refine At.enter rfl ?_
    refine r_aload_n rfl ?_
    refine r_iload_n rfl ?_
    refine q_inlV 54 rfl [.ref 0, .int v88] [] (Nat.le_of_ble_eq_true rfl) rfl ?_
    refine Ev.mk rfl rfl ⟨Nat.le_of_ble_eq_true rfl, Or.inr (q_rc hI92.1 kx_0 rfl)⟩ ?_
    show At _ none _ _ (0, [(0, .ref 0), (1, .int v88)], [], (_, _)) _
    refine At.enter rfl ?_
    refine r_aload_n rfl ?_
    refine r_iconst 0 rfl ?_
    refine q_putI (Sh.int hI92.1 kx_0 rfl) rfl ?_
    have hI97 := HI.wI0 hI92 kx_0 rfl (p := 0) (b := 17) (v := 0) rfl
    have hF98 := Fr.wI (p := 0) (b := 17) (v := 0) hF96 rfl
    refine r_iload_n rfl ?_
    refine q_ireti ?_
    refine At.enter rfl ?_
    refine r_ireti ?_
    exact ⟨_, rfl, hI97, hF98, _, rfl, trivial⟩
  · have c87_ : a1.toInt ≠ (-1) := en_i_eq_f c87
    refine At.enter rfl ?_
    refine r_iload_n rfl ?_
    refine r_iconst 0 rfl ?_
    refine r_aload_n rfl ?_
    refine q_getR (Sh.ref hI0.1 kx_0 rfl) ?_
    obtain ⟨v99, hv99⟩ : ∃ v, gI g0 1 6 = v := ⟨_, rfl⟩
    have rv99 := RgF.at hI0.2.1 (p := 1) (b := 6) rfl
    rw [hv99] at rv99
    dsimp only at rv99
    refine q_getI (Sh.int hI0.1 kx_1 rfl) v99 hv99 ?_
    refine r_iconst 1 rfl ?_
    refine q_isub (v99.toInt - 1) rfl (by omega) (fun v100 hv100 => ?_)
    refine q_inlS 19 rfl [.int a1, .int 0, .int v100] [] (Nat.le_of_ble_eq_true rfl) rfl ?_
    refine Ev.mk rfl rfl ⟨Nat.le_of_ble_eq_true rfl, Or.inl rfl⟩ ?_
    show At _ none _ _ (0, [(0, .int a1), (1, .int 0), (2, .int v100)], [], (_, _)) _
    refine At.enter rfl ?_
    refine r_iload_n rfl ?_
    refine r_iload_n rfl ?_
    refine r_ics 5 rfl (fun c101 => ?_) (fun c101 => ?_)
    · have c101_ : a1.toInt < 0 := en_i_lt_t c101
      refine At.enter rfl ?_
      refine r_iconst 0 rfl ?_
      refine Ar.fall 15 rfl ?_
      refine At.enter rfl ?_
      refine q_iretz (by decide) ?_
      refine At.enter rfl ?_
      refine r_iff 22 rfl (by decide) ?_
      refine At.enter rfl ?_
      refine r_aload_n rfl ?_
      refine r_bipush (-2) rfl ?_
      refine r_callV 28 rfl [.ref 0, .int (-2)] [] (Nat.le_of_ble_eq_true rfl) rfl (T_X10_refused_0 _ hI0 (-2) (by decide)) ?_
      rintro _ _ ⟨g102, rfl, hI103, hF104, v105, rfl, hr106⟩
      refine At.sti ?_
      have hF107 := Fr.tr hF0 hF104 rfl rfl
      have zv108 : ((-2) : Int32).toInt = (-2) := rfl
      refine At.enter rfl ?_
      refine r_ireti ?_
      exact ⟨_, rfl, hI103, hF107, _, rfl, trivial⟩
    · have c101_ : a1.toInt ≥ 0 := en_i_lt_f c101
      refine At.enter rfl ?_
      refine r_iload_n rfl ?_
      refine r_iload_n rfl ?_
      have bv110 := q_bnd a1
      have bv111 := q_bnd v100
      refine r_ics 10 rfl (fun c109 => ?_) (fun c109 => ?_)
      · have c109_ : a1.toInt > v100.toInt := en_i_gt_t c109
        refine At.enter rfl ?_
        refine r_iconst 0 rfl ?_
        refine Ar.fall 15 rfl ?_
        refine At.enter rfl ?_
        refine q_iretz (by decide) ?_
        refine At.enter rfl ?_
        refine r_iff 22 rfl (by decide) ?_
        refine At.enter rfl ?_
        refine r_aload_n rfl ?_
        refine r_bipush (-2) rfl ?_
        refine r_callV 28 rfl [.ref 0, .int (-2)] [] (Nat.le_of_ble_eq_true rfl) rfl (T_X10_refused_0 _ hI0 (-2) (by decide)) ?_
        rintro _ _ ⟨g112, rfl, hI113, hF114, v115, rfl, hr116⟩
        refine At.sti ?_
        have hF117 := Fr.tr hF0 hF114 rfl rfl
        have zv118 : ((-2) : Int32).toInt = (-2) := rfl
        refine At.enter rfl ?_
        refine r_ireti ?_
        exact ⟨_, rfl, hI113, hF117, _, rfl, trivial⟩
      · have c109_ : a1.toInt ≤ v100.toInt := en_i_gt_f c109
        refine At.enter rfl ?_
        refine r_iconst 1 rfl ?_
        refine r_goto ?_
        refine At.enter rfl ?_
        refine q_iretz (by decide) ?_
        refine At.enter rfl ?_
        refine r_ift (by decide) ?_
        refine At.enter rfl ?_
        refine r_aload_n rfl ?_
        refine q_getR (Sh.ref hI0.1 kx_0 rfl) ?_
        obtain ⟨v119, hv119⟩ : ∃ v, gI g0 1 9 = v := ⟨_, rfl⟩
        refine q_getI (Sh.int hI0.1 kx_1 rfl) v119 hv119 ?_
        refine r_istore_n ([(2, .int v119), (0, .ref 0), (1, .int a1)]) rfl ?_
        refine r_aload_n rfl ?_
        refine q_getR (Sh.ref hI0.1 kx_0 rfl) ?_
        refine r_iload_n rfl ?_
        refine q_putI (Sh.int hI0.1 kx_1 rfl) rfl ?_
        have hI120 := HI.wI0 hI0 kx_1 rfl (p := 1) (b := 9) (v := a1) rfl
        have hF121 := Fr.wI (p := 1) (b := 9) (v := a1) hF0 rfl
        refine r_aload_n rfl ?_
        refine r_callV 49 rfl [.ref 0] [] (Nat.le_of_ble_eq_true rfl) rfl (T_X10_changed_0 _ hI120) ?_
        rintro _ _ ⟨g122, rfl, hI123, hF124, rfl⟩
        refine At.stn ?_
        have hF127 := Fr.tr hF121 hF124 rfl rfl
        refine At.enter rfl ?_
        refine r_aload_n rfl ?_
        refine r_iload_n rfl ?_
        refine q_inlV 54 rfl [.ref 0, .int v119] [] (Nat.le_of_ble_eq_true rfl) rfl ?_
        refine Ev.mk rfl rfl ⟨Nat.le_of_ble_eq_true rfl, Or.inr (q_rc hI123.1 kx_0 rfl)⟩ ?_
        show At _ none _ _ (0, [(0, .ref 0), (1, .int v119)], [], (_, _)) _
        refine At.enter rfl ?_
        refine r_aload_n rfl ?_
        refine r_iconst 0 rfl ?_
        refine q_putI (Sh.int hI123.1 kx_0 rfl) rfl ?_
        have hI128 := HI.wI0 hI123 kx_0 rfl (p := 0) (b := 17) (v := 0) rfl
        have hF129 := Fr.wI (p := 0) (b := 17) (v := 0) hF127 rfl
        refine r_iload_n rfl ?_
        refine q_ireti ?_
        refine At.enter rfl ?_
        refine r_ireti ?_
        exact ⟨_, rfl, hI128, hF129, _, rfl, trivial⟩

def F_X10_way_0 : List (Nat × Nat) := []
def A_X10_way_0 : List Nat := []
set_option maxRecDepth 100000 in
set_option maxHeartbeats 4000000 in
theorem T_X10_way_0 (d : Nat) {N : Nat} {g0 : List en_E} (hI0 : HI g0) (a1 : Int32) (a2 : Int32) : Ev (d + 5) 118 [.ref 0, .int a1, .int a2] (g0, N) (fun w h' => ∃ g', h' = (g', N) ∧ HI g' ∧ Fr F_X10_way_0 A_X10_way_0 g0 g' ∧ ∃ r : Int32, w = some (.int r) ∧ True ∧ ((¬ (0 ≤ a1.toInt ∧ a1.toInt < (gI g0 1 4).toInt) → r.toInt = -1) ∧ ((0 ≤ a1.toInt ∧ a1.toInt < (gI g0 1 4).toInt) → (eA g0 5 (6 * a1.toInt + 2)).toInt ≠ -1 → WAYA (NX g0) 11 (eA g0 5 (6 * a1.toInt + 1)).toInt (eA g0 5 (6 * a1.toInt + 2)).toInt a2.toInt r.toInt))) := by
  have hF0 : Fr F_X10_way_0 A_X10_way_0 g0 g0 := Fr.rf
  refine Ev.mk rfl rfl ⟨Nat.le_of_ble_eq_true rfl, Or.inr (q_rc hI0.1 kx_0 rfl)⟩ ?_
  show At _ none _ _ (0, [(0, .ref 0), (1, .int a1), (2, .int a2)], [], (_, _)) _
  refine At.enter rfl ?_
  refine r_aload_n rfl ?_
  refine q_getR (Sh.ref hI0.1 kx_0 rfl) ?_
  refine r_iload_n rfl ?_
  refine q_inlV 8 rfl [.ref 1, .int a1] [] (Nat.le_of_ble_eq_true rfl) rfl ?_
  refine Ev.mk rfl rfl ⟨Nat.le_of_ble_eq_true rfl, Or.inr (q_rc hI0.1 kx_1 rfl)⟩ ?_
  show At _ none _ _ (0, [(0, .ref 1), (1, .int a1)], [], (_, _)) _
  refine At.enter rfl ?_
  refine r_iload_n rfl ?_
  refine r_ifs 4 rfl (fun c37 => ?_) (fun c37 => ?_)
  · have c37_ : a1.toInt < 0 := en_k_lt_t c37
    refine At.enter rfl ?_
    refine r_iconst 0 rfl ?_
    refine Ar.fall 17 rfl ?_
    refine At.enter rfl ?_
    refine q_iretz (by decide) ?_
    refine At.enter rfl ?_
    refine r_iff 11 rfl (by decide) ?_
    refine At.enter rfl ?_
    refine r_iconst (-1) rfl ?_
    refine r_ireti ?_
    have zv38 : ((-1) : Int32).toInt = (-1) := rfl
    obtain ⟨v39, hv39⟩ : ∃ v, gI g0 1 4 = v := ⟨_, rfl⟩
    have rv39 := RgF.at hI0.2.1 (p := 1) (b := 4) rfl
    rw [hv39] at rv39
    dsimp only at rv39
    have tv39 := congrArg Int32.toInt hv39
    have x40 := HI.eqI hI0 (p := 1) (b := 4) (hv39)
    exact ⟨_, rfl, hI0, hF0, _, rfl, trivial, ⟨fun _ => by omega, fun h => absurd h (by omega)⟩⟩
  · have c37_ : a1.toInt ≥ 0 := en_k_lt_f c37
    refine At.enter rfl ?_
    refine r_iload_n rfl ?_
    refine r_aload_n rfl ?_
    obtain ⟨v41, hv41⟩ : ∃ v, gI g0 1 4 = v := ⟨_, rfl⟩
    have rv41 := RgF.at hI0.2.1 (p := 1) (b := 4) rfl
    rw [hv41] at rv41
    dsimp only at rv41
    refine q_getI (Sh.int hI0.1 kx_1 rfl) v41 hv41 ?_
    have bv43 := q_bnd a1
    have bv44 := q_bnd v41
    refine r_ics 12 rfl (fun c42 => ?_) (fun c42 => ?_)
    · have c42_ : a1.toInt ≥ v41.toInt := en_i_ge_t c42
      refine At.enter rfl ?_
      refine r_iconst 0 rfl ?_
      refine Ar.fall 17 rfl ?_
      refine At.enter rfl ?_
      refine q_iretz (by decide) ?_
      refine At.enter rfl ?_
      refine r_iff 11 rfl (by decide) ?_
      refine At.enter rfl ?_
      refine r_iconst (-1) rfl ?_
      refine r_ireti ?_
      have zv45 : ((-1) : Int32).toInt = (-1) := rfl
      have x46 := HI.eqI hI0 (p := 1) (b := 4) (hv41)
      exact ⟨_, rfl, hI0, hF0, _, rfl, trivial, ⟨fun _ => by omega, fun h => absurd h (by omega)⟩⟩
    · have c42_ : a1.toInt < v41.toInt := en_i_ge_f c42
      refine At.enter rfl ?_
      refine r_iconst 1 rfl ?_
      refine r_goto ?_
      refine At.enter rfl ?_
      refine q_iretz (by decide) ?_
      refine At.enter rfl ?_
      refine r_ift (by decide) ?_
      refine At.enter rfl ?_
      refine r_iload_n rfl ?_
      refine r_iconst (-1) rfl ?_
      refine r_ics 18 rfl (fun c47 => ?_) (fun c47 => ?_)
      · have c47_ : a2.toInt ≠ (-1) := en_i_ne_t c47
        refine At.enter rfl ?_
        refine r_aload_n rfl ?_
        refine q_getR (Sh.ref hI0.1 kx_0 rfl) ?_
        refine r_iload_n rfl ?_
        refine r_iload_n rfl ?_
        refine r_callV 38 rfl [.ref 184, .int a1, .int a2] [] (Nat.le_of_ble_eq_true rfl) rfl (T_X9_standOf_184 _ hI0 a1 a2) ?_
        rintro _ _ ⟨g48, rfl, hI49, hF50, v51, rfl, hr52⟩
        refine At.sti ?_
        have hF53 := Fr.tr hF0 hF50 rfl rfl
        refine At.enter rfl ?_
        refine r_ireti ?_
        have x54 := HI.eqI hI0 (p := 1) (b := 4) (hv41)
        exact ⟨_, rfl, hI49, hF53, _, rfl, trivial, ⟨fun h => absurd h (by omega), fun h hw => hr52.2 h hw (by omega)⟩⟩
      · have c47_ : a2.toInt = (-1) := en_i_ne_f c47
        refine At.enter rfl ?_
        refine r_aload_n rfl ?_
        refine q_getR (Sh.ref hI0.1 kx_0 rfl) ?_
        refine r_iload_n rfl ?_
        refine r_callV 26 rfl [.ref 1, .int a1] [] (Nat.le_of_ble_eq_true rfl) rfl (T_X0_handsOf_1 _ hI0 a1) ?_
        rintro _ _ ⟨g55, rfl, hI56, hF57, v58, rfl, hr59⟩
        refine At.sti ?_
        have hF60 := Fr.tr hF0 hF57 rfl rfl
        refine At.enter rfl ?_
        refine r_goto ?_
        refine At.enter rfl ?_
        refine r_ireti ?_
        have x61 := HI.eqI hI0 (p := 1) (b := 4) (hv41)
        exact ⟨_, rfl, hI56, hF60, _, rfl, trivial, ⟨fun h => absurd h (by omega), fun h hw => WAYA.mk v58.toInt (hr59.2 h hw) (fun _ => by omega) (fun c => absurd c.1 (by omega)) (fun c => absurd c.1 (by omega))⟩⟩

def F_X10_enter_0 : List (Nat × Nat) := []
def A_X10_enter_0 : List Nat := []
set_option maxRecDepth 100000 in
set_option maxHeartbeats 4000000 in
theorem T_X10_enter_0 (d : Nat) {N : Nat} {g0 : List en_E} (hI0 : HI g0) (a1 : Int32) (a2 : Int32) : Ev (d + 4) 119 [.ref 0, .int a1, .int a2] (g0, N) (fun w h' => ∃ g', h' = (g', N) ∧ HI g' ∧ Fr F_X10_enter_0 A_X10_enter_0 g0 g' ∧ ∃ r : Int32, w = some (.int r) ∧ True) := by
  have hF0 : Fr F_X10_enter_0 A_X10_enter_0 g0 g0 := Fr.rf
  refine Ev.mk rfl rfl ⟨Nat.le_of_ble_eq_true rfl, Or.inr (q_rc hI0.1 kx_0 rfl)⟩ ?_
  show At _ none _ _ (0, [(0, .ref 0), (1, .int a1), (2, .int a2)], [], (_, _)) _
  refine At.enter rfl ?_
  refine r_aload_n rfl ?_
  refine q_getR (Sh.ref hI0.1 kx_0 rfl) ?_
  refine r_iload_n rfl ?_
  refine q_inlV 8 rfl [.ref 1, .int a1] [] (Nat.le_of_ble_eq_true rfl) rfl ?_
  refine Ev.mk rfl rfl ⟨Nat.le_of_ble_eq_true rfl, Or.inr (q_rc hI0.1 kx_1 rfl)⟩ ?_
  show At _ none _ _ (0, [(0, .ref 1), (1, .int a1)], [], (_, _)) _
  refine At.enter rfl ?_
  refine r_iload_n rfl ?_
  refine r_ifs 4 rfl (fun c29 => ?_) (fun c29 => ?_)
  · have c29_ : a1.toInt < 0 := en_k_lt_t c29
    refine At.enter rfl ?_
    refine r_iconst 0 rfl ?_
    refine Ar.fall 17 rfl ?_
    refine At.enter rfl ?_
    refine q_iretz (by decide) ?_
    refine At.enter rfl ?_
    refine r_ift (by decide) ?_
    refine At.enter rfl ?_
    refine r_iconst (-1) rfl ?_
    refine Ar.fall 38 rfl ?_
    refine At.enter rfl ?_
    refine r_ireti ?_
    exact ⟨_, rfl, hI0, hF0, _, rfl, trivial⟩
  · have c29_ : a1.toInt ≥ 0 := en_k_lt_f c29
    refine At.enter rfl ?_
    refine r_iload_n rfl ?_
    refine r_aload_n rfl ?_
    obtain ⟨v30, hv30⟩ : ∃ v, gI g0 1 0 = v := ⟨_, rfl⟩
    have rv30 := RgF.at hI0.2.1 (p := 1) (b := 0) rfl
    rw [hv30] at rv30
    dsimp only at rv30
    refine q_getI (Sh.int hI0.1 kx_1 rfl) v30 hv30 ?_
    have bv32 := q_bnd a1
    have bv33 := q_bnd v30
    refine r_ics 12 rfl (fun c31 => ?_) (fun c31 => ?_)
    · have c31_ : a1.toInt ≥ v30.toInt := en_i_ge_t c31
      refine At.enter rfl ?_
      refine r_iconst 0 rfl ?_
      refine Ar.fall 17 rfl ?_
      refine At.enter rfl ?_
      refine q_iretz (by decide) ?_
      refine At.enter rfl ?_
      refine r_ift (by decide) ?_
      refine At.enter rfl ?_
      refine r_iconst (-1) rfl ?_
      refine Ar.fall 38 rfl ?_
      refine At.enter rfl ?_
      refine r_ireti ?_
      exact ⟨_, rfl, hI0, hF0, _, rfl, trivial⟩
    · have c31_ : a1.toInt < v30.toInt := en_i_ge_f c31
      refine At.enter rfl ?_
      refine r_iconst 1 rfl ?_
      refine r_goto ?_
      refine At.enter rfl ?_
      refine q_iretz (by decide) ?_
      refine At.enter rfl ?_
      refine r_iff 11 rfl (by decide) ?_
      refine At.enter rfl ?_
      refine r_iload_n rfl ?_
      refine r_aload_n rfl ?_
      refine q_getR (Sh.ref hI0.1 kx_0 rfl) ?_
      refine q_getI (Sh.int hI0.1 kx_1 rfl) v30 hv30 ?_
      refine q_inlS 22 rfl [.int a2, .int v30] [] (Nat.le_of_ble_eq_true rfl) rfl ?_
      refine Ev.mk rfl rfl ⟨Nat.le_of_ble_eq_true rfl, Or.inl rfl⟩ ?_
      show At _ none _ _ (0, [(0, .int a2), (1, .int v30)], [], (_, _)) _
      refine At.enter rfl ?_
      refine r_iload_n rfl ?_
      refine r_ifs 4 rfl (fun c34 => ?_) (fun c34 => ?_)
      · have c34_ : a2.toInt < 0 := en_k_lt_t c34
        refine At.enter rfl ?_
        refine r_iconst 0 rfl ?_
        refine Ar.fall 15 rfl ?_
        refine At.enter rfl ?_
        refine q_iretz (by decide) ?_
        refine At.enter rfl ?_
        refine r_ift (by decide) ?_
        refine At.enter rfl ?_
        refine r_iconst (-1) rfl ?_
        refine Ar.fall 38 rfl ?_
        refine At.enter rfl ?_
        refine r_ireti ?_
        exact ⟨_, rfl, hI0, hF0, _, rfl, trivial⟩
      · have c34_ : a2.toInt ≥ 0 := en_k_lt_f c34
        refine At.enter rfl ?_
        refine r_iload_n rfl ?_
        refine r_iload_n rfl ?_
        refine q_ishrO (fun v35 hv35 => ?_)
        refine r_ifs 10 rfl (fun c36 => ?_) (fun c36 => ?_)
        · have c36_ : v35.toInt ≠ 0 := en_k_ne_t c36
          refine At.enter rfl ?_
          refine r_iconst 0 rfl ?_
          refine Ar.fall 15 rfl ?_
          refine At.enter rfl ?_
          refine q_iretz (by decide) ?_
          refine At.enter rfl ?_
          refine r_ift (by decide) ?_
          refine At.enter rfl ?_
          refine r_iconst (-1) rfl ?_
          refine Ar.fall 38 rfl ?_
          refine At.enter rfl ?_
          refine r_ireti ?_
          exact ⟨_, rfl, hI0, hF0, _, rfl, trivial⟩
        · have c36_ : v35.toInt = 0 := en_k_ne_f c36
          refine At.enter rfl ?_
          refine r_iconst 1 rfl ?_
          refine r_goto ?_
          refine At.enter rfl ?_
          refine q_iretz (by decide) ?_
          refine At.enter rfl ?_
          refine r_iff 25 rfl (by decide) ?_
          refine At.enter rfl ?_
          refine r_aload_n rfl ?_
          refine q_getR (Sh.ref hI0.1 kx_0 rfl) ?_
          refine r_iload_n rfl ?_
          refine r_iload_n rfl ?_
          refine r_callV 34 rfl [.ref 184, .int a1, .int a2] [] (Nat.le_of_ble_eq_true rfl) rfl (T_X9_comersTo_184 _ hI0 a1 a2) ?_
          rintro _ _ ⟨g37, rfl, hI38, hF39, v40, rfl, hr41⟩
          refine At.sti ?_
          have hF42 := Fr.tr hF0 hF39 rfl rfl
          refine At.enter rfl ?_
          refine r_goto ?_
          refine At.enter rfl ?_
          refine r_ireti ?_
          exact ⟨_, rfl, hI38, hF42, _, rfl, trivial⟩

def F_X10_day_0 : List (Nat × Nat) := [(0, 14), (185, 3), (188, 16), (188, 18)]
def A_X10_day_0 : List Nat := [189, 190, 191, 192, 193, 194, 195, 196, 197, 198, 199, 200, 202, 203]
set_option maxRecDepth 100000 in
set_option maxHeartbeats 4000000 in
theorem T_X10_day_0 (d : Nat) {N : Nat} {g0 : List en_E} (hI0 : HI g0) (a1 : Int32) (a2 : Int32) : Ev (d + 7) 120 [.ref 0, .int a1, .int a2] (g0, N) (fun w h' => ∃ g', h' = (g', N) ∧ HI g' ∧ Fr F_X10_day_0 A_X10_day_0 g0 g' ∧ ∃ r : Int32, w = some (.int r) ∧ True) := by
  have hF0 : Fr F_X10_day_0 A_X10_day_0 g0 g0 := Fr.rf
  refine Ev.mk rfl rfl ⟨Nat.le_of_ble_eq_true rfl, Or.inr (q_rc hI0.1 kx_0 rfl)⟩ ?_
  show At _ none _ _ (0, [(0, .ref 0), (1, .int a1), (2, .int a2)], [], (_, _)) _
  refine At.enter rfl ?_
  refine r_aload_n rfl ?_
  refine q_getR (Sh.ref hI0.1 kx_0 rfl) ?_
  refine r_iload_n rfl ?_
  refine q_inlV 8 rfl [.ref 1, .int a1] [] (Nat.le_of_ble_eq_true rfl) rfl ?_
  refine Ev.mk rfl rfl ⟨Nat.le_of_ble_eq_true rfl, Or.inr (q_rc hI0.1 kx_1 rfl)⟩ ?_
  show At _ none _ _ (0, [(0, .ref 1), (1, .int a1)], [], (_, _)) _
  refine At.enter rfl ?_
  refine r_iload_n rfl ?_
  refine r_ifs 4 rfl (fun c83 => ?_) (fun c83 => ?_)
  · have c83_ : a1.toInt < 0 := en_k_lt_t c83
    refine At.enter rfl ?_
    refine r_iconst 0 rfl ?_
    refine Ar.fall 17 rfl ?_
    refine At.enter rfl ?_
    refine q_iretz (by decide) ?_
    refine At.enter rfl ?_
    refine r_iff 11 rfl (by decide) ?_
    refine At.enter rfl ?_
    refine r_iconst (-1) rfl ?_
    refine r_ireti ?_
    exact ⟨_, rfl, hI0, hF0, _, rfl, trivial⟩
  · have c83_ : a1.toInt ≥ 0 := en_k_lt_f c83
    refine At.enter rfl ?_
    refine r_iload_n rfl ?_
    refine r_aload_n rfl ?_
    obtain ⟨v84, hv84⟩ : ∃ v, gI g0 1 4 = v := ⟨_, rfl⟩
    have rv84 := RgF.at hI0.2.1 (p := 1) (b := 4) rfl
    rw [hv84] at rv84
    dsimp only at rv84
    refine q_getI (Sh.int hI0.1 kx_1 rfl) v84 hv84 ?_
    have bv86 := q_bnd a1
    have bv87 := q_bnd v84
    refine r_ics 12 rfl (fun c85 => ?_) (fun c85 => ?_)
    · have c85_ : a1.toInt ≥ v84.toInt := en_i_ge_t c85
      refine At.enter rfl ?_
      refine r_iconst 0 rfl ?_
      refine Ar.fall 17 rfl ?_
      refine At.enter rfl ?_
      refine q_iretz (by decide) ?_
      refine At.enter rfl ?_
      refine r_iff 11 rfl (by decide) ?_
      refine At.enter rfl ?_
      refine r_iconst (-1) rfl ?_
      refine r_ireti ?_
      exact ⟨_, rfl, hI0, hF0, _, rfl, trivial⟩
    · have c85_ : a1.toInt < v84.toInt := en_i_ge_f c85
      refine At.enter rfl ?_
      refine r_iconst 1 rfl ?_
      refine r_goto ?_
      refine At.enter rfl ?_
      refine q_iretz (by decide) ?_
      refine At.enter rfl ?_
      refine r_ift (by decide) ?_
      refine At.enter rfl ?_
      refine r_aload_n rfl ?_
      refine q_inlV 17 rfl [.ref 0] [] (Nat.le_of_ble_eq_true rfl) rfl ?_
      refine Ev.mk rfl rfl ⟨Nat.le_of_ble_eq_true rfl, Or.inr (q_rc hI0.1 kx_0 rfl)⟩ ?_
      show At _ none _ _ (0, [(0, .ref 0)], [], (_, _)) _
      refine At.enter rfl ?_
      refine r_aload_n rfl ?_
      obtain ⟨v88, hv88⟩ : ∃ v, gI g0 0 14 = v := ⟨_, rfl⟩
      refine q_getI (Sh.int hI0.1 kx_0 rfl) v88 hv88 ?_
      refine r_ifs 7 rfl (fun c89 => ?_) (fun c89 => ?_)
      · have c89_ : v88.toInt ≠ 0 := en_k_ne_t c89
        refine At.enter rfl ?_
        refine r_aload_n rfl ?_
        refine q_getR (Sh.ref hI0.1 kx_0 rfl) ?_
        refine q_aret ?_
        refine At.enter rfl ?_
        refine r_astore_n ([(3, .ref 188), (0, .ref 0), (1, .int a1), (2, .int a2)]) rfl ?_
        refine r_aload_n rfl ?_
        refine q_getR (Sh.ref hI0.1 kx_188 rfl) ?_
        refine r_iload_n rfl ?_
        obtain ⟨v90, hv90⟩ : ∃ v, eA g0 196 a1.toInt = v := ⟨_, rfl⟩
        refine q_iald (Sh.arr hI0.1 ka_196) a1.toInt rfl (by omega) v90 hv90 ?_
        refine r_istore ([(4, .int v90), (3, .ref 188), (0, .ref 0), (1, .int a1), (2, .int a2)]) rfl ?_
        refine r_iload_n rfl ?_
        by_cases c91_0 : a2.toInt = 0
        · refine r_tsw 56 (by rw [c91_0]; rfl) ?_
          refine At.enter rfl ?_
          refine r_iload rfl ?_
          refine r_ireti ?_
          exact ⟨_, rfl, hI0, hF0, _, rfl, trivial⟩
        by_cases c91_1 : a2.toInt = 1
        · refine r_tsw 59 (by rw [c91_1]; rfl) ?_
          refine At.enter rfl ?_
          refine r_iload rfl ?_
          refine r_iconst (-1) rfl ?_
          refine r_ics 65 rfl (fun c92 => ?_) (fun c92 => ?_)
          · have c92_ : v90.toInt ≠ (-1) := en_i_ne_t c92
            refine At.enter rfl ?_
            refine r_iconst 0 rfl ?_
            refine r_iload rfl ?_
            refine r_aload_n rfl ?_
            refine q_getR (Sh.ref hI0.1 kx_0 rfl) ?_
            obtain ⟨v93, hv93⟩ : ∃ v, gI g0 1 10 = v := ⟨_, rfl⟩
            refine q_getI (Sh.int hI0.1 kx_1 rfl) v93 hv93 ?_
            refine q_isubO (fun v94 _ => ?_)
            refine q_mmax rfl (Nat.le_of_ble_eq_true rfl) (fun v95 hv95 => ?_)
            have zv96 : (0 : Int32).toInt = 0 := rfl
            refine Ar.fall 83 rfl ?_
            refine At.enter rfl ?_
            refine r_ireti ?_
            exact ⟨_, rfl, hI0, hF0, _, rfl, trivial⟩
          · have c92_ : v90.toInt = (-1) := en_i_ne_f c92
            refine At.enter rfl ?_
            refine r_iconst (-1) rfl ?_
            refine r_goto ?_
            refine At.enter rfl ?_
            refine r_ireti ?_
            exact ⟨_, rfl, hI0, hF0, _, rfl, trivial⟩
        by_cases c91_2 : a2.toInt = 2
        · refine r_tsw 84 (by rw [c91_2]; rfl) ?_
          refine At.enter rfl ?_
          refine r_aload_n rfl ?_
          refine q_getR (Sh.ref hI0.1 kx_188 rfl) ?_
          refine r_iload_n rfl ?_
          obtain ⟨v97, hv97⟩ : ∃ v, eA g0 195 a1.toInt = v := ⟨_, rfl⟩
          refine q_iald (Sh.arr hI0.1 ka_195) a1.toInt rfl (by omega) v97 hv97 ?_
          refine r_ireti ?_
          exact ⟨_, rfl, hI0, hF0, _, rfl, trivial⟩
        by_cases c91_3 : a2.toInt = 3
        · refine r_tsw 91 (by rw [c91_3]; rfl) ?_
          refine At.enter rfl ?_
          refine r_aload_n rfl ?_
          refine q_getR (Sh.ref hI0.1 kx_188 rfl) ?_
          refine r_iload_n rfl ?_
          obtain ⟨v98, hv98⟩ : ∃ v, eA g0 197 a1.toInt = v := ⟨_, rfl⟩
          refine q_iald (Sh.arr hI0.1 ka_197) a1.toInt rfl (by omega) v98 hv98 ?_
          refine r_ireti ?_
          exact ⟨_, rfl, hI0, hF0, _, rfl, trivial⟩
        have c99 : a2.toInt < 0 ∨ 3 < a2.toInt := by omega
        refine r_tsw 98 (by unfold en_sw; rw [if_pos c99]; rfl) ?_
        refine At.enter rfl ?_
        refine r_iconst (-1) rfl ?_
        refine r_ireti ?_
        exact ⟨_, rfl, hI0, hF0, _, rfl, trivial⟩
      · have c89_ : v88.toInt = 0 := en_k_ne_f c89
        refine At.enter rfl ?_
        refine r_aload_n rfl ?_
        refine q_getR (Sh.ref hI0.1 kx_0 rfl) ?_
        refine r_iconst 0 rfl ?_
        refine r_callV 15 rfl [.ref 188, .int 0] [] (Nat.le_of_ble_eq_true rfl) rfl (T_X1_layOut_188 _ hI0 0) ?_
        rintro _ _ ⟨g100, rfl, hI101, hF102, rfl⟩
        refine At.stn ?_
        have hF105 := Fr.tr hF0 hF102 rfl rfl
        refine At.enter rfl ?_
        refine r_aload_n rfl ?_
        refine q_getR (Sh.ref hI101.1 kx_0 rfl) ?_
        refine r_callV 22 rfl [.ref 188] [] (Nat.le_of_ble_eq_true rfl) rfl (T_X1_runWhole_188 _ hI101) ?_
        rintro _ _ ⟨g106, rfl, hI107, hF108, rfl⟩
        refine At.stn ?_
        have hF111 := Fr.tr hF105 hF108 rfl rfl
        refine At.enter rfl ?_
        refine r_aload_n rfl ?_
        refine r_iconst 1 rfl ?_
        refine q_putI (Sh.int hI107.1 kx_0 rfl) rfl ?_
        have hI112 := HI.wI0 hI107 kx_0 rfl (p := 0) (b := 14) (v := 1) rfl
        have hF113 := Fr.wI (p := 0) (b := 14) (v := 1) hF111 rfl
        refine Ar.fall 27 rfl ?_
        refine At.enter rfl ?_
        refine r_aload_n rfl ?_
        refine q_getR (Sh.ref hI112.1 kx_0 rfl) ?_
        refine q_aret ?_
        refine At.enter rfl ?_
        refine r_astore_n ([(3, .ref 188), (0, .ref 0), (1, .int a1), (2, .int a2)]) rfl ?_
        refine r_aload_n rfl ?_
        refine q_getR (Sh.ref hI112.1 kx_188 rfl) ?_
        refine r_iload_n rfl ?_
        obtain ⟨v114, hv114⟩ : ∃ v, eA g106 196 a1.toInt = v := ⟨_, rfl⟩
        refine q_iald (Sh.arr hI112.1 ka_196) a1.toInt rfl (by omega) v114 ((eA_c (gA_sI)).trans hv114) ?_
        refine r_istore ([(4, .int v114), (3, .ref 188), (0, .ref 0), (1, .int a1), (2, .int a2)]) rfl ?_
        refine r_iload_n rfl ?_
        by_cases c115_0 : a2.toInt = 0
        · refine r_tsw 56 (by rw [c115_0]; rfl) ?_
          refine At.enter rfl ?_
          refine r_iload rfl ?_
          refine r_ireti ?_
          exact ⟨_, rfl, hI112, hF113, _, rfl, trivial⟩
        by_cases c115_1 : a2.toInt = 1
        · refine r_tsw 59 (by rw [c115_1]; rfl) ?_
          refine At.enter rfl ?_
          refine r_iload rfl ?_
          refine r_iconst (-1) rfl ?_
          refine r_ics 65 rfl (fun c116 => ?_) (fun c116 => ?_)
          · have c116_ : v114.toInt ≠ (-1) := en_i_ne_t c116
            refine At.enter rfl ?_
            refine r_iconst 0 rfl ?_
            refine r_iload rfl ?_
            refine r_aload_n rfl ?_
            refine q_getR (Sh.ref hI112.1 kx_0 rfl) ?_
            obtain ⟨v117, hv117⟩ : ∃ v, gI g0 1 10 = v := ⟨_, rfl⟩
            refine q_getI (Sh.int hI112.1 kx_1 rfl) v117 (((gI_sI_ne (by decide)).trans ((hF108.1 1 10 (by decide)).trans (hF102.1 1 10 (by decide)))).trans hv117) ?_
            refine q_isubO (fun v118 _ => ?_)
            refine q_mmax rfl (Nat.le_of_ble_eq_true rfl) (fun v119 hv119 => ?_)
            have zv120 : (0 : Int32).toInt = 0 := rfl
            refine Ar.fall 83 rfl ?_
            refine At.enter rfl ?_
            refine r_ireti ?_
            exact ⟨_, rfl, hI112, hF113, _, rfl, trivial⟩
          · have c116_ : v114.toInt = (-1) := en_i_ne_f c116
            refine At.enter rfl ?_
            refine r_iconst (-1) rfl ?_
            refine r_goto ?_
            refine At.enter rfl ?_
            refine r_ireti ?_
            exact ⟨_, rfl, hI112, hF113, _, rfl, trivial⟩
        by_cases c115_2 : a2.toInt = 2
        · refine r_tsw 84 (by rw [c115_2]; rfl) ?_
          refine At.enter rfl ?_
          refine r_aload_n rfl ?_
          refine q_getR (Sh.ref hI112.1 kx_188 rfl) ?_
          refine r_iload_n rfl ?_
          obtain ⟨v121, hv121⟩ : ∃ v, eA g106 195 a1.toInt = v := ⟨_, rfl⟩
          refine q_iald (Sh.arr hI112.1 ka_195) a1.toInt rfl (by omega) v121 ((eA_c (gA_sI)).trans hv121) ?_
          refine r_ireti ?_
          exact ⟨_, rfl, hI112, hF113, _, rfl, trivial⟩
        by_cases c115_3 : a2.toInt = 3
        · refine r_tsw 91 (by rw [c115_3]; rfl) ?_
          refine At.enter rfl ?_
          refine r_aload_n rfl ?_
          refine q_getR (Sh.ref hI112.1 kx_188 rfl) ?_
          refine r_iload_n rfl ?_
          obtain ⟨v122, hv122⟩ : ∃ v, eA g106 197 a1.toInt = v := ⟨_, rfl⟩
          refine q_iald (Sh.arr hI112.1 ka_197) a1.toInt rfl (by omega) v122 ((eA_c (gA_sI)).trans hv122) ?_
          refine r_ireti ?_
          exact ⟨_, rfl, hI112, hF113, _, rfl, trivial⟩
        have c123 : a2.toInt < 0 ∨ 3 < a2.toInt := by omega
        refine r_tsw 98 (by unfold en_sw; rw [if_pos c123]; rfl) ?_
        refine At.enter rfl ?_
        refine r_iconst (-1) rfl ?_
        refine r_ireti ?_
        exact ⟨_, rfl, hI112, hF113, _, rfl, trivial⟩

def F_X10_where_0 : List (Nat × Nat) := [(0, 14), (185, 3), (188, 16), (188, 18)]
def A_X10_where_0 : List Nat := [189, 190, 191, 192, 193, 194, 195, 196, 197, 198, 199, 200, 202, 203]
set_option maxRecDepth 100000 in
set_option maxHeartbeats 4000000 in
theorem T_X10_where_0 (d : Nat) {N : Nat} {g0 : List en_E} (hI0 : HI g0) (a1 : Int32) (a2 : Int32) : Ev (d + 7) 121 [.ref 0, .int a1, .int a2] (g0, N) (fun w h' => ∃ g', h' = (g', N) ∧ HI g' ∧ Fr F_X10_where_0 A_X10_where_0 g0 g' ∧ ∃ r : Int32, w = some (.int r) ∧ True) := by
  have hF0 : Fr F_X10_where_0 A_X10_where_0 g0 g0 := Fr.rf
  refine Ev.mk rfl rfl ⟨Nat.le_of_ble_eq_true rfl, Or.inr (q_rc hI0.1 kx_0 rfl)⟩ ?_
  show At _ none _ _ (0, [(0, .ref 0), (1, .int a1), (2, .int a2)], [], (_, _)) _
  refine At.enter rfl ?_
  refine r_aload_n rfl ?_
  refine q_getR (Sh.ref hI0.1 kx_0 rfl) ?_
  refine r_iload_n rfl ?_
  refine q_inlV 8 rfl [.ref 1, .int a1] [] (Nat.le_of_ble_eq_true rfl) rfl ?_
  refine Ev.mk rfl rfl ⟨Nat.le_of_ble_eq_true rfl, Or.inr (q_rc hI0.1 kx_1 rfl)⟩ ?_
  show At _ none _ _ (0, [(0, .ref 1), (1, .int a1)], [], (_, _)) _
  refine At.enter rfl ?_
  refine r_iload_n rfl ?_
  refine r_ifs 4 rfl (fun c59 => ?_) (fun c59 => ?_)
  · have c59_ : a1.toInt < 0 := en_k_lt_t c59
    refine At.enter rfl ?_
    refine r_iconst 0 rfl ?_
    refine Ar.fall 17 rfl ?_
    refine At.enter rfl ?_
    refine q_iretz (by decide) ?_
    refine At.enter rfl ?_
    refine r_ift (by decide) ?_
    refine At.enter rfl ?_
    refine r_iconst (-1) rfl ?_
    refine Ar.fall 34 rfl ?_
    refine At.enter rfl ?_
    refine r_ireti ?_
    exact ⟨_, rfl, hI0, hF0, _, rfl, trivial⟩
  · have c59_ : a1.toInt ≥ 0 := en_k_lt_f c59
    refine At.enter rfl ?_
    refine r_iload_n rfl ?_
    refine r_aload_n rfl ?_
    obtain ⟨v60, hv60⟩ : ∃ v, gI g0 1 4 = v := ⟨_, rfl⟩
    have rv60 := RgF.at hI0.2.1 (p := 1) (b := 4) rfl
    rw [hv60] at rv60
    dsimp only at rv60
    refine q_getI (Sh.int hI0.1 kx_1 rfl) v60 hv60 ?_
    have bv62 := q_bnd a1
    have bv63 := q_bnd v60
    refine r_ics 12 rfl (fun c61 => ?_) (fun c61 => ?_)
    · have c61_ : a1.toInt ≥ v60.toInt := en_i_ge_t c61
      refine At.enter rfl ?_
      refine r_iconst 0 rfl ?_
      refine Ar.fall 17 rfl ?_
      refine At.enter rfl ?_
      refine q_iretz (by decide) ?_
      refine At.enter rfl ?_
      refine r_ift (by decide) ?_
      refine At.enter rfl ?_
      refine r_iconst (-1) rfl ?_
      refine Ar.fall 34 rfl ?_
      refine At.enter rfl ?_
      refine r_ireti ?_
      exact ⟨_, rfl, hI0, hF0, _, rfl, trivial⟩
    · have c61_ : a1.toInt < v60.toInt := en_i_ge_f c61
      refine At.enter rfl ?_
      refine r_iconst 1 rfl ?_
      refine r_goto ?_
      refine At.enter rfl ?_
      refine q_iretz (by decide) ?_
      refine At.enter rfl ?_
      refine r_iff 11 rfl (by decide) ?_
      refine At.enter rfl ?_
      refine r_iload_n rfl ?_
      refine r_iconst 0 rfl ?_
      refine r_bipush 99 rfl ?_
      refine q_inlS 18 rfl [.int a2, .int 0, .int 99] [] (Nat.le_of_ble_eq_true rfl) rfl ?_
      refine Ev.mk rfl rfl ⟨Nat.le_of_ble_eq_true rfl, Or.inl rfl⟩ ?_
      show At _ none _ _ (0, [(0, .int a2), (1, .int 0), (2, .int 99)], [], (_, _)) _
      refine At.enter rfl ?_
      refine r_iload_n rfl ?_
      refine r_iload_n rfl ?_
      refine r_ics 5 rfl (fun c64 => ?_) (fun c64 => ?_)
      · have c64_ : a2.toInt < 0 := en_i_lt_t c64
        refine At.enter rfl ?_
        refine r_iconst 0 rfl ?_
        refine Ar.fall 15 rfl ?_
        refine At.enter rfl ?_
        refine q_iretz (by decide) ?_
        refine At.enter rfl ?_
        refine r_ift (by decide) ?_
        refine At.enter rfl ?_
        refine r_iconst (-1) rfl ?_
        refine Ar.fall 34 rfl ?_
        refine At.enter rfl ?_
        refine r_ireti ?_
        exact ⟨_, rfl, hI0, hF0, _, rfl, trivial⟩
      · have c64_ : a2.toInt ≥ 0 := en_i_lt_f c64
        refine At.enter rfl ?_
        refine r_iload_n rfl ?_
        refine r_iload_n rfl ?_
        refine r_ics 10 rfl (fun c65 => ?_) (fun c65 => ?_)
        · have c65_ : a2.toInt > 99 := en_i_gt_t c65
          refine At.enter rfl ?_
          refine r_iconst 0 rfl ?_
          refine Ar.fall 15 rfl ?_
          refine At.enter rfl ?_
          refine q_iretz (by decide) ?_
          refine At.enter rfl ?_
          refine r_ift (by decide) ?_
          refine At.enter rfl ?_
          refine r_iconst (-1) rfl ?_
          refine Ar.fall 34 rfl ?_
          refine At.enter rfl ?_
          refine r_ireti ?_
          exact ⟨_, rfl, hI0, hF0, _, rfl, trivial⟩
        · have c65_ : a2.toInt ≤ 99 := en_i_gt_f c65
          refine At.enter rfl ?_
          refine r_iconst 1 rfl ?_
          refine r_goto ?_
          refine At.enter rfl ?_
          refine q_iretz (by decide) ?_
          refine At.enter rfl ?_
          refine r_iff 21 rfl (by decide) ?_
          refine At.enter rfl ?_
          refine r_aload_n rfl ?_
          refine q_inlV 25 rfl [.ref 0] [] (Nat.le_of_ble_eq_true rfl) rfl ?_
          refine Ev.mk rfl rfl ⟨Nat.le_of_ble_eq_true rfl, Or.inr (q_rc hI0.1 kx_0 rfl)⟩ ?_
          show At _ none _ _ (0, [(0, .ref 0)], [], (_, _)) _
          refine At.enter rfl ?_
          refine r_aload_n rfl ?_
          obtain ⟨v66, hv66⟩ : ∃ v, gI g0 0 14 = v := ⟨_, rfl⟩
          refine q_getI (Sh.int hI0.1 kx_0 rfl) v66 hv66 ?_
          refine r_ifs 7 rfl (fun c67 => ?_) (fun c67 => ?_)
          · have c67_ : v66.toInt ≠ 0 := en_k_ne_t c67
            refine At.enter rfl ?_
            refine r_aload_n rfl ?_
            refine q_getR (Sh.ref hI0.1 kx_0 rfl) ?_
            refine q_aret ?_
            refine At.enter rfl ?_
            refine r_iload_n rfl ?_
            refine r_iload_n rfl ?_
            refine q_inlV 30 rfl [.ref 188, .int a1, .int a2] [] (Nat.le_of_ble_eq_true rfl) rfl ?_
            refine Ev.mk rfl rfl ⟨Nat.le_of_ble_eq_true rfl, Or.inr (q_rc hI0.1 kx_188 rfl)⟩ ?_
            show At _ none _ _ (0, [(0, .ref 188), (1, .int a1), (2, .int a2)], [], (_, _)) _
            refine At.enter rfl ?_
            refine r_aload_n rfl ?_
            refine q_getR (Sh.ref hI0.1 kx_188 rfl) ?_
            refine r_iload_n rfl ?_
            refine r_bipush 8 rfl ?_
            refine q_imul (a2.toInt * 8) rfl (by omega) (fun v68 hv68 => ?_)
            refine r_iload_n rfl ?_
            refine q_iadd (v68.toInt + a1.toInt) rfl (by omega) (fun v69 hv69 => ?_)
            obtain ⟨v70, hv70⟩ : ∃ v, eA g0 203 (8 * a2.toInt + a1.toInt) = v := ⟨_, rfl⟩
            refine q_iald (Sh.arr hI0.1 ka_203) (8 * a2.toInt + a1.toInt) (by omega) (by omega) v70 hv70 ?_
            refine q_ireti ?_
            refine At.enter rfl ?_
            refine r_goto ?_
            refine At.enter rfl ?_
            refine r_ireti ?_
            exact ⟨_, rfl, hI0, hF0, _, rfl, trivial⟩
          · have c67_ : v66.toInt = 0 := en_k_ne_f c67
            refine At.enter rfl ?_
            refine r_aload_n rfl ?_
            refine q_getR (Sh.ref hI0.1 kx_0 rfl) ?_
            refine r_iconst 0 rfl ?_
            refine r_callV 15 rfl [.ref 188, .int 0] [] (Nat.le_of_ble_eq_true rfl) rfl (T_X1_layOut_188 _ hI0 0) ?_
            rintro _ _ ⟨g71, rfl, hI72, hF73, rfl⟩
            refine At.stn ?_
            have hF76 := Fr.tr hF0 hF73 rfl rfl
            refine At.enter rfl ?_
            refine r_aload_n rfl ?_
            refine q_getR (Sh.ref hI72.1 kx_0 rfl) ?_
            refine r_callV 22 rfl [.ref 188] [] (Nat.le_of_ble_eq_true rfl) rfl (T_X1_runWhole_188 _ hI72) ?_
            rintro _ _ ⟨g77, rfl, hI78, hF79, rfl⟩
            refine At.stn ?_
            have hF82 := Fr.tr hF76 hF79 rfl rfl
            refine At.enter rfl ?_
            refine r_aload_n rfl ?_
            refine r_iconst 1 rfl ?_
            refine q_putI (Sh.int hI78.1 kx_0 rfl) rfl ?_
            have hI83 := HI.wI0 hI78 kx_0 rfl (p := 0) (b := 14) (v := 1) rfl
            have hF84 := Fr.wI (p := 0) (b := 14) (v := 1) hF82 rfl
            refine Ar.fall 27 rfl ?_
            refine At.enter rfl ?_
            refine r_aload_n rfl ?_
            refine q_getR (Sh.ref hI83.1 kx_0 rfl) ?_
            refine q_aret ?_
            refine At.enter rfl ?_
            refine r_iload_n rfl ?_
            refine r_iload_n rfl ?_
            refine q_inlV 30 rfl [.ref 188, .int a1, .int a2] [] (Nat.le_of_ble_eq_true rfl) rfl ?_
            refine Ev.mk rfl rfl ⟨Nat.le_of_ble_eq_true rfl, Or.inr (q_rc hI83.1 kx_188 rfl)⟩ ?_
            show At _ none _ _ (0, [(0, .ref 188), (1, .int a1), (2, .int a2)], [], (_, _)) _
            refine At.enter rfl ?_
            refine r_aload_n rfl ?_
            refine q_getR (Sh.ref hI83.1 kx_188 rfl) ?_
            refine r_iload_n rfl ?_
            refine r_bipush 8 rfl ?_
            refine q_imul (a2.toInt * 8) rfl (by omega) (fun v85 hv85 => ?_)
            refine r_iload_n rfl ?_
            refine q_iadd (v85.toInt + a1.toInt) rfl (by omega) (fun v86 hv86 => ?_)
            obtain ⟨v87, hv87⟩ : ∃ v, eA g77 203 (8 * a2.toInt + a1.toInt) = v := ⟨_, rfl⟩
            refine q_iald (Sh.arr hI83.1 ka_203) (8 * a2.toInt + a1.toInt) (by omega) (by omega) v87 ((eA_c (gA_sI)).trans hv87) ?_
            refine q_ireti ?_
            refine At.enter rfl ?_
            refine r_goto ?_
            refine At.enter rfl ?_
            refine r_ireti ?_
            exact ⟨_, rfl, hI83, hF84, _, rfl, trivial⟩

def F_X10_held_0 : List (Nat × Nat) := [(0, 14), (185, 3), (188, 16), (188, 18)]
def A_X10_held_0 : List Nat := [189, 190, 191, 192, 193, 194, 195, 196, 197, 198, 199, 200, 202, 203]
set_option maxRecDepth 100000 in
set_option maxHeartbeats 4000000 in
theorem T_X10_held_0 (d : Nat) {N : Nat} {g0 : List en_E} (hI0 : HI g0) (a1 : Int32) (a2 : Int32) (a3 : Int32) : Ev (d + 7) 122 [.ref 0, .int a1, .int a2, .int a3] (g0, N) (fun w h' => ∃ g', h' = (g', N) ∧ HI g' ∧ Fr F_X10_held_0 A_X10_held_0 g0 g' ∧ ∃ r : Int32, w = some (.int r) ∧ True) := by
  have hF0 : Fr F_X10_held_0 A_X10_held_0 g0 g0 := Fr.rf
  refine Ev.mk rfl rfl ⟨Nat.le_of_ble_eq_true rfl, Or.inr (q_rc hI0.1 kx_0 rfl)⟩ ?_
  show At _ none _ _ (0, [(0, .ref 0), (1, .int a1), (2, .int a2), (3, .int a3)], [], (_, _)) _
  refine At.enter rfl ?_
  refine r_aload_n rfl ?_
  refine q_getR (Sh.ref hI0.1 kx_0 rfl) ?_
  refine r_iload_n rfl ?_
  refine q_inlV 8 rfl [.ref 1, .int a1] [] (Nat.le_of_ble_eq_true rfl) rfl ?_
  refine Ev.mk rfl rfl ⟨Nat.le_of_ble_eq_true rfl, Or.inr (q_rc hI0.1 kx_1 rfl)⟩ ?_
  show At _ none _ _ (0, [(0, .ref 1), (1, .int a1)], [], (_, _)) _
  refine At.enter rfl ?_
  refine r_iload_n rfl ?_
  refine r_ifs 4 rfl (fun c887 => ?_) (fun c887 => ?_)
  · have c887_ : a1.toInt < 0 := en_k_lt_t c887
    refine At.enter rfl ?_
    refine r_iconst 0 rfl ?_
    refine Ar.fall 17 rfl ?_
    refine At.enter rfl ?_
    refine q_iretz (by decide) ?_
    refine At.enter rfl ?_
    refine r_ift (by decide) ?_
    refine At.enter rfl ?_
    refine r_iconst (-1) rfl ?_
    refine r_ireti ?_
    exact ⟨_, rfl, hI0, hF0, _, rfl, trivial⟩
  · have c887_ : a1.toInt ≥ 0 := en_k_lt_f c887
    refine At.enter rfl ?_
    refine r_iload_n rfl ?_
    refine r_aload_n rfl ?_
    obtain ⟨v888, hv888⟩ : ∃ v, gI g0 1 0 = v := ⟨_, rfl⟩
    have rv888 := RgF.at hI0.2.1 (p := 1) (b := 0) rfl
    rw [hv888] at rv888
    dsimp only at rv888
    refine q_getI (Sh.int hI0.1 kx_1 rfl) v888 hv888 ?_
    have bv890 := q_bnd a1
    have bv891 := q_bnd v888
    refine r_ics 12 rfl (fun c889 => ?_) (fun c889 => ?_)
    · have c889_ : a1.toInt ≥ v888.toInt := en_i_ge_t c889
      refine At.enter rfl ?_
      refine r_iconst 0 rfl ?_
      refine Ar.fall 17 rfl ?_
      refine At.enter rfl ?_
      refine q_iretz (by decide) ?_
      refine At.enter rfl ?_
      refine r_ift (by decide) ?_
      refine At.enter rfl ?_
      refine r_iconst (-1) rfl ?_
      refine r_ireti ?_
      exact ⟨_, rfl, hI0, hF0, _, rfl, trivial⟩
    · have c889_ : a1.toInt < v888.toInt := en_i_ge_f c889
      refine At.enter rfl ?_
      refine r_iconst 1 rfl ?_
      refine r_goto ?_
      refine At.enter rfl ?_
      refine q_iretz (by decide) ?_
      refine At.enter rfl ?_
      refine r_iff 11 rfl (by decide) ?_
      refine At.enter rfl ?_
      refine r_iload_n rfl ?_
      refine r_iconst 0 rfl ?_
      refine r_bipush 99 rfl ?_
      refine q_inlS 18 rfl [.int a2, .int 0, .int 99] [] (Nat.le_of_ble_eq_true rfl) rfl ?_
      refine Ev.mk rfl rfl ⟨Nat.le_of_ble_eq_true rfl, Or.inl rfl⟩ ?_
      show At _ none _ _ (0, [(0, .int a2), (1, .int 0), (2, .int 99)], [], (_, _)) _
      refine At.enter rfl ?_
      refine r_iload_n rfl ?_
      refine r_iload_n rfl ?_
      refine r_ics 5 rfl (fun c892 => ?_) (fun c892 => ?_)
      · have c892_ : a2.toInt < 0 := en_i_lt_t c892
        refine At.enter rfl ?_
        refine r_iconst 0 rfl ?_
        refine Ar.fall 15 rfl ?_
        refine At.enter rfl ?_
        refine q_iretz (by decide) ?_
        refine At.enter rfl ?_
        refine r_ift (by decide) ?_
        refine At.enter rfl ?_
        refine r_iconst (-1) rfl ?_
        refine r_ireti ?_
        exact ⟨_, rfl, hI0, hF0, _, rfl, trivial⟩
      · have c892_ : a2.toInt ≥ 0 := en_i_lt_f c892
        refine At.enter rfl ?_
        refine r_iload_n rfl ?_
        refine r_iload_n rfl ?_
        refine r_ics 10 rfl (fun c893 => ?_) (fun c893 => ?_)
        · have c893_ : a2.toInt > 99 := en_i_gt_t c893
          refine At.enter rfl ?_
          refine r_iconst 0 rfl ?_
          refine Ar.fall 15 rfl ?_
          refine At.enter rfl ?_
          refine q_iretz (by decide) ?_
          refine At.enter rfl ?_
          refine r_ift (by decide) ?_
          refine At.enter rfl ?_
          refine r_iconst (-1) rfl ?_
          refine r_ireti ?_
          exact ⟨_, rfl, hI0, hF0, _, rfl, trivial⟩
        · have c893_ : a2.toInt ≤ 99 := en_i_gt_f c893
          refine At.enter rfl ?_
          refine r_iconst 1 rfl ?_
          refine r_goto ?_
          refine At.enter rfl ?_
          refine q_iretz (by decide) ?_
          refine At.enter rfl ?_
          refine r_iff 21 rfl (by decide) ?_
          refine At.enter rfl ?_
          refine r_iload_n rfl ?_
          refine r_iconst 0 rfl ?_
          refine r_iconst 1 rfl ?_
          refine q_inlS 27 rfl [.int a3, .int 0, .int 1] [] (Nat.le_of_ble_eq_true rfl) rfl ?_
          refine Ev.mk rfl rfl ⟨Nat.le_of_ble_eq_true rfl, Or.inl rfl⟩ ?_
          show At _ none _ _ (0, [(0, .int a3), (1, .int 0), (2, .int 1)], [], (_, _)) _
          refine At.enter rfl ?_
          refine r_iload_n rfl ?_
          refine r_iload_n rfl ?_
          refine r_ics 5 rfl (fun c894 => ?_) (fun c894 => ?_)
          · have c894_ : a3.toInt < 0 := en_i_lt_t c894
            refine At.enter rfl ?_
            refine r_iconst 0 rfl ?_
            refine Ar.fall 15 rfl ?_
            refine At.enter rfl ?_
            refine q_iretz (by decide) ?_
            refine At.enter rfl ?_
            refine r_iff 30 rfl (by decide) ?_
            refine At.enter rfl ?_
            refine r_iconst (-1) rfl ?_
            refine r_ireti ?_
            exact ⟨_, rfl, hI0, hF0, _, rfl, trivial⟩
          · have c894_ : a3.toInt ≥ 0 := en_i_lt_f c894
            refine At.enter rfl ?_
            refine r_iload_n rfl ?_
            refine r_iload_n rfl ?_
            refine r_ics 10 rfl (fun c895 => ?_) (fun c895 => ?_)
            · have c895_ : a3.toInt > 1 := en_i_gt_t c895
              refine At.enter rfl ?_
              refine r_iconst 0 rfl ?_
              refine Ar.fall 15 rfl ?_
              refine At.enter rfl ?_
              refine q_iretz (by decide) ?_
              refine At.enter rfl ?_
              refine r_iff 30 rfl (by decide) ?_
              refine At.enter rfl ?_
              refine r_iconst (-1) rfl ?_
              refine r_ireti ?_
              exact ⟨_, rfl, hI0, hF0, _, rfl, trivial⟩
            · have c895_ : a3.toInt ≤ 1 := en_i_gt_f c895
              refine At.enter rfl ?_
              refine r_iconst 1 rfl ?_
              refine r_goto ?_
              refine At.enter rfl ?_
              refine q_iretz (by decide) ?_
              refine At.enter rfl ?_
              refine r_ift (by decide) ?_
              refine At.enter rfl ?_
              refine r_aload_n rfl ?_
              refine q_inlV 36 rfl [.ref 0] [] (Nat.le_of_ble_eq_true rfl) rfl ?_
              refine Ev.mk rfl rfl ⟨Nat.le_of_ble_eq_true rfl, Or.inr (q_rc hI0.1 kx_0 rfl)⟩ ?_
              show At _ none _ _ (0, [(0, .ref 0)], [], (_, _)) _
              refine At.enter rfl ?_
              refine r_aload_n rfl ?_
              obtain ⟨v896, hv896⟩ : ∃ v, gI g0 0 14 = v := ⟨_, rfl⟩
              refine q_getI (Sh.int hI0.1 kx_0 rfl) v896 hv896 ?_
              refine r_ifs 7 rfl (fun c897 => ?_) (fun c897 => ?_)
              · have c897_ : v896.toInt ≠ 0 := en_k_ne_t c897
                refine At.enter rfl ?_
                refine r_aload_n rfl ?_
                refine q_getR (Sh.ref hI0.1 kx_0 rfl) ?_
                refine q_aret ?_
                refine At.enter rfl ?_
                refine r_astore ([(4, .ref 188), (0, .ref 0), (1, .int a1), (2, .int a2), (3, .int a3)]) rfl ?_
                refine r_iconst 0 rfl ?_
                refine r_istore ([(5, .int 0), (4, .ref 188), (0, .ref 0), (1, .int a1), (2, .int a2), (3, .int a3)]) rfl ?_
                refine r_iconst 0 rfl ?_
                refine r_istore ([(6, .int 0), (5, .int 0), (4, .ref 188), (0, .ref 0), (1, .int a1), (2, .int a2), (3, .int a3)]) rfl ?_
                refine Ar.fall 44 rfl ?_
                have z_1083 : (0 : Int32).toInt = 0 := rfl
                have z_1084 : (0 : Int32).toInt = 0 := rfl
                refine w_loopI (fun n_ l_ g_ => ∃ x1067 : Int32, ∃ x1068 : Int32, n_ = 8 - x1068.toInt ∧ HI g_ ∧ Fr F_X10_held_0 A_X10_held_0 g0 g_ ∧ en_get 0 l_ = some (.ref 0) ∧ en_get 1 l_ = some (.int a1) ∧ en_get 2 l_ = some (.int a2) ∧ en_get 3 l_ = some (.int a3) ∧ en_get 4 l_ = some (.ref 188) ∧ en_get 5 l_ = some (.int x1067) ∧ en_get 6 l_ = some (.int x1068) ∧ (0 ≤ x1068.toInt ∧ x1068.toInt ≤ 8)) ?_ (8 - 0) ⟨0, 0, by first | rfl | omega, hI0, hF0, rfl, rfl, rfl, rfl, rfl, rfl, rfl, by decide⟩
                rintro n1073 l1072 g1069 ⟨x1067, x1068, hm1085, hI1070, hF1071, e1075, e1076, e1077, e1078, e1079, e1080, e1081, r1082⟩ ih1074
                refine At.enter rfl ?_
                refine r_iload e1081 ?_
                refine r_aload_n e1075 ?_
                refine q_getR (Sh.ref hI1070.1 kx_0 rfl) ?_
                obtain ⟨v1086, hv1086⟩ : ∃ v, gI g0 1 4 = v := ⟨_, rfl⟩
                have rv1086 := RgF.at hI0.2.1 (p := 1) (b := 4) rfl
                rw [hv1086] at rv1086
                dsimp only at rv1086
                refine q_getI (Sh.int hI1070.1 kx_1 rfl) v1086 ((hF1071.1 1 4 (by decide)).trans hv1086) ?_
                have bv1088 := q_bnd x1068
                have bv1089 := q_bnd v1086
                refine r_ics 56 rfl (fun c1087 => ?_) (fun c1087 => ?_)
                · have c1087_ : x1068.toInt ≥ v1086.toInt := en_i_ge_t c1087
                  refine At.enter rfl ?_
                  refine r_iload e1080 ?_
                  refine r_ireti ?_
                  exact ⟨_, rfl, hI1070, hF1071, _, rfl, trivial⟩
                · have c1087_ : x1068.toInt < v1086.toInt := en_i_ge_f c1087
                  refine At.enter rfl ?_
                  refine r_aload e1079 ?_
                  refine r_iload e1081 ?_
                  refine r_iload_n e1077 ?_
                  refine q_inlV 64 rfl [.ref 188, .int x1068, .int a2] [] (Nat.le_of_ble_eq_true rfl) rfl ?_
                  refine Ev.mk rfl rfl ⟨Nat.le_of_ble_eq_true rfl, Or.inr (q_rc hI1070.1 kx_188 rfl)⟩ ?_
                  show At _ none _ _ (0, [(0, .ref 188), (1, .int x1068), (2, .int a2)], [], (_, _)) _
                  refine At.enter rfl ?_
                  refine r_aload_n rfl ?_
                  refine q_getR (Sh.ref hI1070.1 kx_188 rfl) ?_
                  refine r_iload_n rfl ?_
                  refine r_bipush 8 rfl ?_
                  refine q_imul (a2.toInt * 8) rfl (by omega) (fun v1090 hv1090 => ?_)
                  refine r_iload_n rfl ?_
                  refine q_iadd (v1090.toInt + x1068.toInt) rfl (by omega) (fun v1091 hv1091 => ?_)
                  obtain ⟨v1092, hv1092⟩ : ∃ v, eA g1069 203 (8 * a2.toInt + x1068.toInt) = v := ⟨_, rfl⟩
                  refine q_iald (Sh.arr hI1070.1 ka_203) (8 * a2.toInt + x1068.toInt) (by omega) (by omega) v1092 hv1092 ?_
                  refine q_ireti ?_
                  refine At.enter rfl ?_
                  refine r_iload_n e1076 ?_
                  refine r_ics 68 rfl (fun c1093 => ?_) (fun c1093 => ?_)
                  · have c1093_ : v1092.toInt ≠ a1.toInt := en_i_ne_t c1093
                    refine At.enter rfl ?_
                    refine q_iinc e1081 (x1068.toInt + 1) rfl (by omega) (fun v1094 hv1094 => ?_)
                    refine r_goto ?_
                    have bv1095 := q_bnd x1067
                    exact ih1074 (8 - v1094.toInt) _ _ ⟨x1067, v1094, by first | rfl | omega, hI1070, hF1071, (w_p1 (by decide) (Or.inr rfl) e1075), (w_p1 (by decide) (Or.inr rfl) e1076), (w_p1 (by decide) (Or.inr rfl) e1077), (w_p1 (by decide) (Or.inr rfl) e1078), (w_p1 (by decide) (Or.inr rfl) e1079), (w_p1 (by decide) (Or.inr rfl) e1080), (w_e1 _ _ _), by omega⟩ ⟨by omega, by omega⟩
                  · have c1093_ : v1092.toInt = a1.toInt := en_i_ne_f c1093
                    refine At.enter rfl ?_
                    refine r_iload e1080 ?_
                    refine r_iload_n e1078 ?_
                    refine r_ifs 74 rfl (fun c1096 => ?_) (fun c1096 => ?_)
                    · have c1096_ : a3.toInt ≠ 0 := en_k_ne_t c1096
                      refine At.enter rfl ?_
                      refine r_aload_n e1075 ?_
                      refine q_getR (Sh.ref hI1070.1 kx_0 rfl) ?_
                      refine r_iload e1081 ?_
                      refine r_iconst 0 rfl ?_
                      refine r_callV 88 rfl [.ref 1, .int x1068, .int 0] [.int x1067] (Nat.le_of_ble_eq_true rfl) rfl (T_X0_about_1 _ hI1070 x1068 0) ?_
                      rintro _ _ ⟨g1097, rfl, hI1098, hF1099, v1100, rfl, hr1101⟩
                      refine At.sti ?_
                      have hF1102 := Fr.tr hF1071 hF1099 rfl rfl
                      have zv1103 : (0 : Int32).toInt = 0 := rfl
                      refine At.enter rfl ?_
                      refine q_iaddO (fun v1104 _ => ?_)
                      refine r_istore _ rfl ?_
                      refine Ar.fall 91 rfl ?_
                      refine At.enter rfl ?_
                      refine q_iinc (w_p1 (by decide) (Or.inr rfl) e1081) (x1068.toInt + 1) rfl (by omega) (fun v1105 hv1105 => ?_)
                      refine r_goto ?_
                      have bv1106 := q_bnd v1104
                      exact ih1074 (8 - v1105.toInt) _ _ ⟨v1104, v1105, by first | rfl | omega, hI1098, hF1102, (w_p1 (by decide) (Or.inr rfl) (w_p1 (by decide) (Or.inr rfl) e1075)), (w_p1 (by decide) (Or.inr rfl) (w_p1 (by decide) (Or.inr rfl) e1076)), (w_p1 (by decide) (Or.inr rfl) (w_p1 (by decide) (Or.inr rfl) e1077)), (w_p1 (by decide) (Or.inr rfl) (w_p1 (by decide) (Or.inr rfl) e1078)), (w_p1 (by decide) (Or.inr rfl) (w_p1 (by decide) (Or.inr rfl) e1079)), (w_p1 (by decide) (Or.inr rfl) (w_e1 _ _ _)), (w_e1 _ _ _), by omega⟩ ⟨by omega, by omega⟩
                    · have c1096_ : a3.toInt = 0 := en_k_ne_f c1096
                      refine At.enter rfl ?_
                      refine r_iconst 1 rfl ?_
                      refine r_goto ?_
                      refine At.enter rfl ?_
                      refine q_iaddO (fun v1107 _ => ?_)
                      refine r_istore _ rfl ?_
                      refine Ar.fall 91 rfl ?_
                      refine At.enter rfl ?_
                      refine q_iinc (w_p1 (by decide) (Or.inr rfl) e1081) (x1068.toInt + 1) rfl (by omega) (fun v1108 hv1108 => ?_)
                      refine r_goto ?_
                      have bv1109 := q_bnd v1107
                      exact ih1074 (8 - v1108.toInt) _ _ ⟨v1107, v1108, by first | rfl | omega, hI1070, hF1071, (w_p1 (by decide) (Or.inr rfl) (w_p1 (by decide) (Or.inr rfl) e1075)), (w_p1 (by decide) (Or.inr rfl) (w_p1 (by decide) (Or.inr rfl) e1076)), (w_p1 (by decide) (Or.inr rfl) (w_p1 (by decide) (Or.inr rfl) e1077)), (w_p1 (by decide) (Or.inr rfl) (w_p1 (by decide) (Or.inr rfl) e1078)), (w_p1 (by decide) (Or.inr rfl) (w_p1 (by decide) (Or.inr rfl) e1079)), (w_p1 (by decide) (Or.inr rfl) (w_e1 _ _ _)), (w_e1 _ _ _), by omega⟩ ⟨by omega, by omega⟩
              · have c897_ : v896.toInt = 0 := en_k_ne_f c897
                refine At.enter rfl ?_
                refine r_aload_n rfl ?_
                refine q_getR (Sh.ref hI0.1 kx_0 rfl) ?_
                refine r_iconst 0 rfl ?_
                refine r_callV 15 rfl [.ref 188, .int 0] [] (Nat.le_of_ble_eq_true rfl) rfl (T_X1_layOut_188 _ hI0 0) ?_
                rintro _ _ ⟨g1110, rfl, hI1111, hF1112, rfl⟩
                refine At.stn ?_
                have hF1115 := Fr.tr hF0 hF1112 rfl rfl
                refine At.enter rfl ?_
                refine r_aload_n rfl ?_
                refine q_getR (Sh.ref hI1111.1 kx_0 rfl) ?_
                refine r_callV 22 rfl [.ref 188] [] (Nat.le_of_ble_eq_true rfl) rfl (T_X1_runWhole_188 _ hI1111) ?_
                rintro _ _ ⟨g1116, rfl, hI1117, hF1118, rfl⟩
                refine At.stn ?_
                have hF1121 := Fr.tr hF1115 hF1118 rfl rfl
                refine At.enter rfl ?_
                refine r_aload_n rfl ?_
                refine r_iconst 1 rfl ?_
                refine q_putI (Sh.int hI1117.1 kx_0 rfl) rfl ?_
                have hI1122 := HI.wI0 hI1117 kx_0 rfl (p := 0) (b := 14) (v := 1) rfl
                have hF1123 := Fr.wI (p := 0) (b := 14) (v := 1) hF1121 rfl
                refine Ar.fall 27 rfl ?_
                refine At.enter rfl ?_
                refine r_aload_n rfl ?_
                refine q_getR (Sh.ref hI1122.1 kx_0 rfl) ?_
                refine q_aret ?_
                refine At.enter rfl ?_
                refine r_astore ([(4, .ref 188), (0, .ref 0), (1, .int a1), (2, .int a2), (3, .int a3)]) rfl ?_
                refine r_iconst 0 rfl ?_
                refine r_istore ([(5, .int 0), (4, .ref 188), (0, .ref 0), (1, .int a1), (2, .int a2), (3, .int a3)]) rfl ?_
                refine r_iconst 0 rfl ?_
                refine r_istore ([(6, .int 0), (5, .int 0), (4, .ref 188), (0, .ref 0), (1, .int a1), (2, .int a2), (3, .int a3)]) rfl ?_
                refine Ar.fall 44 rfl ?_
                have z_1309 : (0 : Int32).toInt = 0 := rfl
                have z_1310 : (0 : Int32).toInt = 0 := rfl
                refine w_loopI (fun n_ l_ g_ => ∃ x1293 : Int32, ∃ x1294 : Int32, n_ = 8 - x1294.toInt ∧ HI g_ ∧ Fr F_X10_held_0 A_X10_held_0 g0 g_ ∧ en_get 0 l_ = some (.ref 0) ∧ en_get 1 l_ = some (.int a1) ∧ en_get 2 l_ = some (.int a2) ∧ en_get 3 l_ = some (.int a3) ∧ en_get 4 l_ = some (.ref 188) ∧ en_get 5 l_ = some (.int x1293) ∧ en_get 6 l_ = some (.int x1294) ∧ (0 ≤ x1294.toInt ∧ x1294.toInt ≤ 8)) ?_ (8 - 0) ⟨0, 0, by first | rfl | omega, hI1122, hF1123, rfl, rfl, rfl, rfl, rfl, rfl, rfl, by decide⟩
                rintro n1299 l1298 g1295 ⟨x1293, x1294, hm1311, hI1296, hF1297, e1301, e1302, e1303, e1304, e1305, e1306, e1307, r1308⟩ ih1300
                refine At.enter rfl ?_
                refine r_iload e1307 ?_
                refine r_aload_n e1301 ?_
                refine q_getR (Sh.ref hI1296.1 kx_0 rfl) ?_
                obtain ⟨v1312, hv1312⟩ : ∃ v, gI g0 1 4 = v := ⟨_, rfl⟩
                have rv1312 := RgF.at hI0.2.1 (p := 1) (b := 4) rfl
                rw [hv1312] at rv1312
                dsimp only at rv1312
                refine q_getI (Sh.int hI1296.1 kx_1 rfl) v1312 ((hF1297.1 1 4 (by decide)).trans hv1312) ?_
                have bv1314 := q_bnd x1294
                have bv1315 := q_bnd v1312
                refine r_ics 56 rfl (fun c1313 => ?_) (fun c1313 => ?_)
                · have c1313_ : x1294.toInt ≥ v1312.toInt := en_i_ge_t c1313
                  refine At.enter rfl ?_
                  refine r_iload e1306 ?_
                  refine r_ireti ?_
                  exact ⟨_, rfl, hI1296, hF1297, _, rfl, trivial⟩
                · have c1313_ : x1294.toInt < v1312.toInt := en_i_ge_f c1313
                  refine At.enter rfl ?_
                  refine r_aload e1305 ?_
                  refine r_iload e1307 ?_
                  refine r_iload_n e1303 ?_
                  refine q_inlV 64 rfl [.ref 188, .int x1294, .int a2] [] (Nat.le_of_ble_eq_true rfl) rfl ?_
                  refine Ev.mk rfl rfl ⟨Nat.le_of_ble_eq_true rfl, Or.inr (q_rc hI1296.1 kx_188 rfl)⟩ ?_
                  show At _ none _ _ (0, [(0, .ref 188), (1, .int x1294), (2, .int a2)], [], (_, _)) _
                  refine At.enter rfl ?_
                  refine r_aload_n rfl ?_
                  refine q_getR (Sh.ref hI1296.1 kx_188 rfl) ?_
                  refine r_iload_n rfl ?_
                  refine r_bipush 8 rfl ?_
                  refine q_imul (a2.toInt * 8) rfl (by omega) (fun v1316 hv1316 => ?_)
                  refine r_iload_n rfl ?_
                  refine q_iadd (v1316.toInt + x1294.toInt) rfl (by omega) (fun v1317 hv1317 => ?_)
                  obtain ⟨v1318, hv1318⟩ : ∃ v, eA g1295 203 (8 * a2.toInt + x1294.toInt) = v := ⟨_, rfl⟩
                  refine q_iald (Sh.arr hI1296.1 ka_203) (8 * a2.toInt + x1294.toInt) (by omega) (by omega) v1318 hv1318 ?_
                  refine q_ireti ?_
                  refine At.enter rfl ?_
                  refine r_iload_n e1302 ?_
                  refine r_ics 68 rfl (fun c1319 => ?_) (fun c1319 => ?_)
                  · have c1319_ : v1318.toInt ≠ a1.toInt := en_i_ne_t c1319
                    refine At.enter rfl ?_
                    refine q_iinc e1307 (x1294.toInt + 1) rfl (by omega) (fun v1320 hv1320 => ?_)
                    refine r_goto ?_
                    have bv1321 := q_bnd x1293
                    exact ih1300 (8 - v1320.toInt) _ _ ⟨x1293, v1320, by first | rfl | omega, hI1296, hF1297, (w_p1 (by decide) (Or.inr rfl) e1301), (w_p1 (by decide) (Or.inr rfl) e1302), (w_p1 (by decide) (Or.inr rfl) e1303), (w_p1 (by decide) (Or.inr rfl) e1304), (w_p1 (by decide) (Or.inr rfl) e1305), (w_p1 (by decide) (Or.inr rfl) e1306), (w_e1 _ _ _), by omega⟩ ⟨by omega, by omega⟩
                  · have c1319_ : v1318.toInt = a1.toInt := en_i_ne_f c1319
                    refine At.enter rfl ?_
                    refine r_iload e1306 ?_
                    refine r_iload_n e1304 ?_
                    refine r_ifs 74 rfl (fun c1322 => ?_) (fun c1322 => ?_)
                    · have c1322_ : a3.toInt ≠ 0 := en_k_ne_t c1322
                      refine At.enter rfl ?_
                      refine r_aload_n e1301 ?_
                      refine q_getR (Sh.ref hI1296.1 kx_0 rfl) ?_
                      refine r_iload e1307 ?_
                      refine r_iconst 0 rfl ?_
                      refine r_callV 88 rfl [.ref 1, .int x1294, .int 0] [.int x1293] (Nat.le_of_ble_eq_true rfl) rfl (T_X0_about_1 _ hI1296 x1294 0) ?_
                      rintro _ _ ⟨g1323, rfl, hI1324, hF1325, v1326, rfl, hr1327⟩
                      refine At.sti ?_
                      have hF1328 := Fr.tr hF1297 hF1325 rfl rfl
                      have zv1329 : (0 : Int32).toInt = 0 := rfl
                      refine At.enter rfl ?_
                      refine q_iaddO (fun v1330 _ => ?_)
                      refine r_istore _ rfl ?_
                      refine Ar.fall 91 rfl ?_
                      refine At.enter rfl ?_
                      refine q_iinc (w_p1 (by decide) (Or.inr rfl) e1307) (x1294.toInt + 1) rfl (by omega) (fun v1331 hv1331 => ?_)
                      refine r_goto ?_
                      have bv1332 := q_bnd v1330
                      exact ih1300 (8 - v1331.toInt) _ _ ⟨v1330, v1331, by first | rfl | omega, hI1324, hF1328, (w_p1 (by decide) (Or.inr rfl) (w_p1 (by decide) (Or.inr rfl) e1301)), (w_p1 (by decide) (Or.inr rfl) (w_p1 (by decide) (Or.inr rfl) e1302)), (w_p1 (by decide) (Or.inr rfl) (w_p1 (by decide) (Or.inr rfl) e1303)), (w_p1 (by decide) (Or.inr rfl) (w_p1 (by decide) (Or.inr rfl) e1304)), (w_p1 (by decide) (Or.inr rfl) (w_p1 (by decide) (Or.inr rfl) e1305)), (w_p1 (by decide) (Or.inr rfl) (w_e1 _ _ _)), (w_e1 _ _ _), by omega⟩ ⟨by omega, by omega⟩
                    · have c1322_ : a3.toInt = 0 := en_k_ne_f c1322
                      refine At.enter rfl ?_
                      refine r_iconst 1 rfl ?_
                      refine r_goto ?_
                      refine At.enter rfl ?_
                      refine q_iaddO (fun v1333 _ => ?_)
                      refine r_istore _ rfl ?_
                      refine Ar.fall 91 rfl ?_
                      refine At.enter rfl ?_
                      refine q_iinc (w_p1 (by decide) (Or.inr rfl) e1307) (x1294.toInt + 1) rfl (by omega) (fun v1334 hv1334 => ?_)
                      refine r_goto ?_
                      have bv1335 := q_bnd v1333
                      exact ih1300 (8 - v1334.toInt) _ _ ⟨v1333, v1334, by first | rfl | omega, hI1296, hF1297, (w_p1 (by decide) (Or.inr rfl) (w_p1 (by decide) (Or.inr rfl) e1301)), (w_p1 (by decide) (Or.inr rfl) (w_p1 (by decide) (Or.inr rfl) e1302)), (w_p1 (by decide) (Or.inr rfl) (w_p1 (by decide) (Or.inr rfl) e1303)), (w_p1 (by decide) (Or.inr rfl) (w_p1 (by decide) (Or.inr rfl) e1304)), (w_p1 (by decide) (Or.inr rfl) (w_p1 (by decide) (Or.inr rfl) e1305)), (w_p1 (by decide) (Or.inr rfl) (w_e1 _ _ _)), (w_e1 _ _ _), by omega⟩ ⟨by omega, by omega⟩

def F_X10_choke_0 : List (Nat × Nat) := [(0, 14), (185, 3), (188, 16), (188, 18)]
def A_X10_choke_0 : List Nat := [189, 190, 191, 192, 193, 194, 195, 196, 197, 198, 199, 200, 202, 203]
set_option maxRecDepth 100000 in
set_option maxHeartbeats 4000000 in
theorem T_X10_choke_0 (d : Nat) {N : Nat} {g0 : List en_E} (hI0 : HI g0) : Ev (d + 7) 123 [.ref 0] (g0, N) (fun w h' => ∃ g', h' = (g', N) ∧ HI g' ∧ Fr F_X10_choke_0 A_X10_choke_0 g0 g' ∧ ∃ r : Int32, w = some (.int r) ∧ True) := by
  have hF0 : Fr F_X10_choke_0 A_X10_choke_0 g0 g0 := Fr.rf
  refine Ev.mk rfl rfl ⟨Nat.le_of_ble_eq_true rfl, Or.inr (q_rc hI0.1 kx_0 rfl)⟩ ?_
  show At _ none _ _ (0, [(0, .ref 0)], [], (_, _)) _
  refine At.enter rfl ?_
  refine r_aload_n rfl ?_
  refine q_inlV 4 rfl [.ref 0] [] (Nat.le_of_ble_eq_true rfl) rfl ?_
  refine Ev.mk rfl rfl ⟨Nat.le_of_ble_eq_true rfl, Or.inr (q_rc hI0.1 kx_0 rfl)⟩ ?_
  show At _ none _ _ (0, [(0, .ref 0)], [], (_, _)) _
  refine At.enter rfl ?_
  refine r_aload_n rfl ?_
  obtain ⟨v57, hv57⟩ : ∃ v, gI g0 0 14 = v := ⟨_, rfl⟩
  refine q_getI (Sh.int hI0.1 kx_0 rfl) v57 hv57 ?_
  refine r_ifs 7 rfl (fun c58 => ?_) (fun c58 => ?_)
  · have c58_ : v57.toInt ≠ 0 := en_k_ne_t c58
    refine At.enter rfl ?_
    refine r_aload_n rfl ?_
    refine q_getR (Sh.ref hI0.1 kx_0 rfl) ?_
    refine q_aret ?_
    refine At.enter rfl ?_
    refine r_callV 7 rfl [.ref 188] [] (Nat.le_of_ble_eq_true rfl) rfl (T_X1_chokingRound_188 _ hI0) ?_
    rintro _ _ ⟨g59, rfl, hI60, hF61, v62, rfl, hr63⟩
    refine At.sti ?_
    have hF64 := Fr.tr hF0 hF61 rfl rfl
    refine At.enter rfl ?_
    refine r_ireti ?_
    exact ⟨_, rfl, hI60, hF64, _, rfl, trivial⟩
  · have c58_ : v57.toInt = 0 := en_k_ne_f c58
    refine At.enter rfl ?_
    refine r_aload_n rfl ?_
    refine q_getR (Sh.ref hI0.1 kx_0 rfl) ?_
    refine r_iconst 0 rfl ?_
    refine r_callV 15 rfl [.ref 188, .int 0] [] (Nat.le_of_ble_eq_true rfl) rfl (T_X1_layOut_188 _ hI0 0) ?_
    rintro _ _ ⟨g65, rfl, hI66, hF67, rfl⟩
    refine At.stn ?_
    have hF70 := Fr.tr hF0 hF67 rfl rfl
    refine At.enter rfl ?_
    refine r_aload_n rfl ?_
    refine q_getR (Sh.ref hI66.1 kx_0 rfl) ?_
    refine r_callV 22 rfl [.ref 188] [] (Nat.le_of_ble_eq_true rfl) rfl (T_X1_runWhole_188 _ hI66) ?_
    rintro _ _ ⟨g71, rfl, hI72, hF73, rfl⟩
    refine At.stn ?_
    have hF76 := Fr.tr hF70 hF73 rfl rfl
    refine At.enter rfl ?_
    refine r_aload_n rfl ?_
    refine r_iconst 1 rfl ?_
    refine q_putI (Sh.int hI72.1 kx_0 rfl) rfl ?_
    have hI77 := HI.wI0 hI72 kx_0 rfl (p := 0) (b := 14) (v := 1) rfl
    have hF78 := Fr.wI (p := 0) (b := 14) (v := 1) hF76 rfl
    refine Ar.fall 27 rfl ?_
    refine At.enter rfl ?_
    refine r_aload_n rfl ?_
    refine q_getR (Sh.ref hI77.1 kx_0 rfl) ?_
    refine q_aret ?_
    refine At.enter rfl ?_
    refine r_callV 7 rfl [.ref 188] [] (Nat.le_of_ble_eq_true rfl) rfl (T_X1_chokingRound_188 _ hI77) ?_
    rintro _ _ ⟨g79, rfl, hI80, hF81, v82, rfl, hr83⟩
    refine At.sti ?_
    have hF84 := Fr.tr hF78 hF81 rfl rfl
    refine At.enter rfl ?_
    refine r_ireti ?_
    exact ⟨_, rfl, hI80, hF84, _, rfl, trivial⟩

def F_X10_swaps_0 : List (Nat × Nat) := [(185, 3), (204, 16), (204, 18), (220, 2), (220, 3), (220, 4)]
def A_X10_swaps_0 : List Nat := [205, 206, 207, 208, 209, 210, 211, 212, 213, 214, 215, 216, 218, 221]
set_option maxRecDepth 100000 in
set_option maxHeartbeats 4000000 in
theorem T_X10_swaps_0 (d : Nat) {N : Nat} {g0 : List en_E} (hI0 : HI g0) (a1 : Int32) (a2 : Int32) : Ev (d + 8) 124 [.ref 0, .int a1, .int a2] (g0, N) (fun w h' => ∃ g', h' = (g', N) ∧ HI g' ∧ Fr F_X10_swaps_0 A_X10_swaps_0 g0 g' ∧ ∃ r : Int32, w = some (.int r) ∧ True) := by
  have hF0 : Fr F_X10_swaps_0 A_X10_swaps_0 g0 g0 := Fr.rf
  refine Ev.mk rfl rfl ⟨Nat.le_of_ble_eq_true rfl, Or.inr (q_rc hI0.1 kx_0 rfl)⟩ ?_
  show At _ none _ _ (0, [(0, .ref 0), (1, .int a1), (2, .int a2)], [], (_, _)) _
  refine At.enter rfl ?_
  refine r_iload_n rfl ?_
  refine r_aload_n rfl ?_
  refine q_getR (Sh.ref hI0.1 kx_0 rfl) ?_
  obtain ⟨v21, hv21⟩ : ∃ v, gI g0 1 4 = v := ⟨_, rfl⟩
  have rv21 := RgF.at hI0.2.1 (p := 1) (b := 4) rfl
  rw [hv21] at rv21
  dsimp only at rv21
  refine q_getI (Sh.int hI0.1 kx_1 rfl) v21 hv21 ?_
  refine q_inlS 11 rfl [.int a1, .int v21] [] (Nat.le_of_ble_eq_true rfl) rfl ?_
  refine Ev.mk rfl rfl ⟨Nat.le_of_ble_eq_true rfl, Or.inl rfl⟩ ?_
  show At _ none _ _ (0, [(0, .int a1), (1, .int v21)], [], (_, _)) _
  refine At.enter rfl ?_
  refine r_iload_n rfl ?_
  refine r_ifs 4 rfl (fun c22 => ?_) (fun c22 => ?_)
  · have c22_ : a1.toInt < 0 := en_k_lt_t c22
    refine At.enter rfl ?_
    refine r_iconst 0 rfl ?_
    refine Ar.fall 15 rfl ?_
    refine At.enter rfl ?_
    refine q_iretz (by decide) ?_
    refine At.enter rfl ?_
    refine r_ift (by decide) ?_
    refine At.enter rfl ?_
    refine r_iconst (-1) rfl ?_
    refine Ar.fall 27 rfl ?_
    refine At.enter rfl ?_
    refine r_ireti ?_
    exact ⟨_, rfl, hI0, hF0, _, rfl, trivial⟩
  · have c22_ : a1.toInt ≥ 0 := en_k_lt_f c22
    refine At.enter rfl ?_
    refine r_iload_n rfl ?_
    refine r_iload_n rfl ?_
    refine q_ishrO (fun v23 hv23 => ?_)
    refine r_ifs 10 rfl (fun c24 => ?_) (fun c24 => ?_)
    · have c24_ : v23.toInt ≠ 0 := en_k_ne_t c24
      refine At.enter rfl ?_
      refine r_iconst 0 rfl ?_
      refine Ar.fall 15 rfl ?_
      refine At.enter rfl ?_
      refine q_iretz (by decide) ?_
      refine At.enter rfl ?_
      refine r_ift (by decide) ?_
      refine At.enter rfl ?_
      refine r_iconst (-1) rfl ?_
      refine Ar.fall 27 rfl ?_
      refine At.enter rfl ?_
      refine r_ireti ?_
      exact ⟨_, rfl, hI0, hF0, _, rfl, trivial⟩
    · have c24_ : v23.toInt = 0 := en_k_ne_f c24
      refine At.enter rfl ?_
      refine r_iconst 1 rfl ?_
      refine r_goto ?_
      refine At.enter rfl ?_
      refine q_iretz (by decide) ?_
      refine At.enter rfl ?_
      refine r_iff 14 rfl (by decide) ?_
      refine At.enter rfl ?_
      refine r_aload_n rfl ?_
      refine q_getR (Sh.ref hI0.1 kx_0 rfl) ?_
      refine r_iload_n rfl ?_
      refine r_iload_n rfl ?_
      refine r_callV 23 rfl [.ref 220, .int a1, .int a2] [] (Nat.le_of_ble_eq_true rfl) rfl (T_X7_told_220 _ hI0 a1 a2) ?_
      rintro _ _ ⟨g25, rfl, hI26, hF27, v28, rfl, hr29⟩
      refine At.sti ?_
      have hF30 := Fr.tr hF0 hF27 rfl rfl
      refine At.enter rfl ?_
      refine r_goto ?_
      refine At.enter rfl ?_
      refine r_ireti ?_
      exact ⟨_, rfl, hI26, hF30, _, rfl, trivial⟩

def F_X10_swap_0 : List (Nat × Nat) := [(0, 14), (0, 17), (220, 2), (222, 2), (223, 5), (223, 10)]
def A_X10_swap_0 : List Nat := [3, 4, 230]
set_option maxRecDepth 100000 in
set_option maxHeartbeats 4000000 in
theorem T_X10_swap_0 (d : Nat) {N : Nat} {g0 : List en_E} (hI0 : HI g0) (a1 : Int32) (a2 : Int32) : Ev (d + 3) 125 [.ref 0, .int a1, .int a2] (g0, N) (fun w h' => ∃ g', h' = (g', N) ∧ HI g' ∧ Fr F_X10_swap_0 A_X10_swap_0 g0 g' ∧ ∃ r : Int32, w = some (.int r) ∧ ((-3) ≤ r.toInt ∧ r.toInt ≤ 0) ∧ (((¬ (0 ≤ a1.toInt ∧ a1.toInt < (gI g0 1 0).toInt ∧ 0 ≤ a2.toInt ∧ a2.toInt < (gI g0 1 0).toInt) → r.toInt = -2) ∧ ((0 ≤ a1.toInt ∧ a1.toInt < (gI g0 1 0).toInt ∧ 0 ≤ a2.toInt ∧ a2.toInt < (gI g0 1 0).toInt) ∧ a1.toInt = a2.toInt → r.toInt = -3) ∧ ((0 ≤ a1.toInt ∧ a1.toInt < (gI g0 1 0).toInt ∧ 0 ≤ a2.toInt ∧ a2.toInt < (gI g0 1 0).toInt) ∧ a1.toInt ≠ a2.toInt → r.toInt = 0)) ∧ (∀ i : Int, 0 ≤ i → i < 12 → (eA g' 3 (i)).toInt = if (0 ≤ a1.toInt ∧ a1.toInt < (gI g0 1 0).toInt ∧ 0 ≤ a2.toInt ∧ a2.toInt < (gI g0 1 0).toInt ∧ a1.toInt ≠ a2.toInt) ∧ i = a1.toInt then (eA g0 3 a2.toInt).toInt else if (0 ≤ a1.toInt ∧ a1.toInt < (gI g0 1 0).toInt ∧ 0 ≤ a2.toInt ∧ a2.toInt < (gI g0 1 0).toInt ∧ a1.toInt ≠ a2.toInt) ∧ i = a2.toInt then (eA g0 3 a1.toInt).toInt else (eA g0 3 (i)).toInt) ∧ (∀ i : Int, 0 ≤ i → i < 12 → (eA g' 4 (i)).toInt = if (0 ≤ a1.toInt ∧ a1.toInt < (gI g0 1 0).toInt ∧ 0 ≤ a2.toInt ∧ a2.toInt < (gI g0 1 0).toInt ∧ a1.toInt ≠ a2.toInt) ∧ i = a1.toInt then (eA g0 4 a2.toInt).toInt else if (0 ≤ a1.toInt ∧ a1.toInt < (gI g0 1 0).toInt ∧ 0 ≤ a2.toInt ∧ a2.toInt < (gI g0 1 0).toInt ∧ a1.toInt ≠ a2.toInt) ∧ i = a2.toInt then (eA g0 4 a1.toInt).toInt else (eA g0 4 (i)).toInt))) := by
  have hF0 : Fr F_X10_swap_0 A_X10_swap_0 g0 g0 := Fr.rf
  refine Ev.mk rfl rfl ⟨Nat.le_of_ble_eq_true rfl, Or.inr (q_rc hI0.1 kx_0 rfl)⟩ ?_
  show At _ none _ _ (0, [(0, .ref 0), (1, .int a1), (2, .int a2)], [], (_, _)) _
  refine At.enter rfl ?_
  refine r_aload_n rfl ?_
  refine q_getR (Sh.ref hI0.1 kx_0 rfl) ?_
  refine r_iload_n rfl ?_
  refine q_inlV 8 rfl [.ref 1, .int a1] [] (Nat.le_of_ble_eq_true rfl) rfl ?_
  refine Ev.mk rfl rfl ⟨Nat.le_of_ble_eq_true rfl, Or.inr (q_rc hI0.1 kx_1 rfl)⟩ ?_
  show At _ none _ _ (0, [(0, .ref 1), (1, .int a1)], [], (_, _)) _
  refine At.enter rfl ?_
  refine r_iload_n rfl ?_
  refine r_ifs 4 rfl (fun c129 => ?_) (fun c129 => ?_)
  · have c129_ : a1.toInt < 0 := en_k_lt_t c129
    refine At.enter rfl ?_
    refine r_iconst 0 rfl ?_
    refine Ar.fall 17 rfl ?_
    refine At.enter rfl ?_
    refine q_iretz (by decide) ?_
    refine At.enter rfl ?_
    refine r_ift (by decide) ?_
    refine At.enter rfl ?_
    refine r_aload_n rfl ?_
    refine r_bipush (-2) rfl ?_
    refine r_callV 28 rfl [.ref 0, .int (-2)] [] (Nat.le_of_ble_eq_true rfl) rfl (T_X10_refused_0 _ hI0 (-2) (by decide)) ?_
    rintro _ _ ⟨g130, rfl, hI131, hF132, v133, rfl, hr134⟩
    refine At.sti ?_
    have hF135 := Fr.tr hF0 hF132 rfl rfl
    have zv136 : ((-2) : Int32).toInt = (-2) := rfl
    refine At.enter rfl ?_
    refine r_ireti ?_
    obtain ⟨v137, hv137⟩ : ∃ v, gI g0 1 0 = v := ⟨_, rfl⟩
    have rv137 := RgF.at hI0.2.1 (p := 1) (b := 0) rfl
    rw [hv137] at rv137
    dsimp only at rv137
    have tv137 := congrArg Int32.toInt hv137
    have x138 := HI.eqI hI0 (p := 1) (b := 0) (hv137)
    have x139 := HI.eqI hI0 (p := 1) (b := 0) (hv137)
    exact ⟨_, rfl, hI131, hF135, _, rfl, by omega, ⟨(by omega), (by intro i i0 i1; refine Eq.trans ?_ (if_neg (show ¬ ((0 ≤ a1.toInt ∧ a1.toInt < (gI g0 1 0).toInt ∧ 0 ≤ a2.toInt ∧ a2.toInt < (gI g0 1 0).toInt ∧ a1.toInt ≠ a2.toInt) ∧ i = a1.toInt) from by omega)).symm; refine Eq.trans ?_ (if_neg (show ¬ ((0 ≤ a1.toInt ∧ a1.toInt < (gI g0 1 0).toInt ∧ 0 ≤ a2.toInt ∧ a2.toInt < (gI g0 1 0).toInt ∧ a1.toInt ≠ a2.toInt) ∧ i = a2.toInt) from by omega)).symm; refine (eA_ti ((hF132.2.1 3 (by decide)))).trans ?_; (first | rfl | exact eA_ix (by omega) | omega)), (by intro i i0 i1; refine Eq.trans ?_ (if_neg (show ¬ ((0 ≤ a1.toInt ∧ a1.toInt < (gI g0 1 0).toInt ∧ 0 ≤ a2.toInt ∧ a2.toInt < (gI g0 1 0).toInt ∧ a1.toInt ≠ a2.toInt) ∧ i = a1.toInt) from by omega)).symm; refine Eq.trans ?_ (if_neg (show ¬ ((0 ≤ a1.toInt ∧ a1.toInt < (gI g0 1 0).toInt ∧ 0 ≤ a2.toInt ∧ a2.toInt < (gI g0 1 0).toInt ∧ a1.toInt ≠ a2.toInt) ∧ i = a2.toInt) from by omega)).symm; refine (eA_ti ((hF132.2.1 4 (by decide)))).trans ?_; (first | rfl | exact eA_ix (by omega) | omega))⟩⟩
  · have c129_ : a1.toInt ≥ 0 := en_k_lt_f c129
    refine At.enter rfl ?_
    refine r_iload_n rfl ?_
    refine r_aload_n rfl ?_
    obtain ⟨v140, hv140⟩ : ∃ v, gI g0 1 0 = v := ⟨_, rfl⟩
    have rv140 := RgF.at hI0.2.1 (p := 1) (b := 0) rfl
    rw [hv140] at rv140
    dsimp only at rv140
    refine q_getI (Sh.int hI0.1 kx_1 rfl) v140 hv140 ?_
    have bv142 := q_bnd a1
    have bv143 := q_bnd v140
    refine r_ics 12 rfl (fun c141 => ?_) (fun c141 => ?_)
    · have c141_ : a1.toInt ≥ v140.toInt := en_i_ge_t c141
      refine At.enter rfl ?_
      refine r_iconst 0 rfl ?_
      refine Ar.fall 17 rfl ?_
      refine At.enter rfl ?_
      refine q_iretz (by decide) ?_
      refine At.enter rfl ?_
      refine r_ift (by decide) ?_
      refine At.enter rfl ?_
      refine r_aload_n rfl ?_
      refine r_bipush (-2) rfl ?_
      refine r_callV 28 rfl [.ref 0, .int (-2)] [] (Nat.le_of_ble_eq_true rfl) rfl (T_X10_refused_0 _ hI0 (-2) (by decide)) ?_
      rintro _ _ ⟨g144, rfl, hI145, hF146, v147, rfl, hr148⟩
      refine At.sti ?_
      have hF149 := Fr.tr hF0 hF146 rfl rfl
      have zv150 : ((-2) : Int32).toInt = (-2) := rfl
      refine At.enter rfl ?_
      refine r_ireti ?_
      have x151 := HI.eqI hI0 (p := 1) (b := 0) (hv140)
      have x152 := HI.eqI hI0 (p := 1) (b := 0) (hv140)
      exact ⟨_, rfl, hI145, hF149, _, rfl, by omega, ⟨(by omega), (by intro i i0 i1; refine Eq.trans ?_ (if_neg (show ¬ ((0 ≤ a1.toInt ∧ a1.toInt < (gI g0 1 0).toInt ∧ 0 ≤ a2.toInt ∧ a2.toInt < (gI g0 1 0).toInt ∧ a1.toInt ≠ a2.toInt) ∧ i = a1.toInt) from by omega)).symm; refine Eq.trans ?_ (if_neg (show ¬ ((0 ≤ a1.toInt ∧ a1.toInt < (gI g0 1 0).toInt ∧ 0 ≤ a2.toInt ∧ a2.toInt < (gI g0 1 0).toInt ∧ a1.toInt ≠ a2.toInt) ∧ i = a2.toInt) from by omega)).symm; refine (eA_ti ((hF146.2.1 3 (by decide)))).trans ?_; (first | rfl | exact eA_ix (by omega) | omega)), (by intro i i0 i1; refine Eq.trans ?_ (if_neg (show ¬ ((0 ≤ a1.toInt ∧ a1.toInt < (gI g0 1 0).toInt ∧ 0 ≤ a2.toInt ∧ a2.toInt < (gI g0 1 0).toInt ∧ a1.toInt ≠ a2.toInt) ∧ i = a1.toInt) from by omega)).symm; refine Eq.trans ?_ (if_neg (show ¬ ((0 ≤ a1.toInt ∧ a1.toInt < (gI g0 1 0).toInt ∧ 0 ≤ a2.toInt ∧ a2.toInt < (gI g0 1 0).toInt ∧ a1.toInt ≠ a2.toInt) ∧ i = a2.toInt) from by omega)).symm; refine (eA_ti ((hF146.2.1 4 (by decide)))).trans ?_; (first | rfl | exact eA_ix (by omega) | omega))⟩⟩
    · have c141_ : a1.toInt < v140.toInt := en_i_ge_f c141
      refine At.enter rfl ?_
      refine r_iconst 1 rfl ?_
      refine r_goto ?_
      refine At.enter rfl ?_
      refine q_iretz (by decide) ?_
      refine At.enter rfl ?_
      refine r_iff 11 rfl (by decide) ?_
      refine At.enter rfl ?_
      refine r_aload_n rfl ?_
      refine q_getR (Sh.ref hI0.1 kx_0 rfl) ?_
      refine r_iload_n rfl ?_
      refine q_inlV 19 rfl [.ref 1, .int a2] [] (Nat.le_of_ble_eq_true rfl) rfl ?_
      refine Ev.mk rfl rfl ⟨Nat.le_of_ble_eq_true rfl, Or.inr (q_rc hI0.1 kx_1 rfl)⟩ ?_
      show At _ none _ _ (0, [(0, .ref 1), (1, .int a2)], [], (_, _)) _
      refine At.enter rfl ?_
      refine r_iload_n rfl ?_
      refine r_ifs 4 rfl (fun c153 => ?_) (fun c153 => ?_)
      · have c153_ : a2.toInt < 0 := en_k_lt_t c153
        refine At.enter rfl ?_
        refine r_iconst 0 rfl ?_
        refine Ar.fall 17 rfl ?_
        refine At.enter rfl ?_
        refine q_iretz (by decide) ?_
        refine At.enter rfl ?_
        refine r_iff 22 rfl (by decide) ?_
        refine At.enter rfl ?_
        refine r_aload_n rfl ?_
        refine r_bipush (-2) rfl ?_
        refine r_callV 28 rfl [.ref 0, .int (-2)] [] (Nat.le_of_ble_eq_true rfl) rfl (T_X10_refused_0 _ hI0 (-2) (by decide)) ?_
        rintro _ _ ⟨g154, rfl, hI155, hF156, v157, rfl, hr158⟩
        refine At.sti ?_
        have hF159 := Fr.tr hF0 hF156 rfl rfl
        have zv160 : ((-2) : Int32).toInt = (-2) := rfl
        refine At.enter rfl ?_
        refine r_ireti ?_
        have x161 := HI.eqI hI0 (p := 1) (b := 0) (hv140)
        have x162 := HI.eqI hI0 (p := 1) (b := 0) (hv140)
        exact ⟨_, rfl, hI155, hF159, _, rfl, by omega, ⟨(by omega), (by intro i i0 i1; refine Eq.trans ?_ (if_neg (show ¬ ((0 ≤ a1.toInt ∧ a1.toInt < (gI g0 1 0).toInt ∧ 0 ≤ a2.toInt ∧ a2.toInt < (gI g0 1 0).toInt ∧ a1.toInt ≠ a2.toInt) ∧ i = a1.toInt) from by omega)).symm; refine Eq.trans ?_ (if_neg (show ¬ ((0 ≤ a1.toInt ∧ a1.toInt < (gI g0 1 0).toInt ∧ 0 ≤ a2.toInt ∧ a2.toInt < (gI g0 1 0).toInt ∧ a1.toInt ≠ a2.toInt) ∧ i = a2.toInt) from by omega)).symm; refine (eA_ti ((hF156.2.1 3 (by decide)))).trans ?_; (first | rfl | exact eA_ix (by omega) | omega)), (by intro i i0 i1; refine Eq.trans ?_ (if_neg (show ¬ ((0 ≤ a1.toInt ∧ a1.toInt < (gI g0 1 0).toInt ∧ 0 ≤ a2.toInt ∧ a2.toInt < (gI g0 1 0).toInt ∧ a1.toInt ≠ a2.toInt) ∧ i = a1.toInt) from by omega)).symm; refine Eq.trans ?_ (if_neg (show ¬ ((0 ≤ a1.toInt ∧ a1.toInt < (gI g0 1 0).toInt ∧ 0 ≤ a2.toInt ∧ a2.toInt < (gI g0 1 0).toInt ∧ a1.toInt ≠ a2.toInt) ∧ i = a2.toInt) from by omega)).symm; refine (eA_ti ((hF156.2.1 4 (by decide)))).trans ?_; (first | rfl | exact eA_ix (by omega) | omega))⟩⟩
      · have c153_ : a2.toInt ≥ 0 := en_k_lt_f c153
        refine At.enter rfl ?_
        refine r_iload_n rfl ?_
        refine r_aload_n rfl ?_
        refine q_getI (Sh.int hI0.1 kx_1 rfl) v140 hv140 ?_
        have bv164 := q_bnd a2
        refine r_ics 12 rfl (fun c163 => ?_) (fun c163 => ?_)
        · have c163_ : a2.toInt ≥ v140.toInt := en_i_ge_t c163
          refine At.enter rfl ?_
          refine r_iconst 0 rfl ?_
          refine Ar.fall 17 rfl ?_
          refine At.enter rfl ?_
          refine q_iretz (by decide) ?_
          refine At.enter rfl ?_
          refine r_iff 22 rfl (by decide) ?_
          refine At.enter rfl ?_
          refine r_aload_n rfl ?_
          refine r_bipush (-2) rfl ?_
          refine r_callV 28 rfl [.ref 0, .int (-2)] [] (Nat.le_of_ble_eq_true rfl) rfl (T_X10_refused_0 _ hI0 (-2) (by decide)) ?_
          rintro _ _ ⟨g165, rfl, hI166, hF167, v168, rfl, hr169⟩
          refine At.sti ?_
          have hF170 := Fr.tr hF0 hF167 rfl rfl
          have zv171 : ((-2) : Int32).toInt = (-2) := rfl
          refine At.enter rfl ?_
          refine r_ireti ?_
          have x172 := HI.eqI hI0 (p := 1) (b := 0) (hv140)
          have x173 := HI.eqI hI0 (p := 1) (b := 0) (hv140)
          exact ⟨_, rfl, hI166, hF170, _, rfl, by omega, ⟨(by omega), (by intro i i0 i1; refine Eq.trans ?_ (if_neg (show ¬ ((0 ≤ a1.toInt ∧ a1.toInt < (gI g0 1 0).toInt ∧ 0 ≤ a2.toInt ∧ a2.toInt < (gI g0 1 0).toInt ∧ a1.toInt ≠ a2.toInt) ∧ i = a1.toInt) from by omega)).symm; refine Eq.trans ?_ (if_neg (show ¬ ((0 ≤ a1.toInt ∧ a1.toInt < (gI g0 1 0).toInt ∧ 0 ≤ a2.toInt ∧ a2.toInt < (gI g0 1 0).toInt ∧ a1.toInt ≠ a2.toInt) ∧ i = a2.toInt) from by omega)).symm; refine (eA_ti ((hF167.2.1 3 (by decide)))).trans ?_; (first | rfl | exact eA_ix (by omega) | omega)), (by intro i i0 i1; refine Eq.trans ?_ (if_neg (show ¬ ((0 ≤ a1.toInt ∧ a1.toInt < (gI g0 1 0).toInt ∧ 0 ≤ a2.toInt ∧ a2.toInt < (gI g0 1 0).toInt ∧ a1.toInt ≠ a2.toInt) ∧ i = a1.toInt) from by omega)).symm; refine Eq.trans ?_ (if_neg (show ¬ ((0 ≤ a1.toInt ∧ a1.toInt < (gI g0 1 0).toInt ∧ 0 ≤ a2.toInt ∧ a2.toInt < (gI g0 1 0).toInt ∧ a1.toInt ≠ a2.toInt) ∧ i = a2.toInt) from by omega)).symm; refine (eA_ti ((hF167.2.1 4 (by decide)))).trans ?_; (first | rfl | exact eA_ix (by omega) | omega))⟩⟩
        · have c163_ : a2.toInt < v140.toInt := en_i_ge_f c163
          refine At.enter rfl ?_
          refine r_iconst 1 rfl ?_
          refine r_goto ?_
          refine At.enter rfl ?_
          refine q_iretz (by decide) ?_
          refine At.enter rfl ?_
          refine r_ift (by decide) ?_
          refine At.enter rfl ?_
          refine r_iload_n rfl ?_
          refine r_iload_n rfl ?_
          refine r_ics 34 rfl (fun c174 => ?_) (fun c174 => ?_)
          · have c174_ : a1.toInt ≠ a2.toInt := en_i_ne_t c174
            refine At.enter rfl ?_
            refine r_aload_n rfl ?_
            refine q_getR (Sh.ref hI0.1 kx_0 rfl) ?_
            refine q_getR (Sh.ref hI0.1 kx_1 rfl) ?_
            refine r_iload_n rfl ?_
            refine r_iload_n rfl ?_
            refine q_inlS 53 rfl [.ref 3, .int a1, .int a2] [] (Nat.le_of_ble_eq_true rfl) rfl ?_
            refine Ev.mk rfl rfl ⟨Nat.le_of_ble_eq_true rfl, Or.inl rfl⟩ ?_
            show At _ none _ _ (0, [(0, .ref 3), (1, .int a1), (2, .int a2)], [], (_, _)) _
            refine At.enter rfl ?_
            refine r_aload_n rfl ?_
            refine r_iload_n rfl ?_
            obtain ⟨v175, hv175⟩ : ∃ v, eA g0 3 a1.toInt = v := ⟨_, rfl⟩
            refine q_iald (Sh.arr hI0.1 ka_3) a1.toInt rfl (by omega) v175 hv175 ?_
            refine r_istore_n ([(3, .int v175), (0, .ref 3), (1, .int a1), (2, .int a2)]) rfl ?_
            refine r_aload_n rfl ?_
            refine r_iload_n rfl ?_
            refine r_aload_n rfl ?_
            refine r_iload_n rfl ?_
            obtain ⟨v176, hv176⟩ : ∃ v, eA g0 3 a2.toInt = v := ⟨_, rfl⟩
            refine q_iald (Sh.arr hI0.1 ka_3) a2.toInt rfl (by omega) v176 hv176 ?_
            refine q_iast (Sh.arr hI0.1 ka_3) (a1.toInt) rfl (by omega) ?_
            have hI177 := HI.wA0 hI0 ka_3 (p := 3) rfl rfl (a1.toInt) (v176)
            have hF178 := Fr.wA (p := 3) (j := a1.toInt) (v := v176) hF0 rfl
            refine r_aload_n rfl ?_
            refine r_iload_n rfl ?_
            refine r_iload_n rfl ?_
            refine q_iast (Sh.arr hI177.1 ka_3) (a2.toInt) rfl (by omega) ?_
            have hI179 := HI.wA0 hI177 ka_3 (p := 3) rfl rfl (a2.toInt) (v175)
            have hF180 := Fr.wA (p := 3) (j := a2.toInt) (v := v175) hF178 rfl
            refine q_vret ?_
            refine At.enter rfl ?_
            refine r_aload_n rfl ?_
            refine q_getR (Sh.ref hI179.1 kx_0 rfl) ?_
            refine q_getR (Sh.ref hI179.1 kx_1 rfl) ?_
            refine r_iload_n rfl ?_
            refine r_iload_n rfl ?_
            refine q_inlS 65 rfl [.ref 4, .int a1, .int a2] [] (Nat.le_of_ble_eq_true rfl) rfl ?_
            refine Ev.mk rfl rfl ⟨Nat.le_of_ble_eq_true rfl, Or.inl rfl⟩ ?_
            show At _ none _ _ (0, [(0, .ref 4), (1, .int a1), (2, .int a2)], [], (_, _)) _
            refine At.enter rfl ?_
            refine r_aload_n rfl ?_
            refine r_iload_n rfl ?_
            obtain ⟨v181, hv181⟩ : ∃ v, eA g0 4 a1.toInt = v := ⟨_, rfl⟩
            refine q_iald (Sh.arr hI179.1 ka_4) a1.toInt rfl (by omega) v181 ((eA_c ((gA_sA_ne (by decide)).trans (gA_sA_ne (by decide)))).trans hv181) ?_
            refine r_istore_n ([(3, .int v181), (0, .ref 4), (1, .int a1), (2, .int a2)]) rfl ?_
            refine r_aload_n rfl ?_
            refine r_iload_n rfl ?_
            refine r_aload_n rfl ?_
            refine r_iload_n rfl ?_
            obtain ⟨v182, hv182⟩ : ∃ v, eA g0 4 a2.toInt = v := ⟨_, rfl⟩
            refine q_iald (Sh.arr hI179.1 ka_4) a2.toInt rfl (by omega) v182 ((eA_c ((gA_sA_ne (by decide)).trans (gA_sA_ne (by decide)))).trans hv182) ?_
            refine q_iast (Sh.arr hI179.1 ka_4) (a1.toInt) rfl (by omega) ?_
            have hI183 := HI.wA0 hI179 ka_4 (p := 4) rfl rfl (a1.toInt) (v182)
            have hF184 := Fr.wA (p := 4) (j := a1.toInt) (v := v182) hF180 rfl
            refine r_aload_n rfl ?_
            refine r_iload_n rfl ?_
            refine r_iload_n rfl ?_
            refine q_iast (Sh.arr hI183.1 ka_4) (a2.toInt) rfl (by omega) ?_
            have hI185 := HI.wA0 hI183 ka_4 (p := 4) rfl rfl (a2.toInt) (v181)
            have hF186 := Fr.wA (p := 4) (j := a2.toInt) (v := v181) hF184 rfl
            refine q_vret ?_
            refine At.enter rfl ?_
            refine r_aload_n rfl ?_
            refine r_callV 69 rfl [.ref 0] [] (Nat.le_of_ble_eq_true rfl) rfl (T_X10_changed_0 _ hI185) ?_
            rintro _ _ ⟨g187, rfl, hI188, hF189, rfl⟩
            refine At.stn ?_
            have hF192 := Fr.tr hF186 hF189 rfl rfl
            refine At.enter rfl ?_
            refine r_aload_n rfl ?_
            refine r_iconst 0 rfl ?_
            refine q_inlV 74 rfl [.ref 0, .int 0] [] (Nat.le_of_ble_eq_true rfl) rfl ?_
            refine Ev.mk rfl rfl ⟨Nat.le_of_ble_eq_true rfl, Or.inr (q_rc hI188.1 kx_0 rfl)⟩ ?_
            show At _ none _ _ (0, [(0, .ref 0), (1, .int 0)], [], (_, _)) _
            refine At.enter rfl ?_
            refine r_aload_n rfl ?_
            refine r_iconst 0 rfl ?_
            refine q_putI (Sh.int hI188.1 kx_0 rfl) rfl ?_
            have hI193 := HI.wI0 hI188 kx_0 rfl (p := 0) (b := 17) (v := 0) rfl
            have hF194 := Fr.wI (p := 0) (b := 17) (v := 0) hF192 rfl
            refine r_iload_n rfl ?_
            refine q_ireti ?_
            refine At.enter rfl ?_
            refine r_ireti ?_
            have zv195 : (0 : Int32).toInt = 0 := rfl
            have x196 := HI.eqI hI0 (p := 1) (b := 0) (hv140)
            have x197 := HI.eqI hI0 (p := 1) (b := 0) (hv140)
            exact ⟨_, rfl, hI193, hF194, _, rfl, by decide, ⟨(by omega), (by intro i i0 i1; exact (Decidable.em ((0 ≤ a1.toInt ∧ a1.toInt < (gI g0 1 0).toInt ∧ 0 ≤ a2.toInt ∧ a2.toInt < (gI g0 1 0).toInt ∧ a1.toInt ≠ a2.toInt) ∧ i = a1.toInt)).elim (fun k90_ => by refine Eq.trans ?_ (if_pos k90_).symm; refine (eA_ti (((gA_sI).trans ((hF189.2.1 3 (by decide)).trans ((gA_sA_ne (by decide)).trans (gA_sA_ne (by decide))))))).trans ?_; exact (Decidable.em (i = a2.toInt)).elim (fun k91_ => by refine (eA_eqT hI177.1 ka_3 k91_ (by first | decide | omega) (by first | decide | omega)).trans ?_; (first | (rfl) | (omega) | (refine (congrArg Int32.toInt hv175).symm.trans ?_; (first | rfl | exact eA_ix (by omega) | omega)))) (fun k91_ => by refine (eA_neT hI177.1 ka_3 k91_ (by first | decide | omega) (by omega)).trans ?_; exact (Decidable.em (i = a1.toInt)).elim (fun k92_ => by refine (eA_eqT hI0.1 ka_3 k92_ (by first | decide | omega) (by first | decide | omega)).trans ?_; (first | (rfl) | (omega) | (refine (congrArg Int32.toInt hv176).symm.trans ?_; (first | rfl | exact eA_ix (by omega) | omega)))) (fun k92_ => by refine (eA_neT hI0.1 ka_3 k92_ (by first | decide | omega) (by omega)).trans ?_; (first | rfl | exact eA_ix (by omega) | omega)))) (fun k90_ => by refine Eq.trans ?_ (if_neg k90_).symm; exact (Decidable.em ((0 ≤ a1.toInt ∧ a1.toInt < (gI g0 1 0).toInt ∧ 0 ≤ a2.toInt ∧ a2.toInt < (gI g0 1 0).toInt ∧ a1.toInt ≠ a2.toInt) ∧ i = a2.toInt)).elim (fun k93_ => by refine Eq.trans ?_ (if_pos k93_).symm; refine (eA_ti (((gA_sI).trans ((hF189.2.1 3 (by decide)).trans ((gA_sA_ne (by decide)).trans (gA_sA_ne (by decide))))))).trans ?_; exact (Decidable.em (i = a2.toInt)).elim (fun k94_ => by refine (eA_eqT hI177.1 ka_3 k94_ (by first | decide | omega) (by first | decide | omega)).trans ?_; (first | (rfl) | (omega) | (refine (congrArg Int32.toInt hv175).symm.trans ?_; (first | rfl | exact eA_ix (by omega) | omega)))) (fun k94_ => by refine (eA_neT hI177.1 ka_3 k94_ (by first | decide | omega) (by omega)).trans ?_; exact (Decidable.em (i = a1.toInt)).elim (fun k95_ => by refine (eA_eqT hI0.1 ka_3 k95_ (by first | decide | omega) (by first | decide | omega)).trans ?_; (first | (rfl) | (omega) | (refine (congrArg Int32.toInt hv176).symm.trans ?_; (first | rfl | exact eA_ix (by omega) | omega)))) (fun k95_ => by refine (eA_neT hI0.1 ka_3 k95_ (by first | decide | omega) (by omega)).trans ?_; (first | rfl | exact eA_ix (by omega) | omega)))) (fun k93_ => by refine Eq.trans ?_ (if_neg k93_).symm; refine (eA_ti (((gA_sI).trans ((hF189.2.1 3 (by decide)).trans ((gA_sA_ne (by decide)).trans (gA_sA_ne (by decide))))))).trans ?_; exact (Decidable.em (i = a2.toInt)).elim (fun k96_ => by refine (eA_eqT hI177.1 ka_3 k96_ (by first | decide | omega) (by first | decide | omega)).trans ?_; (first | (rfl) | (omega) | (refine (congrArg Int32.toInt hv175).symm.trans ?_; (first | rfl | exact eA_ix (by omega) | omega)))) (fun k96_ => by refine (eA_neT hI177.1 ka_3 k96_ (by first | decide | omega) (by omega)).trans ?_; exact (Decidable.em (i = a1.toInt)).elim (fun k97_ => by refine (eA_eqT hI0.1 ka_3 k97_ (by first | decide | omega) (by first | decide | omega)).trans ?_; (first | (rfl) | (omega) | (refine (congrArg Int32.toInt hv176).symm.trans ?_; (first | rfl | exact eA_ix (by omega) | omega)))) (fun k97_ => by refine (eA_neT hI0.1 ka_3 k97_ (by first | decide | omega) (by omega)).trans ?_; (first | rfl | exact eA_ix (by omega) | omega)))))), (by intro i i0 i1; exact (Decidable.em ((0 ≤ a1.toInt ∧ a1.toInt < (gI g0 1 0).toInt ∧ 0 ≤ a2.toInt ∧ a2.toInt < (gI g0 1 0).toInt ∧ a1.toInt ≠ a2.toInt) ∧ i = a1.toInt)).elim (fun k98_ => by refine Eq.trans ?_ (if_pos k98_).symm; refine (eA_ti (((gA_sI).trans (hF189.2.1 4 (by decide))))).trans ?_; exact (Decidable.em (i = a2.toInt)).elim (fun k99_ => by refine (eA_eqT hI183.1 ka_4 k99_ (by first | decide | omega) (by first | decide | omega)).trans ?_; (first | (rfl) | (omega) | (refine (congrArg Int32.toInt hv181).symm.trans ?_; (first | rfl | exact eA_ix (by omega) | omega)))) (fun k99_ => by refine (eA_neT hI183.1 ka_4 k99_ (by first | decide | omega) (by omega)).trans ?_; exact (Decidable.em (i = a1.toInt)).elim (fun k100_ => by refine (eA_eqT hI179.1 ka_4 k100_ (by first | decide | omega) (by first | decide | omega)).trans ?_; (first | (rfl) | (omega) | (refine (congrArg Int32.toInt hv182).symm.trans ?_; (first | rfl | exact eA_ix (by omega) | omega)))) (fun k100_ => by refine (eA_neT hI179.1 ka_4 k100_ (by first | decide | omega) (by omega)).trans ?_; refine (eA_ti (((gA_sA_ne (by decide)).trans (gA_sA_ne (by decide))))).trans ?_; (first | rfl | exact eA_ix (by omega) | omega)))) (fun k98_ => by refine Eq.trans ?_ (if_neg k98_).symm; exact (Decidable.em ((0 ≤ a1.toInt ∧ a1.toInt < (gI g0 1 0).toInt ∧ 0 ≤ a2.toInt ∧ a2.toInt < (gI g0 1 0).toInt ∧ a1.toInt ≠ a2.toInt) ∧ i = a2.toInt)).elim (fun k101_ => by refine Eq.trans ?_ (if_pos k101_).symm; refine (eA_ti (((gA_sI).trans (hF189.2.1 4 (by decide))))).trans ?_; exact (Decidable.em (i = a2.toInt)).elim (fun k102_ => by refine (eA_eqT hI183.1 ka_4 k102_ (by first | decide | omega) (by first | decide | omega)).trans ?_; (first | (rfl) | (omega) | (refine (congrArg Int32.toInt hv181).symm.trans ?_; (first | rfl | exact eA_ix (by omega) | omega)))) (fun k102_ => by refine (eA_neT hI183.1 ka_4 k102_ (by first | decide | omega) (by omega)).trans ?_; exact (Decidable.em (i = a1.toInt)).elim (fun k103_ => by refine (eA_eqT hI179.1 ka_4 k103_ (by first | decide | omega) (by first | decide | omega)).trans ?_; (first | (rfl) | (omega) | (refine (congrArg Int32.toInt hv182).symm.trans ?_; (first | rfl | exact eA_ix (by omega) | omega)))) (fun k103_ => by refine (eA_neT hI179.1 ka_4 k103_ (by first | decide | omega) (by omega)).trans ?_; refine (eA_ti (((gA_sA_ne (by decide)).trans (gA_sA_ne (by decide))))).trans ?_; (first | rfl | exact eA_ix (by omega) | omega)))) (fun k101_ => by refine Eq.trans ?_ (if_neg k101_).symm; refine (eA_ti (((gA_sI).trans (hF189.2.1 4 (by decide))))).trans ?_; exact (Decidable.em (i = a2.toInt)).elim (fun k104_ => by refine (eA_eqT hI183.1 ka_4 k104_ (by first | decide | omega) (by first | decide | omega)).trans ?_; (first | (rfl) | (omega) | (refine (congrArg Int32.toInt hv181).symm.trans ?_; (first | rfl | exact eA_ix (by omega) | omega)))) (fun k104_ => by refine (eA_neT hI183.1 ka_4 k104_ (by first | decide | omega) (by omega)).trans ?_; exact (Decidable.em (i = a1.toInt)).elim (fun k105_ => by refine (eA_eqT hI179.1 ka_4 k105_ (by first | decide | omega) (by first | decide | omega)).trans ?_; (first | (rfl) | (omega) | (refine (congrArg Int32.toInt hv182).symm.trans ?_; (first | rfl | exact eA_ix (by omega) | omega)))) (fun k105_ => by refine (eA_neT hI179.1 ka_4 k105_ (by first | decide | omega) (by omega)).trans ?_; refine (eA_ti (((gA_sA_ne (by decide)).trans (gA_sA_ne (by decide))))).trans ?_; (first | rfl | exact eA_ix (by omega) | omega))))))⟩⟩
          · have c174_ : a1.toInt = a2.toInt := en_i_ne_f c174
            refine At.enter rfl ?_
            refine r_aload_n rfl ?_
            refine r_bipush (-3) rfl ?_
            refine r_callV 40 rfl [.ref 0, .int (-3)] [] (Nat.le_of_ble_eq_true rfl) rfl (T_X10_refused_0 _ hI0 (-3) (by decide)) ?_
            rintro _ _ ⟨g198, rfl, hI199, hF200, v201, rfl, hr202⟩
            refine At.sti ?_
            have hF203 := Fr.tr hF0 hF200 rfl rfl
            have zv204 : ((-3) : Int32).toInt = (-3) := rfl
            refine At.enter rfl ?_
            refine r_ireti ?_
            have x205 := HI.eqI hI0 (p := 1) (b := 0) (hv140)
            have x206 := HI.eqI hI0 (p := 1) (b := 0) (hv140)
            exact ⟨_, rfl, hI199, hF203, _, rfl, by omega, ⟨(by omega), (by intro i i0 i1; refine Eq.trans ?_ (if_neg (show ¬ ((0 ≤ a1.toInt ∧ a1.toInt < (gI g0 1 0).toInt ∧ 0 ≤ a2.toInt ∧ a2.toInt < (gI g0 1 0).toInt ∧ a1.toInt ≠ a2.toInt) ∧ i = a1.toInt) from by omega)).symm; refine Eq.trans ?_ (if_neg (show ¬ ((0 ≤ a1.toInt ∧ a1.toInt < (gI g0 1 0).toInt ∧ 0 ≤ a2.toInt ∧ a2.toInt < (gI g0 1 0).toInt ∧ a1.toInt ≠ a2.toInt) ∧ i = a2.toInt) from by omega)).symm; refine (eA_ti ((hF200.2.1 3 (by decide)))).trans ?_; (first | rfl | exact eA_ix (by omega) | omega)), (by intro i i0 i1; refine Eq.trans ?_ (if_neg (show ¬ ((0 ≤ a1.toInt ∧ a1.toInt < (gI g0 1 0).toInt ∧ 0 ≤ a2.toInt ∧ a2.toInt < (gI g0 1 0).toInt ∧ a1.toInt ≠ a2.toInt) ∧ i = a1.toInt) from by omega)).symm; refine Eq.trans ?_ (if_neg (show ¬ ((0 ≤ a1.toInt ∧ a1.toInt < (gI g0 1 0).toInt ∧ 0 ≤ a2.toInt ∧ a2.toInt < (gI g0 1 0).toInt ∧ a1.toInt ≠ a2.toInt) ∧ i = a2.toInt) from by omega)).symm; refine (eA_ti ((hF200.2.1 4 (by decide)))).trans ?_; (first | rfl | exact eA_ix (by omega) | omega))⟩⟩
