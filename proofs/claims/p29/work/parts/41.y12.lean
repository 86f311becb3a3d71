def F_X10_sign_0 : List (Nat × Nat) := [(0, 17), (1, 12)]
def A_X10_sign_0 : List Nat := [14, 15, 230]
theorem mf_X10_refused_0_1_12 : memF F_X10_refused_0 1 12 = false := by decide
theorem ma_X10_refused_0_14 : memA A_X10_refused_0 14 = false := by decide
theorem ma_X10_refused_0_15 : memA A_X10_refused_0 15 = false := by decide
set_option maxRecDepth 100000 in
set_option maxHeartbeats 4000000 in
theorem T_X10_sign_0 (d : Nat) {N : Nat} {g0 : List en_E} (hI0 : HI g0) (a1 : Int32) (a2 : Int32) : Ev (d + 3) 134 [.ref 0, .int a1, .int a2] (g0, N) (fun w h' => ∃ g', h' = (g', N) ∧ HI g' ∧ Fr F_X10_sign_0 A_X10_sign_0 g0 g' ∧ ∃ r : Int32, w = some (.int r) ∧ ((-5) ≤ r.toInt ∧ r.toInt ≤ 8) ∧ (((¬ (0 ≤ a2.toInt ∧ a2.toInt ≤ 99) → r.toInt = -1 ∧ (gI g' 1 12).toInt = (gI g0 1 12).toInt) ∧ ((0 ≤ a2.toInt ∧ a2.toInt ≤ 99) ∧ ¬ (0 ≤ a1.toInt ∧ a1.toInt < (gI g0 1 0).toInt) → r.toInt = -2 ∧ (gI g' 1 12).toInt = (gI g0 1 12).toInt) ∧ ((0 ≤ a2.toInt ∧ a2.toInt ≤ 99) ∧ (0 ≤ a1.toInt ∧ a1.toInt < (gI g0 1 0).toInt) ∧ 8 ≤ (gI g0 1 12).toInt → r.toInt = -5 ∧ (gI g' 1 12).toInt = (gI g0 1 12).toInt) ∧ ((0 ≤ a2.toInt ∧ a2.toInt ≤ 99) ∧ (0 ≤ a1.toInt ∧ a1.toInt < (gI g0 1 0).toInt) ∧ (gI g0 1 12).toInt < 8 → r.toInt = (gI g0 1 12).toInt + 1 ∧ (gI g' 1 12).toInt = (gI g0 1 12).toInt + 1)) ∧ (∀ i : Int, 0 ≤ i → i < 8 → (eA g' 14 (i)).toInt = if (0 ≤ a2.toInt ∧ a2.toInt ≤ 99 ∧ 0 ≤ a1.toInt ∧ a1.toInt < (gI g0 1 0).toInt ∧ (gI g0 1 12).toInt < 8) ∧ i = (gI g0 1 12).toInt then a1.toInt else (eA g0 14 (i)).toInt) ∧ (∀ i : Int, 0 ≤ i → i < 8 → (eA g' 15 (i)).toInt = if (0 ≤ a2.toInt ∧ a2.toInt ≤ 99 ∧ 0 ≤ a1.toInt ∧ a1.toInt < (gI g0 1 0).toInt ∧ (gI g0 1 12).toInt < 8) ∧ i = (gI g0 1 12).toInt then a2.toInt else (eA g0 15 (i)).toInt))) := by
  have hF0 : Fr F_X10_sign_0 A_X10_sign_0 g0 g0 := Fr.rf
  refine Ev.mk rfl rfl ⟨Nat.le_of_ble_eq_true rfl, Or.inr (q_rc hI0.1 kx_0 rfl)⟩ ?_
  show At _ none _ _ (0, [(0, .ref 0), (1, .int a1), (2, .int a2)], [], (_, _)) _
  refine At.enter rfl ?_
  refine r_iload_n rfl ?_
  refine r_iconst 0 rfl ?_
  refine r_bipush 99 rfl ?_
  refine q_inlS 7 rfl [.int a2, .int 0, .int 99] [] (Nat.le_of_ble_eq_true rfl) rfl ?_
  refine Ev.mk rfl rfl ⟨Nat.le_of_ble_eq_true rfl, Or.inl rfl⟩ ?_
  show At _ none _ _ (0, [(0, .int a2), (1, .int 0), (2, .int 99)], [], (_, _)) _
  refine At.enter rfl ?_
  refine r_iload_n rfl ?_
  refine r_iload_n rfl ?_
  refine r_ics 5 rfl (fun c107 => ?_) (fun c107 => ?_)
  · have c107_ : a2.toInt < 0 := en_i_lt_t c107
    refine At.enter rfl ?_
    refine r_iconst 0 rfl ?_
    refine Ar.fall 15 rfl ?_
    refine At.enter rfl ?_
    refine q_iretz (by decide) ?_
    refine At.enter rfl ?_
    refine r_iff 10 rfl (by decide) ?_
    refine At.enter rfl ?_
    refine r_aload_n rfl ?_
    refine r_iconst (-1) rfl ?_
    refine r_callV 15 rfl [.ref 0, .int (-1)] [] (Nat.le_of_ble_eq_true rfl) rfl (T_X10_refused_0 _ hI0 (-1) (by decide)) ?_
    rintro _ _ ⟨g108, rfl, hI109, hF110, v111, rfl, hr112⟩
    refine At.sti ?_
    have hF113 := Fr.tr hF0 hF110 rfl rfl
    have zv114 : ((-1) : Int32).toInt = (-1) := rfl
    refine At.enter rfl ?_
    refine r_ireti ?_
    obtain ⟨v115, hv115⟩ : ∃ v, gI g0 1 12 = v := ⟨_, rfl⟩
    have rv115 := RgF.at hI0.2.1 (p := 1) (b := 12) rfl
    rw [hv115] at rv115
    dsimp only at rv115
    have tv115 := congrArg Int32.toInt hv115
    have x116 := HI.eqI hI109 (p := 1) (b := 12) (((hF110.1 1 12 mf_X10_refused_0_1_12).trans hv115))
    obtain ⟨v118, hv118⟩ : ∃ v, gI g0 1 0 = v := ⟨_, rfl⟩
    have rv118 := RgF.at hI0.2.1 (p := 1) (b := 0) rfl
    rw [hv118] at rv118
    dsimp only at rv118
    have tv118 := congrArg Int32.toInt hv118
    exact ⟨_, rfl, hI109, hF113, _, rfl, by omega, ⟨(by omega), (by intro i i0 i1; refine Eq.trans ?_ (if_neg (show ¬ ((0 ≤ a2.toInt ∧ a2.toInt ≤ 99 ∧ 0 ≤ a1.toInt ∧ a1.toInt < (gI g0 1 0).toInt ∧ (gI g0 1 12).toInt < 8) ∧ i = (gI g0 1 12).toInt) from by omega)).symm; refine (eA_ti ((hF110.2.1 14 ma_X10_refused_0_14))).trans ?_; (first | with_reducible rfl | omega | exact eA_ix (by omega) | rfl)), (by intro i i0 i1; refine Eq.trans ?_ (if_neg (show ¬ ((0 ≤ a2.toInt ∧ a2.toInt ≤ 99 ∧ 0 ≤ a1.toInt ∧ a1.toInt < (gI g0 1 0).toInt ∧ (gI g0 1 12).toInt < 8) ∧ i = (gI g0 1 12).toInt) from by omega)).symm; refine (eA_ti ((hF110.2.1 15 ma_X10_refused_0_15))).trans ?_; (first | with_reducible rfl | omega | exact eA_ix (by omega) | rfl))⟩⟩
  · have c107_ : a2.toInt ≥ 0 := en_i_lt_f c107
    refine At.enter rfl ?_
    refine r_iload_n rfl ?_
    refine r_iload_n rfl ?_
    refine r_ics 10 rfl (fun c122 => ?_) (fun c122 => ?_)
    · have c122_ : a2.toInt > 99 := en_i_gt_t c122
      refine At.enter rfl ?_
      refine r_iconst 0 rfl ?_
      refine Ar.fall 15 rfl ?_
      refine At.enter rfl ?_
      refine q_iretz (by decide) ?_
      refine At.enter rfl ?_
      refine r_iff 10 rfl (by decide) ?_
      refine At.enter rfl ?_
      refine r_aload_n rfl ?_
      refine r_iconst (-1) rfl ?_
      refine r_callV 15 rfl [.ref 0, .int (-1)] [] (Nat.le_of_ble_eq_true rfl) rfl (T_X10_refused_0 _ hI0 (-1) (by decide)) ?_
      rintro _ _ ⟨g123, rfl, hI124, hF125, v126, rfl, hr127⟩
      refine At.sti ?_
      have hF128 := Fr.tr hF0 hF125 rfl rfl
      have zv129 : ((-1) : Int32).toInt = (-1) := rfl
      refine At.enter rfl ?_
      refine r_ireti ?_
      obtain ⟨v130, hv130⟩ : ∃ v, gI g0 1 12 = v := ⟨_, rfl⟩
      have rv130 := RgF.at hI0.2.1 (p := 1) (b := 12) rfl
      rw [hv130] at rv130
      dsimp only at rv130
      have tv130 := congrArg Int32.toInt hv130
      have x131 := HI.eqI hI124 (p := 1) (b := 12) (((hF125.1 1 12 mf_X10_refused_0_1_12).trans hv130))
      obtain ⟨v133, hv133⟩ : ∃ v, gI g0 1 0 = v := ⟨_, rfl⟩
      have rv133 := RgF.at hI0.2.1 (p := 1) (b := 0) rfl
      rw [hv133] at rv133
      dsimp only at rv133
      have tv133 := congrArg Int32.toInt hv133
      exact ⟨_, rfl, hI124, hF128, _, rfl, by omega, ⟨(by omega), (by intro i i0 i1; refine Eq.trans ?_ (if_neg (show ¬ ((0 ≤ a2.toInt ∧ a2.toInt ≤ 99 ∧ 0 ≤ a1.toInt ∧ a1.toInt < (gI g0 1 0).toInt ∧ (gI g0 1 12).toInt < 8) ∧ i = (gI g0 1 12).toInt) from by omega)).symm; refine (eA_ti ((hF125.2.1 14 ma_X10_refused_0_14))).trans ?_; (first | with_reducible rfl | omega | exact eA_ix (by omega) | rfl)), (by intro i i0 i1; refine Eq.trans ?_ (if_neg (show ¬ ((0 ≤ a2.toInt ∧ a2.toInt ≤ 99 ∧ 0 ≤ a1.toInt ∧ a1.toInt < (gI g0 1 0).toInt ∧ (gI g0 1 12).toInt < 8) ∧ i = (gI g0 1 12).toInt) from by omega)).symm; refine (eA_ti ((hF125.2.1 15 ma_X10_refused_0_15))).trans ?_; (first | with_reducible rfl | omega | exact eA_ix (by omega) | rfl))⟩⟩
    · have c122_ : a2.toInt ≤ 99 := en_i_gt_f c122
      refine At.enter rfl ?_
      refine r_iconst 1 rfl ?_
      refine r_goto ?_
      refine At.enter rfl ?_
      refine q_iretz (by decide) ?_
      refine At.enter rfl ?_
      refine r_ift (by decide) ?_
      refine At.enter rfl ?_
      refine r_aload_n rfl ?_
      refine q_getR (Sh.ref hI0.1 kx_0 rfl) ?_
      refine r_iload_n rfl ?_
      refine q_inlV 24 rfl [.ref 1, .int a1] [] (Nat.le_of_ble_eq_true rfl) rfl ?_
      refine Ev.mk rfl rfl ⟨Nat.le_of_ble_eq_true rfl, Or.inr (q_rc hI0.1 kx_1 rfl)⟩ ?_
      show At _ none _ _ (0, [(0, .ref 1), (1, .int a1)], [], (_, _)) _
      refine At.enter rfl ?_
      refine r_iload_n rfl ?_
      refine r_ifs 4 rfl (fun c137 => ?_) (fun c137 => ?_)
      · have c137_ : a1.toInt < 0 := en_k_lt_t c137
        refine At.enter rfl ?_
        refine r_iconst 0 rfl ?_
        refine Ar.fall 17 rfl ?_
        refine At.enter rfl ?_
        refine q_iretz (by decide) ?_
        refine At.enter rfl ?_
        refine r_iff 27 rfl (by decide) ?_
        refine At.enter rfl ?_
        refine r_aload_n rfl ?_
        refine r_bipush (-2) rfl ?_
        refine r_callV 33 rfl [.ref 0, .int (-2)] [] (Nat.le_of_ble_eq_true rfl) rfl (T_X10_refused_0 _ hI0 (-2) (by decide)) ?_
        rintro _ _ ⟨g138, rfl, hI139, hF140, v141, rfl, hr142⟩
        refine At.sti ?_
        have hF143 := Fr.tr hF0 hF140 rfl rfl
        have zv144 : ((-2) : Int32).toInt = (-2) := rfl
        refine At.enter rfl ?_
        refine r_ireti ?_
        obtain ⟨v145, hv145⟩ : ∃ v, gI g0 1 12 = v := ⟨_, rfl⟩
        have rv145 := RgF.at hI0.2.1 (p := 1) (b := 12) rfl
        rw [hv145] at rv145
        dsimp only at rv145
        have tv145 := congrArg Int32.toInt hv145
        have x146 := HI.eqI hI139 (p := 1) (b := 12) (((hF140.1 1 12 mf_X10_refused_0_1_12).trans hv145))
        obtain ⟨v148, hv148⟩ : ∃ v, gI g0 1 0 = v := ⟨_, rfl⟩
        have rv148 := RgF.at hI0.2.1 (p := 1) (b := 0) rfl
        rw [hv148] at rv148
        dsimp only at rv148
        have tv148 := congrArg Int32.toInt hv148
        exact ⟨_, rfl, hI139, hF143, _, rfl, by omega, ⟨(by omega), (by intro i i0 i1; refine Eq.trans ?_ (if_neg (show ¬ ((0 ≤ a2.toInt ∧ a2.toInt ≤ 99 ∧ 0 ≤ a1.toInt ∧ a1.toInt < (gI g0 1 0).toInt ∧ (gI g0 1 12).toInt < 8) ∧ i = (gI g0 1 12).toInt) from by omega)).symm; refine (eA_ti ((hF140.2.1 14 ma_X10_refused_0_14))).trans ?_; (first | with_reducible rfl | omega | exact eA_ix (by omega) | rfl)), (by intro i i0 i1; refine Eq.trans ?_ (if_neg (show ¬ ((0 ≤ a2.toInt ∧ a2.toInt ≤ 99 ∧ 0 ≤ a1.toInt ∧ a1.toInt < (gI g0 1 0).toInt ∧ (gI g0 1 12).toInt < 8) ∧ i = (gI g0 1 12).toInt) from by omega)).symm; refine (eA_ti ((hF140.2.1 15 ma_X10_refused_0_15))).trans ?_; (first | with_reducible rfl | omega | exact eA_ix (by omega) | rfl))⟩⟩
      · have c137_ : a1.toInt ≥ 0 := en_k_lt_f c137
        refine At.enter rfl ?_
        refine r_iload_n rfl ?_
        refine r_aload_n rfl ?_
        obtain ⟨v152, hv152⟩ : ∃ v, gI g0 1 0 = v := ⟨_, rfl⟩
        have rv152 := RgF.at hI0.2.1 (p := 1) (b := 0) rfl
        rw [hv152] at rv152
        dsimp only at rv152
        refine q_getI (Sh.int hI0.1 kx_1 rfl) v152 hv152 ?_
        have bv154 := q_bnd a1
        have bv155 := q_bnd v152
        refine r_ics 12 rfl (fun c153 => ?_) (fun c153 => ?_)
        · have c153_ : a1.toInt ≥ v152.toInt := en_i_ge_t c153
          refine At.enter rfl ?_
          refine r_iconst 0 rfl ?_
          refine Ar.fall 17 rfl ?_
          refine At.enter rfl ?_
          refine q_iretz (by decide) ?_
          refine At.enter rfl ?_
          refine r_iff 27 rfl (by decide) ?_
          refine At.enter rfl ?_
          refine r_aload_n rfl ?_
          refine r_bipush (-2) rfl ?_
          refine r_callV 33 rfl [.ref 0, .int (-2)] [] (Nat.le_of_ble_eq_true rfl) rfl (T_X10_refused_0 _ hI0 (-2) (by decide)) ?_
          rintro _ _ ⟨g156, rfl, hI157, hF158, v159, rfl, hr160⟩
          refine At.sti ?_
          have hF161 := Fr.tr hF0 hF158 rfl rfl
          have zv162 : ((-2) : Int32).toInt = (-2) := rfl
          refine At.enter rfl ?_
          refine r_ireti ?_
          obtain ⟨v163, hv163⟩ : ∃ v, gI g0 1 12 = v := ⟨_, rfl⟩
          have rv163 := RgF.at hI0.2.1 (p := 1) (b := 12) rfl
          rw [hv163] at rv163
          dsimp only at rv163
          have tv163 := congrArg Int32.toInt hv163
          have x164 := HI.eqI hI157 (p := 1) (b := 12) (((hF158.1 1 12 mf_X10_refused_0_1_12).trans hv163))
          have x166 := HI.eqI hI0 (p := 1) (b := 0) (hv152)
          have x167 := HI.eqI hI0 (p := 1) (b := 0) (hv152)
          exact ⟨_, rfl, hI157, hF161, _, rfl, by omega, ⟨(by omega), (by intro i i0 i1; refine Eq.trans ?_ (if_neg (show ¬ ((0 ≤ a2.toInt ∧ a2.toInt ≤ 99 ∧ 0 ≤ a1.toInt ∧ a1.toInt < (gI g0 1 0).toInt ∧ (gI g0 1 12).toInt < 8) ∧ i = (gI g0 1 12).toInt) from by omega)).symm; refine (eA_ti ((hF158.2.1 14 ma_X10_refused_0_14))).trans ?_; (first | with_reducible rfl | omega | exact eA_ix (by omega) | rfl)), (by intro i i0 i1; refine Eq.trans ?_ (if_neg (show ¬ ((0 ≤ a2.toInt ∧ a2.toInt ≤ 99 ∧ 0 ≤ a1.toInt ∧ a1.toInt < (gI g0 1 0).toInt ∧ (gI g0 1 12).toInt < 8) ∧ i = (gI g0 1 12).toInt) from by omega)).symm; refine (eA_ti ((hF158.2.1 15 ma_X10_refused_0_15))).trans ?_; (first | with_reducible rfl | omega | exact eA_ix (by omega) | rfl))⟩⟩
        · have c153_ : a1.toInt < v152.toInt := en_i_ge_f c153
          refine At.enter rfl ?_
          refine r_iconst 1 rfl ?_
          refine r_goto ?_
          refine At.enter rfl ?_
          refine q_iretz (by decide) ?_
          refine At.enter rfl ?_
          refine r_ift (by decide) ?_
          refine At.enter rfl ?_
          refine r_aload_n rfl ?_
          refine q_getR (Sh.ref hI0.1 kx_0 rfl) ?_
          obtain ⟨v169, hv169⟩ : ∃ v, gI g0 1 12 = v := ⟨_, rfl⟩
          have rv169 := RgF.at hI0.2.1 (p := 1) (b := 12) rfl
          rw [hv169] at rv169
          dsimp only at rv169
          refine q_getI (Sh.int hI0.1 kx_1 rfl) v169 hv169 ?_
          refine r_bipush 8 rfl ?_
          refine r_ics 46 rfl (fun c170 => ?_) (fun c170 => ?_)
          · have c170_ : v169.toInt < 8 := en_i_lt_t c170
            refine At.enter rfl ?_
            refine r_aload_n rfl ?_
            refine q_getR (Sh.ref hI0.1 kx_0 rfl) ?_
            refine q_getR (Sh.ref hI0.1 kx_1 rfl) ?_
            refine r_aload_n rfl ?_
            refine q_getR (Sh.ref hI0.1 kx_0 rfl) ?_
            refine q_getI (Sh.int hI0.1 kx_1 rfl) v169 hv169 ?_
            refine r_iload_n rfl ?_
            refine q_iast (Sh.arr hI0.1 ka_14) (v169.toInt) rfl (by omega) ?_
            have hI171 := HI.wA0 hI0 ka_14 (p := 14) rfl rfl (v169.toInt) (a1)
            have hF172 := Fr.wA (p := 14) (j := v169.toInt) (v := a1) hF0 rfl
            refine r_aload_n rfl ?_
            refine q_getR (Sh.ref hI171.1 kx_0 rfl) ?_
            refine q_getR (Sh.ref hI171.1 kx_1 rfl) ?_
            refine r_aload_n rfl ?_
            refine q_getR (Sh.ref hI171.1 kx_0 rfl) ?_
            refine q_getI (Sh.int hI171.1 kx_1 rfl) v169 ((gI_sW).trans hv169) ?_
            refine r_iload_n rfl ?_
            refine q_iast (Sh.arr hI171.1 ka_15) (v169.toInt) rfl (by omega) ?_
            have hI173 := HI.wA0 hI171 ka_15 (p := 15) rfl rfl (v169.toInt) (a2)
            have hF174 := Fr.wA (p := 15) (j := v169.toInt) (v := a2) hF172 rfl
            refine r_aload_n rfl ?_
            refine q_getR (Sh.ref hI173.1 kx_0 rfl) ?_
            refine r_dup rfl ?_
            refine q_getI (Sh.int hI173.1 kx_1 rfl) v169 (((gI_sW).trans (gI_sW)).trans hv169) ?_
            refine r_iconst 1 rfl ?_
            refine q_iadd (v169.toInt + 1) rfl (by omega) (fun v175 hv175 => ?_)
            refine q_putI (Sh.int hI173.1 kx_1 rfl) rfl ?_
            have hI176 := HI.wI1 hI173 kx_1 rfl (p := 1) (b := 12) (v := v175) rfl (by dsimp only; omega)
            have hF177 := Fr.wI (p := 1) (b := 12) (v := v175) hF174 rfl
            refine r_aload_n rfl ?_
            refine r_aload_n rfl ?_
            refine q_getR (Sh.ref hI176.1 kx_0 rfl) ?_
            refine q_getI (Sh.int hI176.1 kx_1 rfl) v175 (gI_sI_eq hI173.1 kx_1 rfl _) ?_
            refine q_inlV 109 rfl [.ref 0, .int v175] [] (Nat.le_of_ble_eq_true rfl) rfl ?_
            refine Ev.mk rfl rfl ⟨Nat.le_of_ble_eq_true rfl, Or.inr (q_rc hI176.1 kx_0 rfl)⟩ ?_
            show At _ none _ _ (0, [(0, .ref 0), (1, .int v175)], [], (_, _)) _
            refine At.enter rfl ?_
            refine r_aload_n rfl ?_
            refine r_iconst 0 rfl ?_
            refine q_putI (Sh.int hI176.1 kx_0 rfl) rfl ?_
            have hI178 := HI.wI0 hI176 kx_0 rfl (p := 0) (b := 17) (v := 0) rfl
            have hF179 := Fr.wI (p := 0) (b := 17) (v := 0) hF177 rfl
            refine r_iload_n rfl ?_
            refine q_ireti ?_
            refine At.enter rfl ?_
            refine r_ireti ?_
            have x180 := HI.eqI hI178 (p := 1) (b := 12) (((gI_sI_ne (by decide)).trans (gI_sI_eq hI173.1 kx_1 rfl _)))
            have x181 := HI.eqI hI0 (p := 1) (b := 12) (hv169)
            have x182 := HI.eqI hI0 (p := 1) (b := 0) (hv152)
            have x183 := HI.eqI hI0 (p := 1) (b := 0) (hv152)
            have x184 := HI.eqI hI0 (p := 1) (b := 12) (hv169)
            exact ⟨_, rfl, hI178, hF179, _, rfl, by omega, ⟨(by omega), (by intro i i0 i1; exact (Decidable.em ((0 ≤ a2.toInt ∧ a2.toInt ≤ 99 ∧ 0 ≤ a1.toInt ∧ a1.toInt < (gI g0 1 0).toInt ∧ (gI g0 1 12).toInt < 8) ∧ i = (gI g0 1 12).toInt)).elim (fun k104_ => by refine Eq.trans ?_ (if_pos k104_).symm; refine (eA_ti (((gA_sI).trans ((gA_sI).trans (gA_sA_ne (by decide)))))).trans ?_; exact (Decidable.em (i = v169.toInt)).elim (fun k105_ => by refine (eA_eqT hI0.1 ka_14 k105_ (by first | decide | omega) (by first | decide | omega)).trans ?_; (first | (with_reducible rfl) | (omega) | (rfl))) (fun k105_ => by refine (eA_neT hI0.1 ka_14 k105_ (by first | decide | omega) (by omega)).trans ?_; (first | with_reducible rfl | omega | exact eA_ix (by omega) | rfl))) (fun k104_ => by refine Eq.trans ?_ (if_neg k104_).symm; refine (eA_ti (((gA_sI).trans ((gA_sI).trans (gA_sA_ne (by decide)))))).trans ?_; exact (Decidable.em (i = v169.toInt)).elim (fun k106_ => by refine (eA_eqT hI0.1 ka_14 k106_ (by first | decide | omega) (by first | decide | omega)).trans ?_; (first | (with_reducible rfl) | (omega) | (rfl))) (fun k106_ => by refine (eA_neT hI0.1 ka_14 k106_ (by first | decide | omega) (by omega)).trans ?_; (first | with_reducible rfl | omega | exact eA_ix (by omega) | rfl)))), (by intro i i0 i1; exact (Decidable.em ((0 ≤ a2.toInt ∧ a2.toInt ≤ 99 ∧ 0 ≤ a1.toInt ∧ a1.toInt < (gI g0 1 0).toInt ∧ (gI g0 1 12).toInt < 8) ∧ i = (gI g0 1 12).toInt)).elim (fun k107_ => by refine Eq.trans ?_ (if_pos k107_).symm; refine (eA_ti (((gA_sI).trans (gA_sI)))).trans ?_; exact (Decidable.em (i = v169.toInt)).elim (fun k108_ => by refine (eA_eqT hI171.1 ka_15 k108_ (by first | decide | omega) (by first | decide | omega)).trans ?_; (first | (with_reducible rfl) | (omega) | (rfl))) (fun k108_ => by refine (eA_neT hI171.1 ka_15 k108_ (by first | decide | omega) (by omega)).trans ?_; refine (eA_ti ((gA_sA_ne (by decide)))).trans ?_; (first | with_reducible rfl | omega | exact eA_ix (by omega) | rfl))) (fun k107_ => by refine Eq.trans ?_ (if_neg k107_).symm; refine (eA_ti (((gA_sI).trans (gA_sI)))).trans ?_; exact (Decidable.em (i = v169.toInt)).elim (fun k109_ => by refine (eA_eqT hI171.1 ka_15 k109_ (by first | decide | omega) (by first | decide | omega)).trans ?_; (first | (with_reducible rfl) | (omega) | (rfl))) (fun k109_ => by refine (eA_neT hI171.1 ka_15 k109_ (by first | decide | omega) (by omega)).trans ?_; refine (eA_ti ((gA_sA_ne (by decide)))).trans ?_; (first | with_reducible rfl | omega | exact eA_ix (by omega) | rfl))))⟩⟩
          · have c170_ : v169.toInt ≥ 8 := en_i_lt_f c170
            refine At.enter rfl ?_
            refine r_aload_n rfl ?_
            refine r_bipush (-5) rfl ?_
            refine r_callV 52 rfl [.ref 0, .int (-5)] [] (Nat.le_of_ble_eq_true rfl) rfl (T_X10_refused_0 _ hI0 (-5) (by decide)) ?_
            rintro _ _ ⟨g185, rfl, hI186, hF187, v188, rfl, hr189⟩
            refine At.sti ?_
            have hF190 := Fr.tr hF0 hF187 rfl rfl
            have zv191 : ((-5) : Int32).toInt = (-5) := rfl
            refine At.enter rfl ?_
            refine r_ireti ?_
            have x192 := HI.eqI hI186 (p := 1) (b := 12) (((hF187.1 1 12 mf_X10_refused_0_1_12).trans hv169))
            have x193 := HI.eqI hI0 (p := 1) (b := 12) (hv169)
            have x194 := HI.eqI hI0 (p := 1) (b := 0) (hv152)
            have x195 := HI.eqI hI0 (p := 1) (b := 0) (hv152)
            have x196 := HI.eqI hI0 (p := 1) (b := 12) (hv169)
            exact ⟨_, rfl, hI186, hF190, _, rfl, by omega, ⟨(by omega), (by intro i i0 i1; refine Eq.trans ?_ (if_neg (show ¬ ((0 ≤ a2.toInt ∧ a2.toInt ≤ 99 ∧ 0 ≤ a1.toInt ∧ a1.toInt < (gI g0 1 0).toInt ∧ (gI g0 1 12).toInt < 8) ∧ i = (gI g0 1 12).toInt) from by omega)).symm; refine (eA_ti ((hF187.2.1 14 ma_X10_refused_0_14))).trans ?_; (first | with_reducible rfl | omega | exact eA_ix (by omega) | rfl)), (by intro i i0 i1; refine Eq.trans ?_ (if_neg (show ¬ ((0 ≤ a2.toInt ∧ a2.toInt ≤ 99 ∧ 0 ≤ a1.toInt ∧ a1.toInt < (gI g0 1 0).toInt ∧ (gI g0 1 12).toInt < 8) ∧ i = (gI g0 1 12).toInt) from by omega)).symm; refine (eA_ti ((hF187.2.1 15 ma_X10_refused_0_15))).trans ?_; (first | with_reducible rfl | omega | exact eA_ix (by omega) | rfl))⟩⟩

def F_X10_clear_0 : List (Nat × Nat) := [(1, 12)]
def A_X10_clear_0 : List Nat := []
set_option maxRecDepth 100000 in
set_option maxHeartbeats 4000000 in
theorem T_X10_clear_0 (d : Nat) {N : Nat} {g0 : List en_E} (hI0 : HI g0) : Ev (d + 1) 135 [.ref 0] (g0, N) (fun w h' => ∃ g', h' = (g', N) ∧ HI g' ∧ Fr F_X10_clear_0 A_X10_clear_0 g0 g' ∧ ∃ r : Int32, w = some (.int r) ∧ (0 ≤ r.toInt ∧ r.toInt ≤ 8) ∧ (r.toInt = (gI g0 1 12).toInt ∧ (gI g' 1 12).toInt = 0)) := by
  have hF0 : Fr F_X10_clear_0 A_X10_clear_0 g0 g0 := Fr.rf
  refine Ev.mk rfl rfl ⟨Nat.le_of_ble_eq_true rfl, Or.inr (q_rc hI0.1 kx_0 rfl)⟩ ?_
  show At _ none _ _ (0, [(0, .ref 0)], [], (_, _)) _
  refine At.enter rfl ?_
  refine r_aload_n rfl ?_
  refine q_getR (Sh.ref hI0.1 kx_0 rfl) ?_
  obtain ⟨v7, hv7⟩ : ∃ v, gI g0 1 12 = v := ⟨_, rfl⟩
  have rv7 := RgF.at hI0.2.1 (p := 1) (b := 12) rfl
  rw [hv7] at rv7
  dsimp only at rv7
  refine q_getI (Sh.int hI0.1 kx_1 rfl) v7 hv7 ?_
  refine r_istore_n ([(1, .int v7), (0, .ref 0)]) rfl ?_
  refine r_aload_n rfl ?_
  refine q_getR (Sh.ref hI0.1 kx_0 rfl) ?_
  refine r_iconst 0 rfl ?_
  refine q_putI (Sh.int hI0.1 kx_1 rfl) rfl ?_
  have hI8 := HI.wI1 hI0 kx_1 rfl (p := 1) (b := 12) (v := 0) rfl (by decide)
  have hF9 := Fr.wI (p := 1) (b := 12) (v := 0) hF0 rfl
  refine r_iload_n rfl ?_
  refine r_ireti ?_
  have x10 := HI.eqI hI8 (p := 1) (b := 12) ((gI_sI_eq hI0.1 kx_1 rfl _))
  have zv11 : (0 : Int32).toInt = 0 := rfl
  have x12 := HI.eqI hI0 (p := 1) (b := 12) (hv7)
  exact ⟨_, rfl, hI8, hF9, _, rfl, by omega, (by omega)⟩
