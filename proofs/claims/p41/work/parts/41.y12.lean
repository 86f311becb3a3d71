def F_X10_sign_0 : List (Nat × Nat) := [(0, 17), (1, 12)]
def A_X10_sign_0 : List Nat := [14, 15, 230]
theorem mf_X10_refused_0_1_12 : memF F_X10_refused_0 1 12 = false := by decide
theorem ma_X10_refused_0_14 : memA A_X10_refused_0 14 = false := by decide
theorem ma_X10_refused_0_15 : memA A_X10_refused_0 15 = false := by decide
set_option maxRecDepth 100000 in
set_option maxHeartbeats 4000000 in
theorem T_X10_sign_0 (d : Nat) {N : Nat} {g0 : List en_E} (hI0 : HI g0) (a1 : Int32) (a2 : Int32) : Ev (d + 3) 134 [.ref 0, .int a1, .int a2] (g0, N) (fun w h' => ∃ g', h' = (g', N) ∧ HI g' ∧ Fr F_X10_sign_0 A_X10_sign_0 g0 g' ∧ ∃ r : Int32, w = some (.int r) ∧ ((-5) ≤ r.toInt ∧ r.toInt ≤ 8) ∧ ((((¬ (0 ≤ a2.toInt ∧ a2.toInt ≤ 99) → r.toInt = -1 ∧ (gI g' 1 12).toInt = (gI g0 1 12).toInt) ∧ ((0 ≤ a2.toInt ∧ a2.toInt ≤ 99) ∧ ¬ (0 ≤ a1.toInt ∧ a1.toInt < (gI g0 1 0).toInt) → r.toInt = -2 ∧ (gI g' 1 12).toInt = (gI g0 1 12).toInt) ∧ ((0 ≤ a2.toInt ∧ a2.toInt ≤ 99) ∧ (0 ≤ a1.toInt ∧ a1.toInt < (gI g0 1 0).toInt) ∧ 8 ≤ (gI g0 1 12).toInt → r.toInt = -5 ∧ (gI g' 1 12).toInt = (gI g0 1 12).toInt) ∧ ((0 ≤ a2.toInt ∧ a2.toInt ≤ 99) ∧ (0 ≤ a1.toInt ∧ a1.toInt < (gI g0 1 0).toInt) ∧ (gI g0 1 12).toInt < 8 → r.toInt = (gI g0 1 12).toInt + 1 ∧ (gI g' 1 12).toInt = (gI g0 1 12).toInt + 1)) ∧ (∀ i : Int, 0 ≤ i → i < 8 → (eA g' 14 (i)).toInt = if (0 ≤ a2.toInt ∧ a2.toInt ≤ 99 ∧ 0 ≤ a1.toInt ∧ a1.toInt < (gI g0 1 0).toInt ∧ (gI g0 1 12).toInt < 8) ∧ i = (gI g0 1 12).toInt then a1.toInt else (eA g0 14 (i)).toInt) ∧ (∀ i : Int, 0 ≤ i → i < 8 → (eA g' 15 (i)).toInt = if (0 ≤ a2.toInt ∧ a2.toInt ≤ 99 ∧ 0 ≤ a1.toInt ∧ a1.toInt < (gI g0 1 0).toInt ∧ (gI g0 1 12).toInt < 8) ∧ i = (gI g0 1 12).toInt then a2.toInt else (eA g0 15 (i)).toInt)) ∧ SU r.toInt (gI g' 0 17).toInt)) := by
  have hF0 : Fr F_X10_sign_0 A_X10_sign_0 g0 g0 := Fr.rf
  refine Ev.mk rfl rfl ⟨Nat.le_of_ble_eq_true rfl, Or.inr (q_rc hI0.1 kx_0 rfl)⟩ ?_
  show At _ none _ _ (0, [(0, .ref 0), (1, .int a1), (2, .int a2)], [], (_, _)) _
  refine At.enter rfl ?_
  refine r_iload_n rfl ?_
  refine r_iconst 0 rfl ?_
  refine r_bipush 99 rfl ?_
  refine q_inlS 7 rfl [.int a2, .int 0, .int 99] [] (Nat.le_of_ble_eq_true rfl) rfl ?_
  refine Ev.mk rfl rfl ⟨Nat.le_of_ble_eq_true rfl, Or.inl rfl⟩ ?_
  show At _ none _ _ (0, [(0, .int a2), (1, .int 0), (2, .int 99)], [], (_, _)) _
  refine At.enter rfl ?_
  refine r_iload_n rfl ?_
  refine r_iload_n rfl ?_
  refine r_ics 5 rfl (fun c107 => ?_) (fun c107 => ?_)
  · have c107_ : a2.toInt < 0 := en_i_lt_t c107
    refine At.enter rfl ?_
    refine r_iconst 0 rfl ?_
    refine Ar.fall 15 rfl ?_
    refine At.enter rfl ?_
    refine q_iretz (by decide) ?_
    refine At.enter rfl ?_
    refine r_iff 10 rfl (by decide) ?_
    refine At.enter rfl ?_
    refine r_aload_n rfl ?_
    refine r_iconst (-1) rfl ?_
    refine r_callV 15 rfl [.ref 0, .int (-1)] [] (Nat.le_of_ble_eq_true rfl) rfl (T_X10_refused_0 _ hI0 (-1) (by decide)) ?_
    rintro _ _ ⟨g108, rfl, hI109, hF110, v111, rfl, hr112⟩
    refine At.sti ?_
    have hF113 := Fr.tr hF0 hF110 rfl rfl
    have zv114 : ((-1) : Int32).toInt = (-1) := rfl
    refine At.enter rfl ?_
    refine r_ireti ?_
    obtain ⟨v115, hv115⟩ : ∃ v, gI g0 1 12 = v := ⟨_, rfl⟩
    have rv115 := RgF.at hI0.2.1 (p := 1) (b := 12) rfl
    rw [hv115] at rv115
    dsimp only at rv115
    have tv115 := congrArg Int32.toInt hv115
    have x116 := HI.eqI hI109 (p := 1) (b := 12) (((hF110.1 1 12 mf_X10_refused_0_1_12).trans hv115))
    obtain ⟨v118, hv118⟩ : ∃ v, gI g0 1 0 = v := ⟨_, rfl⟩
    have rv118 := RgF.at hI0.2.1 (p := 1) (b := 0) rfl
    rw [hv118] at rv118
    dsimp only at rv118
    have tv118 := congrArg Int32.toInt hv118
    obtain ⟨v122, hv122⟩ : ∃ v, gI g108 0 17 = v := ⟨_, rfl⟩
    have tv122 := congrArg Int32.toInt hv122
    exact ⟨_, rfl, hI109, hF113, _, rfl, by omega, ⟨⟨(by omega), (by intro i i0 i1; refine Eq.trans ?_ (if_neg (show ¬ ((0 ≤ a2.toInt ∧ a2.toInt ≤ 99 ∧ 0 ≤ a1.toInt ∧ a1.toInt < (gI g0 1 0).toInt ∧ (gI g0 1 12).toInt < 8) ∧ i = (gI g0 1 12).toInt) from by omega)).symm; refine (eA_ti ((hF110.2.1 14 ma_X10_refused_0_14))).trans ?_; (first | with_reducible rfl | omega | exact eA_ix (by omega) | rfl)), (by intro i i0 i1; refine Eq.trans ?_ (if_neg (show ¬ ((0 ≤ a2.toInt ∧ a2.toInt ≤ 99 ∧ 0 ≤ a1.toInt ∧ a1.toInt < (gI g0 1 0).toInt ∧ (gI g0 1 12).toInt < 8) ∧ i = (gI g0 1 12).toInt) from by omega)).symm; refine (eA_ti ((hF110.2.1 15 ma_X10_refused_0_15))).trans ?_; (first | with_reducible rfl | omega | exact eA_ix (by omega) | rfl))⟩, (SU.mk (by omega))⟩⟩
  · have c107_ : a2.toInt ≥ 0 := en_i_lt_f c107
    refine At.enter rfl ?_
    refine r_iload_n rfl ?_
    refine r_iload_n rfl ?_
    refine r_ics 10 rfl (fun c124 => ?_) (fun c124 => ?_)
    · have c124_ : a2.toInt > 99 := en_i_gt_t c124
      refine At.enter rfl ?_
      refine r_iconst 0 rfl ?_
      refine Ar.fall 15 rfl ?_
      refine At.enter rfl ?_
      refine q_iretz (by decide) ?_
      refine At.enter rfl ?_
      refine r_iff 10 rfl (by decide) ?_
      refine At.enter rfl ?_
      refine r_aload_n rfl ?_
      refine r_iconst (-1) rfl ?_
      refine r_callV 15 rfl [.ref 0, .int (-1)] [] (Nat.le_of_ble_eq_true rfl) rfl (T_X10_refused_0 _ hI0 (-1) (by decide)) ?_
      rintro _ _ ⟨g125, rfl, hI126, hF127, v128, rfl, hr129⟩
      refine At.sti ?_
      have hF130 := Fr.tr hF0 hF127 rfl rfl
      have zv131 : ((-1) : Int32).toInt = (-1) := rfl
      refine At.enter rfl ?_
      refine r_ireti ?_
      obtain ⟨v132, hv132⟩ : ∃ v, gI g0 1 12 = v := ⟨_, rfl⟩
      have rv132 := RgF.at hI0.2.1 (p := 1) (b := 12) rfl
      rw [hv132] at rv132
      dsimp only at rv132
      have tv132 := congrArg Int32.toInt hv132
      have x133 := HI.eqI hI126 (p := 1) (b := 12) (((hF127.1 1 12 mf_X10_refused_0_1_12).trans hv132))
      obtain ⟨v135, hv135⟩ : ∃ v, gI g0 1 0 = v := ⟨_, rfl⟩
      have rv135 := RgF.at hI0.2.1 (p := 1) (b := 0) rfl
      rw [hv135] at rv135
      dsimp only at rv135
      have tv135 := congrArg Int32.toInt hv135
      obtain ⟨v139, hv139⟩ : ∃ v, gI g125 0 17 = v := ⟨_, rfl⟩
      have tv139 := congrArg Int32.toInt hv139
      exact ⟨_, rfl, hI126, hF130, _, rfl, by omega, ⟨⟨(by omega), (by intro i i0 i1; refine Eq.trans ?_ (if_neg (show ¬ ((0 ≤ a2.toInt ∧ a2.toInt ≤ 99 ∧ 0 ≤ a1.toInt ∧ a1.toInt < (gI g0 1 0).toInt ∧ (gI g0 1 12).toInt < 8) ∧ i = (gI g0 1 12).toInt) from by omega)).symm; refine (eA_ti ((hF127.2.1 14 ma_X10_refused_0_14))).trans ?_; (first | with_reducible rfl | omega | exact eA_ix (by omega) | rfl)), (by intro i i0 i1; refine Eq.trans ?_ (if_neg (show ¬ ((0 ≤ a2.toInt ∧ a2.toInt ≤ 99 ∧ 0 ≤ a1.toInt ∧ a1.toInt < (gI g0 1 0).toInt ∧ (gI g0 1 12).toInt < 8) ∧ i = (gI g0 1 12).toInt) from by omega)).symm; refine (eA_ti ((hF127.2.1 15 ma_X10_refused_0_15))).trans ?_; (first | with_reducible rfl | omega | exact eA_ix (by omega) | rfl))⟩, (SU.mk (by omega))⟩⟩
    · have c124_ : a2.toInt ≤ 99 := en_i_gt_f c124
      refine At.enter rfl ?_
      refine r_iconst 1 rfl ?_
      refine r_goto ?_
      refine At.enter rfl ?_
      refine q_iretz (by decide) ?_
      refine At.enter rfl ?_
      refine r_ift (by decide) ?_
      refine At.enter rfl ?_
      refine r_aload_n rfl ?_
      refine q_getR (Sh.ref hI0.1 kx_0 rfl) ?_
      refine r_iload_n rfl ?_
      refine q_inlV 24 rfl [.ref 1, .int a1] [] (Nat.le_of_ble_eq_true rfl) rfl ?_
      refine Ev.mk rfl rfl ⟨Nat.le_of_ble_eq_true rfl, Or.inr (q_rc hI0.1 kx_1 rfl)⟩ ?_
      show At _ none _ _ (0, [(0, .ref 1), (1, .int a1)], [], (_, _)) _
      refine At.enter rfl ?_
      refine r_iload_n rfl ?_
      refine r_ifs 4 rfl (fun c141 => ?_) (fun c141 => ?_)
      · have c141_ : a1.toInt < 0 := en_k_lt_t c141
        refine At.enter rfl ?_
        refine r_iconst 0 rfl ?_
        refine Ar.fall 17 rfl ?_
        refine At.enter rfl ?_
        refine q_iretz (by decide) ?_
        refine At.enter rfl ?_
        refine r_iff 27 rfl (by decide) ?_
        refine At.enter rfl ?_
        refine r_aload_n rfl ?_
        refine r_bipush (-2) rfl ?_
        refine r_callV 33 rfl [.ref 0, .int (-2)] [] (Nat.le_of_ble_eq_true rfl) rfl (T_X10_refused_0 _ hI0 (-2) (by decide)) ?_
        rintro _ _ ⟨g142, rfl, hI143, hF144, v145, rfl, hr146⟩
        refine At.sti ?_
        have hF147 := Fr.tr hF0 hF144 rfl rfl
        have zv148 : ((-2) : Int32).toInt = (-2) := rfl
        refine At.enter rfl ?_
        refine r_ireti ?_
        obtain ⟨v149, hv149⟩ : ∃ v, gI g0 1 12 = v := ⟨_, rfl⟩
        have rv149 := RgF.at hI0.2.1 (p := 1) (b := 12) rfl
        rw [hv149] at rv149
        dsimp only at rv149
        have tv149 := congrArg Int32.toInt hv149
        have x150 := HI.eqI hI143 (p := 1) (b := 12) (((hF144.1 1 12 mf_X10_refused_0_1_12).trans hv149))
        obtain ⟨v152, hv152⟩ : ∃ v, gI g0 1 0 = v := ⟨_, rfl⟩
        have rv152 := RgF.at hI0.2.1 (p := 1) (b := 0) rfl
        rw [hv152] at rv152
        dsimp only at rv152
        have tv152 := congrArg Int32.toInt hv152
        obtain ⟨v156, hv156⟩ : ∃ v, gI g142 0 17 = v := ⟨_, rfl⟩
        have tv156 := congrArg Int32.toInt hv156
        exact ⟨_, rfl, hI143, hF147, _, rfl, by omega, ⟨⟨(by omega), (by intro i i0 i1; refine Eq.trans ?_ (if_neg (show ¬ ((0 ≤ a2.toInt ∧ a2.toInt ≤ 99 ∧ 0 ≤ a1.toInt ∧ a1.toInt < (gI g0 1 0).toInt ∧ (gI g0 1 12).toInt < 8) ∧ i = (gI g0 1 12).toInt) from by omega)).symm; refine (eA_ti ((hF144.2.1 14 ma_X10_refused_0_14))).trans ?_; (first | with_reducible rfl | omega | exact eA_ix (by omega) | rfl)), (by intro i i0 i1; refine Eq.trans ?_ (if_neg (show ¬ ((0 ≤ a2.toInt ∧ a2.toInt ≤ 99 ∧ 0 ≤ a1.toInt ∧ a1.toInt < (gI g0 1 0).toInt ∧ (gI g0 1 12).toInt < 8) ∧ i = (gI g0 1 12).toInt) from by omega)).symm; refine (eA_ti ((hF144.2.1 15 ma_X10_refused_0_15))).trans ?_; (first | with_reducible rfl | omega | exact eA_ix (by omega) | rfl))⟩, (SU.mk (by omega))⟩⟩
      · have c141_ : a1.toInt ≥ 0 := en_k_lt_f c141
        refine At.enter rfl ?_
        refine r_iload_n rfl ?_
        refine r_aload_n rfl ?_
        obtain ⟨v158, hv158⟩ : ∃ v, gI g0 1 0 = v := ⟨_, rfl⟩
        have rv158 := RgF.at hI0.2.1 (p := 1) (b := 0) rfl
        rw [hv158] at rv158
        dsimp only at rv158
        refine q_getI (Sh.int hI0.1 kx_1 rfl) v158 hv158 ?_
        have bv160 := q_bnd a1
        have bv161 := q_bnd v158
        refine r_ics 12 rfl (fun c159 => ?_) (fun c159 => ?_)
        · have c159_ : a1.toInt ≥ v158.toInt := en_i_ge_t c159
          refine At.enter rfl ?_
          refine r_iconst 0 rfl ?_
          refine Ar.fall 17 rfl ?_
          refine At.enter rfl ?_
          refine q_iretz (by decide) ?_
          refine At.enter rfl ?_
          refine r_iff 27 rfl (by decide) ?_
          refine At.enter rfl ?_
          refine r_aload_n rfl ?_
          refine r_bipush (-2) rfl ?_
          refine r_callV 33 rfl [.ref 0, .int (-2)] [] (Nat.le_of_ble_eq_true rfl) rfl (T_X10_refused_0 _ hI0 (-2) (by decide)) ?_
          rintro _ _ ⟨g162, rfl, hI163, hF164, v165, rfl, hr166⟩
          refine At.sti ?_
          have hF167 := Fr.tr hF0 hF164 rfl rfl
          have zv168 : ((-2) : Int32).toInt = (-2) := rfl
          refine At.enter rfl ?_
          refine r_ireti ?_
          obtain ⟨v169, hv169⟩ : ∃ v, gI g0 1 12 = v := ⟨_, rfl⟩
          have rv169 := RgF.at hI0.2.1 (p := 1) (b := 12) rfl
          rw [hv169] at rv169
          dsimp only at rv169
          have tv169 := congrArg Int32.toInt hv169
          have x170 := HI.eqI hI163 (p := 1) (b := 12) (((hF164.1 1 12 mf_X10_refused_0_1_12).trans hv169))
          have x172 := HI.eqI hI0 (p := 1) (b := 0) (hv158)
          have x173 := HI.eqI hI0 (p := 1) (b := 0) (hv158)
          obtain ⟨v175, hv175⟩ : ∃ v, gI g162 0 17 = v := ⟨_, rfl⟩
          have tv175 := congrArg Int32.toInt hv175
          exact ⟨_, rfl, hI163, hF167, _, rfl, by omega, ⟨⟨(by omega), (by intro i i0 i1; refine Eq.trans ?_ (if_neg (show ¬ ((0 ≤ a2.toInt ∧ a2.toInt ≤ 99 ∧ 0 ≤ a1.toInt ∧ a1.toInt < (gI g0 1 0).toInt ∧ (gI g0 1 12).toInt < 8) ∧ i = (gI g0 1 12).toInt) from by omega)).symm; refine (eA_ti ((hF164.2.1 14 ma_X10_refused_0_14))).trans ?_; (first | with_reducible rfl | omega | exact eA_ix (by omega) | rfl)), (by intro i i0 i1; refine Eq.trans ?_ (if_neg (show ¬ ((0 ≤ a2.toInt ∧ a2.toInt ≤ 99 ∧ 0 ≤ a1.toInt ∧ a1.toInt < (gI g0 1 0).toInt ∧ (gI g0 1 12).toInt < 8) ∧ i = (gI g0 1 12).toInt) from by omega)).symm; refine (eA_ti ((hF164.2.1 15 ma_X10_refused_0_15))).trans ?_; (first | with_reducible rfl | omega | exact eA_ix (by omega) | rfl))⟩, (SU.mk (by omega))⟩⟩
        · have c159_ : a1.toInt < v158.toInt := en_i_ge_f c159
          refine At.enter rfl ?_
          refine r_iconst 1 rfl ?_
          refine r_goto ?_
          refine At.enter rfl ?_
          refine q_iretz (by decide) ?_
          refine At.enter rfl ?_
          refine r_ift (by decide) ?_
          refine At.enter rfl ?_
          refine r_aload_n rfl ?_
          refine q_getR (Sh.ref hI0.1 kx_0 rfl) ?_
          obtain ⟨v177, hv177⟩ : ∃ v, gI g0 1 12 = v := ⟨_, rfl⟩
          have rv177 := RgF.at hI0.2.1 (p := 1) (b := 12) rfl
          rw [hv177] at rv177
          dsimp only at rv177
          refine q_getI (Sh.int hI0.1 kx_1 rfl) v177 hv177 ?_
          refine r_bipush 8 rfl ?_
          refine r_ics 46 rfl (fun c178 => ?_) (fun c178 => ?_)
          · have c178_ : v177.toInt < 8 := en_i_lt_t c178
            refine At.enter rfl ?_
            refine r_aload_n rfl ?_
            refine q_getR (Sh.ref hI0.1 kx_0 rfl) ?_
            refine q_getR (Sh.ref hI0.1 kx_1 rfl) ?_
            refine r_aload_n rfl ?_
            refine q_getR (Sh.ref hI0.1 kx_0 rfl) ?_
            refine q_getI (Sh.int hI0.1 kx_1 rfl) v177 hv177 ?_
            refine r_iload_n rfl ?_
            refine q_iast (Sh.arr hI0.1 ka_14) (v177.toInt) rfl (by omega) ?_
            have hI179 := HI.wA0 hI0 ka_14 (p := 14) rfl rfl (v177.toInt) (a1)
            have hF180 := Fr.wA (p := 14) (j := v177.toInt) (v := a1) hF0 rfl
            refine r_aload_n rfl ?_
            refine q_getR (Sh.ref hI179.1 kx_0 rfl) ?_
            refine q_getR (Sh.ref hI179.1 kx_1 rfl) ?_
            refine r_aload_n rfl ?_
            refine q_getR (Sh.ref hI179.1 kx_0 rfl) ?_
            refine q_getI (Sh.int hI179.1 kx_1 rfl) v177 ((gI_sW).trans hv177) ?_
            refine r_iload_n rfl ?_
            refine q_iast (Sh.arr hI179.1 ka_15) (v177.toInt) rfl (by omega) ?_
            have hI181 := HI.wA0 hI179 ka_15 (p := 15) rfl rfl (v177.toInt) (a2)
            have hF182 := Fr.wA (p := 15) (j := v177.toInt) (v := a2) hF180 rfl
            refine r_aload_n rfl ?_
            refine q_getR (Sh.ref hI181.1 kx_0 rfl) ?_
            refine r_dup rfl ?_
            refine q_getI (Sh.int hI181.1 kx_1 rfl) v177 (((gI_sW).trans (gI_sW)).trans hv177) ?_
            refine r_iconst 1 rfl ?_
            refine q_iadd (v177.toInt + 1) rfl (by omega) (fun v183 hv183 => ?_)
            refine q_putI (Sh.int hI181.1 kx_1 rfl) rfl ?_
            have hI184 := HI.wI1 hI181 kx_1 rfl (p := 1) (b := 12) (v := v183) rfl (by dsimp only; omega)
            have hF185 := Fr.wI (p := 1) (b := 12) (v := v183) hF182 rfl
            refine r_aload_n rfl ?_
            refine r_aload_n rfl ?_
            refine q_getR (Sh.ref hI184.1 kx_0 rfl) ?_
            refine q_getI (Sh.int hI184.1 kx_1 rfl) v183 (gI_sI_eq hI181.1 kx_1 rfl _) ?_
            refine q_inlV 109 rfl [.ref 0, .int v183] [] (Nat.le_of_ble_eq_true rfl) rfl ?_
            refine Ev.mk rfl rfl ⟨Nat.le_of_ble_eq_true rfl, Or.inr (q_rc hI184.1 kx_0 rfl)⟩ ?_
            show At _ none _ _ (0, [(0, .ref 0), (1, .int v183)], [], (_, _)) _
            refine At.enter rfl ?_
            refine r_aload_n rfl ?_
            refine r_iconst 0 rfl ?_
            refine q_putI (Sh.int hI184.1 kx_0 rfl) rfl ?_
            have hI186 := HI.wI0 hI184 kx_0 rfl (p := 0) (b := 17) (v := 0) rfl
            have hF187 := Fr.wI (p := 0) (b := 17) (v := 0) hF185 rfl
            refine r_iload_n rfl ?_
            refine q_ireti ?_
            refine At.enter rfl ?_
            refine r_ireti ?_
            have x188 := HI.eqI hI186 (p := 1) (b := 12) (((gI_sI_ne (by decide)).trans (gI_sI_eq hI181.1 kx_1 rfl _)))
            have x189 := HI.eqI hI0 (p := 1) (b := 12) (hv177)
            have x190 := HI.eqI hI0 (p := 1) (b := 0) (hv158)
            have x191 := HI.eqI hI0 (p := 1) (b := 0) (hv158)
            have x192 := HI.eqI hI0 (p := 1) (b := 12) (hv177)
            have x193 := HI.eqI hI186 (p := 0) (b := 17) ((gI_sI_eq hI184.1 kx_0 rfl _))
            have zv194 : (0 : Int32).toInt = 0 := rfl
            exact ⟨_, rfl, hI186, hF187, _, rfl, by omega, ⟨⟨(by omega), (by intro i i0 i1; exact (Decidable.em ((0 ≤ a2.toInt ∧ a2.toInt ≤ 99 ∧ 0 ≤ a1.toInt ∧ a1.toInt < (gI g0 1 0).toInt ∧ (gI g0 1 12).toInt < 8) ∧ i = (gI g0 1 12).toInt)).elim (fun k104_ => by refine Eq.trans ?_ (if_pos k104_).symm; refine (eA_ti (((gA_sI).trans ((gA_sI).trans (gA_sA_ne (by decide)))))).trans ?_; exact (Decidable.em (i = v177.toInt)).elim (fun k105_ => by refine (eA_eqT hI0.1 ka_14 k105_ (by first | decide | omega) (by first | decide | omega)).trans ?_; (first | (with_reducible rfl) | (omega) | (rfl))) (fun k105_ => by refine (eA_neT hI0.1 ka_14 k105_ (by first | decide | omega) (by omega)).trans ?_; (first | with_reducible rfl | omega | exact eA_ix (by omega) | rfl))) (fun k104_ => by refine Eq.trans ?_ (if_neg k104_).symm; refine (eA_ti (((gA_sI).trans ((gA_sI).trans (gA_sA_ne (by decide)))))).trans ?_; exact (Decidable.em (i = v177.toInt)).elim (fun k106_ => by refine (eA_eqT hI0.1 ka_14 k106_ (by first | decide | omega) (by first | decide | omega)).trans ?_; (first | (with_reducible rfl) | (omega) | (rfl))) (fun k106_ => by refine (eA_neT hI0.1 ka_14 k106_ (by first | decide | omega) (by omega)).trans ?_; (first | with_reducible rfl | omega | exact eA_ix (by omega) | rfl)))), (by intro i i0 i1; exact (Decidable.em ((0 ≤ a2.toInt ∧ a2.toInt ≤ 99 ∧ 0 ≤ a1.toInt ∧ a1.toInt < (gI g0 1 0).toInt ∧ (gI g0 1 12).toInt < 8) ∧ i = (gI g0 1 12).toInt)).elim (fun k107_ => by refine Eq.trans ?_ (if_pos k107_).symm; refine (eA_ti (((gA_sI).trans (gA_sI)))).trans ?_; exact (Decidable.em (i = v177.toInt)).elim (fun k108_ => by refine (eA_eqT hI179.1 ka_15 k108_ (by first | decide | omega) (by first | decide | omega)).trans ?_; (first | (with_reducible rfl) | (omega) | (rfl))) (fun k108_ => by refine (eA_neT hI179.1 ka_15 k108_ (by first | decide | omega) (by omega)).trans ?_; refine (eA_ti ((gA_sA_ne (by decide)))).trans ?_; (first | with_reducible rfl | omega | exact eA_ix (by omega) | rfl))) (fun k107_ => by refine Eq.trans ?_ (if_neg k107_).symm; refine (eA_ti (((gA_sI).trans (gA_sI)))).trans ?_; exact (Decidable.em (i = v177.toInt)).elim (fun k109_ => by refine (eA_eqT hI179.1 ka_15 k109_ (by first | decide | omega) (by first | decide | omega)).trans ?_; (first | (with_reducible rfl) | (omega) | (rfl))) (fun k109_ => by refine (eA_neT hI179.1 ka_15 k109_ (by first | decide | omega) (by omega)).trans ?_; refine (eA_ti ((gA_sA_ne (by decide)))).trans ?_; (first | with_reducible rfl | omega | exact eA_ix (by omega) | rfl))))⟩, (SU.mk (by omega))⟩⟩
          · have c178_ : v177.toInt ≥ 8 := en_i_lt_f c178
            refine At.enter rfl ?_
            refine r_aload_n rfl ?_
            refine r_bipush (-5) rfl ?_
            refine r_callV 52 rfl [.ref 0, .int (-5)] [] (Nat.le_of_ble_eq_true rfl) rfl (T_X10_refused_0 _ hI0 (-5) (by decide)) ?_
            rintro _ _ ⟨g195, rfl, hI196, hF197, v198, rfl, hr199⟩
            refine At.sti ?_
            have hF200 := Fr.tr hF0 hF197 rfl rfl
            have zv201 : ((-5) : Int32).toInt = (-5) := rfl
            refine At.enter rfl ?_
            refine r_ireti ?_
            have x202 := HI.eqI hI196 (p := 1) (b := 12) (((hF197.1 1 12 mf_X10_refused_0_1_12).trans hv177))
            have x203 := HI.eqI hI0 (p := 1) (b := 12) (hv177)
            have x204 := HI.eqI hI0 (p := 1) (b := 0) (hv158)
            have x205 := HI.eqI hI0 (p := 1) (b := 0) (hv158)
            have x206 := HI.eqI hI0 (p := 1) (b := 12) (hv177)
            obtain ⟨v207, hv207⟩ : ∃ v, gI g195 0 17 = v := ⟨_, rfl⟩
            have tv207 := congrArg Int32.toInt hv207
            exact ⟨_, rfl, hI196, hF200, _, rfl, by omega, ⟨⟨(by omega), (by intro i i0 i1; refine Eq.trans ?_ (if_neg (show ¬ ((0 ≤ a2.toInt ∧ a2.toInt ≤ 99 ∧ 0 ≤ a1.toInt ∧ a1.toInt < (gI g0 1 0).toInt ∧ (gI g0 1 12).toInt < 8) ∧ i = (gI g0 1 12).toInt) from by omega)).symm; refine (eA_ti ((hF197.2.1 14 ma_X10_refused_0_14))).trans ?_; (first | with_reducible rfl | omega | exact eA_ix (by omega) | rfl)), (by intro i i0 i1; refine Eq.trans ?_ (if_neg (show ¬ ((0 ≤ a2.toInt ∧ a2.toInt ≤ 99 ∧ 0 ≤ a1.toInt ∧ a1.toInt < (gI g0 1 0).toInt ∧ (gI g0 1 12).toInt < 8) ∧ i = (gI g0 1 12).toInt) from by omega)).symm; refine (eA_ti ((hF197.2.1 15 ma_X10_refused_0_15))).trans ?_; (first | with_reducible rfl | omega | exact eA_ix (by omega) | rfl))⟩, (SU.mk (by omega))⟩⟩

def F_X10_clear_0 : List (Nat × Nat) := [(1, 12)]
def A_X10_clear_0 : List Nat := []
set_option maxRecDepth 100000 in
set_option maxHeartbeats 4000000 in
theorem T_X10_clear_0 (d : Nat) {N : Nat} {g0 : List en_E} (hI0 : HI g0) : Ev (d + 1) 135 [.ref 0] (g0, N) (fun w h' => ∃ g', h' = (g', N) ∧ HI g' ∧ Fr F_X10_clear_0 A_X10_clear_0 g0 g' ∧ ∃ r : Int32, w = some (.int r) ∧ (0 ≤ r.toInt ∧ r.toInt ≤ 8) ∧ (r.toInt = (gI g0 1 12).toInt ∧ (gI g' 1 12).toInt = 0)) := by
  have hF0 : Fr F_X10_clear_0 A_X10_clear_0 g0 g0 := Fr.rf
  refine Ev.mk rfl rfl ⟨Nat.le_of_ble_eq_true rfl, Or.inr (q_rc hI0.1 kx_0 rfl)⟩ ?_
  show At _ none _ _ (0, [(0, .ref 0)], [], (_, _)) _
  refine At.enter rfl ?_
  refine r_aload_n rfl ?_
  refine q_getR (Sh.ref hI0.1 kx_0 rfl) ?_
  obtain ⟨v7, hv7⟩ : ∃ v, gI g0 1 12 = v := ⟨_, rfl⟩
  have rv7 := RgF.at hI0.2.1 (p := 1) (b := 12) rfl
  rw [hv7] at rv7
  dsimp only at rv7
  refine q_getI (Sh.int hI0.1 kx_1 rfl) v7 hv7 ?_
  refine r_istore_n ([(1, .int v7), (0, .ref 0)]) rfl ?_
  refine r_aload_n rfl ?_
  refine q_getR (Sh.ref hI0.1 kx_0 rfl) ?_
  refine r_iconst 0 rfl ?_
  refine q_putI (Sh.int hI0.1 kx_1 rfl) rfl ?_
  have hI8 := HI.wI1 hI0 kx_1 rfl (p := 1) (b := 12) (v := 0) rfl (by decide)
  have hF9 := Fr.wI (p := 1) (b := 12) (v := 0) hF0 rfl
  refine r_iload_n rfl ?_
  refine r_ireti ?_
  have x10 := HI.eqI hI8 (p := 1) (b := 12) ((gI_sI_eq hI0.1 kx_1 rfl _))
  have zv11 : (0 : Int32).toInt = 0 := rfl
  have x12 := HI.eqI hI0 (p := 1) (b := 12) (hv7)
  exact ⟨_, rfl, hI8, hF9, _, rfl, by omega, (by omega)⟩
