def F_X10_put_0 : List (Nat × Nat) := [(0, 14), (0, 17), (220, 2), (222, 2), (223, 5), (223, 10)]
def A_X10_put_0 : List Nat := [2, 3, 4, 230]
set_option maxRecDepth 100000 in
set_option maxHeartbeats 4000000 in
theorem T_X10_put_0 (d : Nat) {N : Nat} {g0 : List en_E} (hI0 : HI g0) (a1 : Int32) (a2 : Int32) (a3 : Int32) : Ev (d + 3) 105 [.ref 0, .int a1, .int a2, .int a3] (g0, N) (fun w h' => ∃ g', h' = (g', N) ∧ HI g' ∧ Fr F_X10_put_0 A_X10_put_0 g0 g' ∧ ∃ r : Int32, w = some (.int r) ∧ True ∧ ((((¬ ((a2.toInt = 0 ∧ -1 ≤ a3.toInt ∧ a3.toInt ≤ 11) ∨ (a2.toInt = 1 ∧ 1 ≤ a3.toInt ∧ a3.toInt ≤ 9) ∨ (a2.toInt = 2 ∧ 0 ≤ a3.toInt ∧ a3.toInt ≤ 99)) → r.toInt = -1) ∧ (((a2.toInt = 0 ∧ -1 ≤ a3.toInt ∧ a3.toInt ≤ 11) ∨ (a2.toInt = 1 ∧ 1 ≤ a3.toInt ∧ a3.toInt ≤ 9) ∨ (a2.toInt = 2 ∧ 0 ≤ a3.toInt ∧ a3.toInt ≤ 99)) ∧ ¬ (0 ≤ a1.toInt ∧ a1.toInt < (gI g0 1 0).toInt) → r.toInt = -2) ∧ (a2.toInt = 0 ∧ -1 ≤ a3.toInt ∧ a3.toInt ≤ 11 ∧ 0 ≤ a1.toInt ∧ a1.toInt < (gI g0 1 0).toInt → r.toInt = (eA g0 2 a1.toInt).toInt) ∧ (a2.toInt = 1 ∧ 1 ≤ a3.toInt ∧ a3.toInt ≤ 9 ∧ 0 ≤ a1.toInt ∧ a1.toInt < (gI g0 1 0).toInt → r.toInt = (eA g0 3 a1.toInt).toInt) ∧ (a2.toInt = 2 ∧ 0 ≤ a3.toInt ∧ a3.toInt ≤ 99 ∧ 0 ≤ a1.toInt ∧ a1.toInt < (gI g0 1 0).toInt → r.toInt = (eA g0 4 a1.toInt).toInt)) ∧ (∀ i : Int, 0 ≤ i → i < 12 → (eA g' 2 (i)).toInt = if (a2.toInt = 0 ∧ -1 ≤ a3.toInt ∧ a3.toInt ≤ 11 ∧ 0 ≤ a1.toInt ∧ a1.toInt < (gI g0 1 0).toInt) ∧ i = a1.toInt then a3.toInt else (eA g0 2 (i)).toInt) ∧ (∀ i : Int, 0 ≤ i → i < 12 → (eA g' 3 (i)).toInt = if (a2.toInt = 1 ∧ 1 ≤ a3.toInt ∧ a3.toInt ≤ 9 ∧ 0 ≤ a1.toInt ∧ a1.toInt < (gI g0 1 0).toInt) ∧ i = a1.toInt then a3.toInt else (eA g0 3 (i)).toInt) ∧ (∀ i : Int, 0 ≤ i → i < 12 → (eA g' 4 (i)).toInt = if (a2.toInt = 2 ∧ 0 ≤ a3.toInt ∧ a3.toInt ≤ 99 ∧ 0 ≤ a1.toInt ∧ a1.toInt < (gI g0 1 0).toInt) ∧ i = a1.toInt then a3.toInt else (eA g0 4 (i)).toInt)) ∧ ((TOLDX g0 → TOLDX g') ∧ (SETX g0 → SETX g')))) := by
  have hF0 : Fr F_X10_put_0 A_X10_put_0 g0 g0 := Fr.rf
  refine Ev.mk rfl rfl ⟨Nat.le_of_ble_eq_true rfl, Or.inr (q_rc hI0.1 kx_0 rfl)⟩ ?_
  show At _ none _ _ (0, [(0, .ref 0), (1, .int a1), (2, .int a2), (3, .int a3)], [], (_, _)) _
  refine At.enter rfl ?_
  refine r_iload_n rfl ?_
  refine r_ifs 4 rfl (fun c319 => ?_) (fun c319 => ?_)
  · have c319_ : a2.toInt ≠ 0 := en_k_ne_t c319
    refine At.enter rfl ?_
    refine r_iload_n rfl ?_
    refine r_iconst 1 rfl ?_
    refine r_ics 19 rfl (fun c320 => ?_) (fun c320 => ?_)
    · have c320_ : a2.toInt ≠ 1 := en_i_ne_t c320
      refine At.enter rfl ?_
      refine r_iload_n rfl ?_
      refine r_iconst 2 rfl ?_
      refine r_ics 31 rfl (fun c321 => ?_) (fun c321 => ?_)
      · have c321_ : a2.toInt ≠ 2 := en_i_ne_t c321
        refine At.enter rfl ?_
        refine r_iconst 0 rfl ?_
        refine Ar.fall 43 rfl ?_
        refine At.enter rfl ?_
        refine r_istore ([(4, .int 0), (0, .ref 0), (1, .int a1), (2, .int a2), (3, .int a3)]) rfl ?_
        refine r_iload rfl ?_
        refine r_iff 50 rfl (by decide) ?_
        refine At.enter rfl ?_
        refine r_aload_n rfl ?_
        refine r_iconst (-1) rfl ?_
        refine r_callV 55 rfl [.ref 0, .int (-1)] [] (Nat.le_of_ble_eq_true rfl) rfl (T_X10_refused_0 _ hI0 (-1) (by decide)) ?_
        rintro _ _ ⟨g322, rfl, hI323, hF324, v325, rfl, hr326⟩
        refine At.sti ?_
        have hF327 := Fr.tr hF0 hF324 rfl rfl
        have zv328 : ((-1) : Int32).toInt = (-1) := rfl
        refine At.enter rfl ?_
        refine r_ireti ?_
        obtain ⟨v329, hv329⟩ : ∃ v, gI g0 1 0 = v := ⟨_, rfl⟩
        have rv329 := RgF.at hI0.2.1 (p := 1) (b := 0) rfl
        rw [hv329] at rv329
        dsimp only at rv329
        have tv329 := congrArg Int32.toInt hv329
        exact ⟨_, rfl, hI323, hF327, _, rfl, trivial, ⟨⟨⟨by omega, by omega, by omega, by omega, by omega⟩, (by intro i i0 i1; refine Eq.trans ?_ (if_neg (show ¬ ((a2.toInt = 0 ∧ -1 ≤ a3.toInt ∧ a3.toInt ≤ 11 ∧ 0 ≤ a1.toInt ∧ a1.toInt < (gI g0 1 0).toInt) ∧ i = a1.toInt) from by omega)).symm; refine (eA_ti ((hF324.2.1 2 ma_X10_refused_0_2))).trans ?_; (first | with_reducible rfl | omega | exact eA_ix (by omega) | rfl)), (by intro i i0 i1; refine Eq.trans ?_ (if_neg (show ¬ ((a2.toInt = 1 ∧ 1 ≤ a3.toInt ∧ a3.toInt ≤ 9 ∧ 0 ≤ a1.toInt ∧ a1.toInt < (gI g0 1 0).toInt) ∧ i = a1.toInt) from by omega)).symm; refine (eA_ti ((hF324.2.1 3 ma_X10_refused_0_3))).trans ?_; (first | with_reducible rfl | omega | exact eA_ix (by omega) | rfl)), (by intro i i0 i1; refine Eq.trans ?_ (if_neg (show ¬ ((a2.toInt = 2 ∧ 0 ≤ a3.toInt ∧ a3.toInt ≤ 99 ∧ 0 ≤ a1.toInt ∧ a1.toInt < (gI g0 1 0).toInt) ∧ i = a1.toInt) from by omega)).symm; refine (eA_ti ((hF324.2.1 4 ma_X10_refused_0_4))).trans ?_; (first | with_reducible rfl | omega | exact eA_ix (by omega) | rfl))⟩, ⟨(fun t => (TOLDX_fr hF324 rfl rfl rfl rfl t)), (fun t => (SETX_fr hF324 rfl rfl rfl rfl rfl t))⟩⟩⟩
      · have c321_ : a2.toInt = 2 := en_i_ne_f c321
        refine At.enter rfl ?_
        refine r_iload_n rfl ?_
        refine q_inlS 35 rfl [.int a3] [] (Nat.le_of_ble_eq_true rfl) rfl ?_
        refine Ev.mk rfl rfl ⟨Nat.le_of_ble_eq_true rfl, Or.inl rfl⟩ ?_
        show At _ none _ _ (0, [(0, .int a3)], [], (_, _)) _
        refine At.enter rfl ?_
        refine r_iload_n rfl ?_
        refine r_iconst 0 rfl ?_
        refine r_bipush 99 rfl ?_
        refine q_inlS 7 rfl [.int a3, .int 0, .int 99] [] (Nat.le_of_ble_eq_true rfl) rfl ?_
        refine Ev.mk rfl rfl ⟨Nat.le_of_ble_eq_true rfl, Or.inl rfl⟩ ?_
        show At _ none _ _ (0, [(0, .int a3), (1, .int 0), (2, .int 99)], [], (_, _)) _
        refine At.enter rfl ?_
        refine r_iload_n rfl ?_
        refine r_iload_n rfl ?_
        refine r_ics 5 rfl (fun c332 => ?_) (fun c332 => ?_)
        · have c332_ : a3.toInt < 0 := en_i_lt_t c332
          refine At.enter rfl ?_
          refine r_iconst 0 rfl ?_
          refine Ar.fall 15 rfl ?_
          refine At.enter rfl ?_
          refine q_iretz (by decide) ?_
          refine At.enter rfl ?_
          refine q_iretz (by decide) ?_
          refine At.enter rfl ?_
          refine r_ift (by decide) ?_
          refine At.enter rfl ?_
          refine r_iconst 0 rfl ?_
          refine Ar.fall 43 rfl ?_
          refine At.enter rfl ?_
          refine r_istore ([(4, .int 0), (0, .ref 0), (1, .int a1), (2, .int a2), (3, .int a3)]) rfl ?_
          refine r_iload rfl ?_
          refine r_iff 50 rfl (by decide) ?_
          refine At.enter rfl ?_
          refine r_aload_n rfl ?_
          refine r_iconst (-1) rfl ?_
          refine r_callV 55 rfl [.ref 0, .int (-1)] [] (Nat.le_of_ble_eq_true rfl) rfl (T_X10_refused_0 _ hI0 (-1) (by decide)) ?_
          rintro _ _ ⟨g333, rfl, hI334, hF335, v336, rfl, hr337⟩
          refine At.sti ?_
          have hF338 := Fr.tr hF0 hF335 rfl rfl
          have zv339 : ((-1) : Int32).toInt = (-1) := rfl
          refine At.enter rfl ?_
          refine r_ireti ?_
          obtain ⟨v340, hv340⟩ : ∃ v, gI g0 1 0 = v := ⟨_, rfl⟩
          have rv340 := RgF.at hI0.2.1 (p := 1) (b := 0) rfl
          rw [hv340] at rv340
          dsimp only at rv340
          have tv340 := congrArg Int32.toInt hv340
          exact ⟨_, rfl, hI334, hF338, _, rfl, trivial, ⟨⟨⟨by omega, by omega, by omega, by omega, by omega⟩, (by intro i i0 i1; refine Eq.trans ?_ (if_neg (show ¬ ((a2.toInt = 0 ∧ -1 ≤ a3.toInt ∧ a3.toInt ≤ 11 ∧ 0 ≤ a1.toInt ∧ a1.toInt < (gI g0 1 0).toInt) ∧ i = a1.toInt) from by omega)).symm; refine (eA_ti ((hF335.2.1 2 ma_X10_refused_0_2))).trans ?_; (first | with_reducible rfl | omega | exact eA_ix (by omega) | rfl)), (by intro i i0 i1; refine Eq.trans ?_ (if_neg (show ¬ ((a2.toInt = 1 ∧ 1 ≤ a3.toInt ∧ a3.toInt ≤ 9 ∧ 0 ≤ a1.toInt ∧ a1.toInt < (gI g0 1 0).toInt) ∧ i = a1.toInt) from by omega)).symm; refine (eA_ti ((hF335.2.1 3 ma_X10_refused_0_3))).trans ?_; (first | with_reducible rfl | omega | exact eA_ix (by omega) | rfl)), (by intro i i0 i1; refine Eq.trans ?_ (if_neg (show ¬ ((a2.toInt = 2 ∧ 0 ≤ a3.toInt ∧ a3.toInt ≤ 99 ∧ 0 ≤ a1.toInt ∧ a1.toInt < (gI g0 1 0).toInt) ∧ i = a1.toInt) from by omega)).symm; refine (eA_ti ((hF335.2.1 4 ma_X10_refused_0_4))).trans ?_; (first | with_reducible rfl | omega | exact eA_ix (by omega) | rfl))⟩, ⟨(fun t => (TOLDX_fr hF335 rfl rfl rfl rfl t)), (fun t => (SETX_fr hF335 rfl rfl rfl rfl rfl t))⟩⟩⟩
        · have c332_ : a3.toInt ≥ 0 := en_i_lt_f c332
          refine At.enter rfl ?_
          refine r_iload_n rfl ?_
          refine r_iload_n rfl ?_
          refine r_ics 10 rfl (fun c343 => ?_) (fun c343 => ?_)
          · have c343_ : a3.toInt > 99 := en_i_gt_t c343
            refine At.enter rfl ?_
            refine r_iconst 0 rfl ?_
            refine Ar.fall 15 rfl ?_
            refine At.enter rfl ?_
            refine q_iretz (by decide) ?_
            refine At.enter rfl ?_
            refine q_iretz (by decide) ?_
            refine At.enter rfl ?_
            refine r_ift (by decide) ?_
            refine At.enter rfl ?_
            refine r_iconst 0 rfl ?_
            refine Ar.fall 43 rfl ?_
            refine At.enter rfl ?_
            refine r_istore ([(4, .int 0), (0, .ref 0), (1, .int a1), (2, .int a2), (3, .int a3)]) rfl ?_
            refine r_iload rfl ?_
            refine r_iff 50 rfl (by decide) ?_
            refine At.enter rfl ?_
            refine r_aload_n rfl ?_
            refine r_iconst (-1) rfl ?_
            refine r_callV 55 rfl [.ref 0, .int (-1)] [] (Nat.le_of_ble_eq_true rfl) rfl (T_X10_refused_0 _ hI0 (-1) (by decide)) ?_
            rintro _ _ ⟨g344, rfl, hI345, hF346, v347, rfl, hr348⟩
            refine At.sti ?_
            have hF349 := Fr.tr hF0 hF346 rfl rfl
            have zv350 : ((-1) : Int32).toInt = (-1) := rfl
            refine At.enter rfl ?_
            refine r_ireti ?_
            obtain ⟨v351, hv351⟩ : ∃ v, gI g0 1 0 = v := ⟨_, rfl⟩
            have rv351 := RgF.at hI0.2.1 (p := 1) (b := 0) rfl
            rw [hv351] at rv351
            dsimp only at rv351
            have tv351 := congrArg Int32.toInt hv351
            exact ⟨_, rfl, hI345, hF349, _, rfl, trivial, ⟨⟨⟨by omega, by omega, by omega, by omega, by omega⟩, (by intro i i0 i1; refine Eq.trans ?_ (if_neg (show ¬ ((a2.toInt = 0 ∧ -1 ≤ a3.toInt ∧ a3.toInt ≤ 11 ∧ 0 ≤ a1.toInt ∧ a1.toInt < (gI g0 1 0).toInt) ∧ i = a1.toInt) from by omega)).symm; refine (eA_ti ((hF346.2.1 2 ma_X10_refused_0_2))).trans ?_; (first | with_reducible rfl | omega | exact eA_ix (by omega) | rfl)), (by intro i i0 i1; refine Eq.trans ?_ (if_neg (show ¬ ((a2.toInt = 1 ∧ 1 ≤ a3.toInt ∧ a3.toInt ≤ 9 ∧ 0 ≤ a1.toInt ∧ a1.toInt < (gI g0 1 0).toInt) ∧ i = a1.toInt) from by omega)).symm; refine (eA_ti ((hF346.2.1 3 ma_X10_refused_0_3))).trans ?_; (first | with_reducible rfl | omega | exact eA_ix (by omega) | rfl)), (by intro i i0 i1; refine Eq.trans ?_ (if_neg (show ¬ ((a2.toInt = 2 ∧ 0 ≤ a3.toInt ∧ a3.toInt ≤ 99 ∧ 0 ≤ a1.toInt ∧ a1.toInt < (gI g0 1 0).toInt) ∧ i = a1.toInt) from by omega)).symm; refine (eA_ti ((hF346.2.1 4 ma_X10_refused_0_4))).trans ?_; (first | with_reducible rfl | omega | exact eA_ix (by omega) | rfl))⟩, ⟨(fun t => (TOLDX_fr hF346 rfl rfl rfl rfl t)), (fun t => (SETX_fr hF346 rfl rfl rfl rfl rfl t))⟩⟩⟩
          · have c343_ : a3.toInt ≤ 99 := en_i_gt_f c343
            refine At.enter rfl ?_
            refine r_iconst 1 rfl ?_
            refine r_goto ?_
            refine At.enter rfl ?_
            refine q_iretz (by decide) ?_
            refine At.enter rfl ?_
            refine q_iretz (by decide) ?_
            refine At.enter rfl ?_
            refine r_iff 38 rfl (by decide) ?_
            refine At.enter rfl ?_
            refine r_iconst 1 rfl ?_
            refine r_goto ?_
            refine At.enter rfl ?_
            refine r_istore ([(4, .int 1), (0, .ref 0), (1, .int a1), (2, .int a2), (3, .int a3)]) rfl ?_
            refine r_iload rfl ?_
            refine r_ift (by decide) ?_
            refine At.enter rfl ?_
            refine r_aload_n rfl ?_
            refine q_getR (Sh.ref hI0.1 kx_0 rfl) ?_
            refine r_iload_n rfl ?_
            refine q_inlV 64 rfl [.ref 1, .int a1] [] (Nat.le_of_ble_eq_true rfl) rfl ?_
            refine Ev.mk rfl rfl ⟨Nat.le_of_ble_eq_true rfl, Or.inr (q_rc hI0.1 kx_1 rfl)⟩ ?_
            show At _ none _ _ (0, [(0, .ref 1), (1, .int a1)], [], (_, _)) _
            refine At.enter rfl ?_
            refine r_iload_n rfl ?_
            refine r_ifs 4 rfl (fun c354 => ?_) (fun c354 => ?_)
            · have c354_ : a1.toInt < 0 := en_k_lt_t c354
              refine At.enter rfl ?_
              refine r_iconst 0 rfl ?_
              refine Ar.fall 17 rfl ?_
              refine At.enter rfl ?_
              refine q_iretz (by decide) ?_
              refine At.enter rfl ?_
              refine r_iff 67 rfl (by decide) ?_
              refine At.enter rfl ?_
              refine r_aload_n rfl ?_
              refine r_bipush (-2) rfl ?_
              refine r_callV 73 rfl [.ref 0, .int (-2)] [] (Nat.le_of_ble_eq_true rfl) rfl (T_X10_refused_0 _ hI0 (-2) (by decide)) ?_
              rintro _ _ ⟨g355, rfl, hI356, hF357, v358, rfl, hr359⟩
              refine At.sti ?_
              have hF360 := Fr.tr hF0 hF357 rfl rfl
              have zv361 : ((-2) : Int32).toInt = (-2) := rfl
              refine At.enter rfl ?_
              refine r_ireti ?_
              obtain ⟨v362, hv362⟩ : ∃ v, gI g0 1 0 = v := ⟨_, rfl⟩
              have rv362 := RgF.at hI0.2.1 (p := 1) (b := 0) rfl
              rw [hv362] at rv362
              dsimp only at rv362
              have tv362 := congrArg Int32.toInt hv362
              exact ⟨_, rfl, hI356, hF360, _, rfl, trivial, ⟨⟨⟨by omega, by omega, by omega, by omega, by omega⟩, (by intro i i0 i1; refine Eq.trans ?_ (if_neg (show ¬ ((a2.toInt = 0 ∧ -1 ≤ a3.toInt ∧ a3.toInt ≤ 11 ∧ 0 ≤ a1.toInt ∧ a1.toInt < (gI g0 1 0).toInt) ∧ i = a1.toInt) from by omega)).symm; refine (eA_ti ((hF357.2.1 2 ma_X10_refused_0_2))).trans ?_; (first | with_reducible rfl | omega | exact eA_ix (by omega) | rfl)), (by intro i i0 i1; refine Eq.trans ?_ (if_neg (show ¬ ((a2.toInt = 1 ∧ 1 ≤ a3.toInt ∧ a3.toInt ≤ 9 ∧ 0 ≤ a1.toInt ∧ a1.toInt < (gI g0 1 0).toInt) ∧ i = a1.toInt) from by omega)).symm; refine (eA_ti ((hF357.2.1 3 ma_X10_refused_0_3))).trans ?_; (first | with_reducible rfl | omega | exact eA_ix (by omega) | rfl)), (by intro i i0 i1; refine Eq.trans ?_ (if_neg (show ¬ ((a2.toInt = 2 ∧ 0 ≤ a3.toInt ∧ a3.toInt ≤ 99 ∧ 0 ≤ a1.toInt ∧ a1.toInt < (gI g0 1 0).toInt) ∧ i = a1.toInt) from by omega)).symm; refine (eA_ti ((hF357.2.1 4 ma_X10_refused_0_4))).trans ?_; (first | with_reducible rfl | omega | exact eA_ix (by omega) | rfl))⟩, ⟨(fun t => (TOLDX_fr hF357 rfl rfl rfl rfl t)), (fun t => (SETX_fr hF357 rfl rfl rfl rfl rfl t))⟩⟩⟩
            · have c354_ : a1.toInt ≥ 0 := en_k_lt_f c354
              refine At.enter rfl ?_
              refine r_iload_n rfl ?_
              refine r_aload_n rfl ?_
              obtain ⟨v365, hv365⟩ : ∃ v, gI g0 1 0 = v := ⟨_, rfl⟩
              have rv365 := RgF.at hI0.2.1 (p := 1) (b := 0) rfl
              rw [hv365] at rv365
              dsimp only at rv365
              refine q_getI (Sh.int hI0.1 kx_1 rfl) v365 hv365 ?_
              have bv367 := q_bnd a1
              have bv368 := q_bnd v365
              refine r_ics 12 rfl (fun c366 => ?_) (fun c366 => ?_)
              · have c366_ : a1.toInt ≥ v365.toInt := en_i_ge_t c366
                refine At.enter rfl ?_
                refine r_iconst 0 rfl ?_
                refine Ar.fall 17 rfl ?_
                refine At.enter rfl ?_
                refine q_iretz (by decide) ?_
                refine At.enter rfl ?_
                refine r_iff 67 rfl (by decide) ?_
                refine At.enter rfl ?_
                refine r_aload_n rfl ?_
                refine r_bipush (-2) rfl ?_
                refine r_callV 73 rfl [.ref 0, .int (-2)] [] (Nat.le_of_ble_eq_true rfl) rfl (T_X10_refused_0 _ hI0 (-2) (by decide)) ?_
                rintro _ _ ⟨g369, rfl, hI370, hF371, v372, rfl, hr373⟩
                refine At.sti ?_
                have hF374 := Fr.tr hF0 hF371 rfl rfl
                have zv375 : ((-2) : Int32).toInt = (-2) := rfl
                refine At.enter rfl ?_
                refine r_ireti ?_
                have x376 := HI.eqI hI0 (p := 1) (b := 0) (hv365)
                have x377 := HI.eqI hI0 (p := 1) (b := 0) (hv365)
                exact ⟨_, rfl, hI370, hF374, _, rfl, trivial, ⟨⟨⟨by omega, by omega, by omega, by omega, by omega⟩, (by intro i i0 i1; refine Eq.trans ?_ (if_neg (show ¬ ((a2.toInt = 0 ∧ -1 ≤ a3.toInt ∧ a3.toInt ≤ 11 ∧ 0 ≤ a1.toInt ∧ a1.toInt < (gI g0 1 0).toInt) ∧ i = a1.toInt) from by omega)).symm; refine (eA_ti ((hF371.2.1 2 ma_X10_refused_0_2))).trans ?_; (first | with_reducible rfl | omega | exact eA_ix (by omega) | rfl)), (by intro i i0 i1; refine Eq.trans ?_ (if_neg (show ¬ ((a2.toInt = 1 ∧ 1 ≤ a3.toInt ∧ a3.toInt ≤ 9 ∧ 0 ≤ a1.toInt ∧ a1.toInt < (gI g0 1 0).toInt) ∧ i = a1.toInt) from by omega)).symm; refine (eA_ti ((hF371.2.1 3 ma_X10_refused_0_3))).trans ?_; (first | with_reducible rfl | omega | exact eA_ix (by omega) | rfl)), (by intro i i0 i1; refine Eq.trans ?_ (if_neg (show ¬ ((a2.toInt = 2 ∧ 0 ≤ a3.toInt ∧ a3.toInt ≤ 99 ∧ 0 ≤ a1.toInt ∧ a1.toInt < (gI g0 1 0).toInt) ∧ i = a1.toInt) from by omega)).symm; refine (eA_ti ((hF371.2.1 4 ma_X10_refused_0_4))).trans ?_; (first | with_reducible rfl | omega | exact eA_ix (by omega) | rfl))⟩, ⟨(fun t => (TOLDX_fr hF371 rfl rfl rfl rfl t)), (fun t => (SETX_fr hF371 rfl rfl rfl rfl rfl t))⟩⟩⟩
              · have c366_ : a1.toInt < v365.toInt := en_i_ge_f c366
                refine At.enter rfl ?_
                refine r_iconst 1 rfl ?_
                refine r_goto ?_
                refine At.enter rfl ?_
                refine q_iretz (by decide) ?_
                refine At.enter rfl ?_
                refine r_ift (by decide) ?_
                refine At.enter rfl ?_
                refine r_iload_n rfl ?_
                refine r_ifs 78 rfl (fun c378 => ?_) (fun c378 => ?_)
                · have c378_ : a2.toInt ≠ 0 := en_k_ne_t c378
                  refine At.enter rfl ?_
                  refine r_iload_n rfl ?_
                  refine r_iconst 1 rfl ?_
                  refine r_ics 93 rfl (fun c379 => ?_) (fun c379 => ?_)
                  · have c379_ : a2.toInt ≠ 1 := en_i_ne_t c379
                    refine At.enter rfl ?_
                    refine r_aload_n rfl ?_
                    refine q_getR (Sh.ref hI0.1 kx_0 rfl) ?_
                    refine q_getR (Sh.ref hI0.1 kx_1 rfl) ?_
                    refine Ar.fall 110 rfl ?_
                    refine At.enter rfl ?_
                    refine r_astore ([(5, .ref 4), (4, .int 1), (0, .ref 0), (1, .int a1), (2, .int a2), (3, .int a3)]) rfl ?_
                    refine r_aload rfl ?_
                    refine r_iload_n rfl ?_
                    obtain ⟨v380, hv380⟩ : ∃ v, eA g0 4 a1.toInt = v := ⟨_, rfl⟩
                    refine q_iald (Sh.arr hI0.1 ka_4) a1.toInt rfl (by omega) v380 hv380 ?_
                    refine r_istore ([(6, .int v380), (5, .ref 4), (4, .int 1), (0, .ref 0), (1, .int a1), (2, .int a2), (3, .int a3)]) rfl ?_
                    refine r_aload rfl ?_
                    refine r_iload_n rfl ?_
                    refine r_iload_n rfl ?_
                    refine q_iast (Sh.arr hI0.1 ka_4) (a1.toInt) rfl (by omega) ?_
                    have hI381 := HI.wA0 hI0 ka_4 (p := 4) rfl rfl (a1.toInt) (a3)
                    have hF382 := Fr.wA (p := 4) (j := a1.toInt) (v := a3) hF0 rfl
                    refine r_aload_n rfl ?_
                    refine r_callV 127 rfl [.ref 0] [] (Nat.le_of_ble_eq_true rfl) rfl (T_X10_changed_0 _ hI381) ?_
                    rintro _ _ ⟨g383, rfl, hI384, hF385, rfl, hr387⟩
                    refine At.stn ?_
                    have hF388 := Fr.tr hF382 hF385 rfl rfl
                    refine At.enter rfl ?_
                    refine r_aload_n rfl ?_
                    refine r_iload rfl ?_
                    refine q_inlV 133 rfl [.ref 0, .int v380] [] (Nat.le_of_ble_eq_true rfl) rfl ?_
                    refine Ev.mk rfl rfl ⟨Nat.le_of_ble_eq_true rfl, Or.inr (q_rc hI384.1 kx_0 rfl)⟩ ?_
                    show At _ none _ _ (0, [(0, .ref 0), (1, .int v380)], [], (_, _)) _
                    refine At.enter rfl ?_
                    refine r_aload_n rfl ?_
                    refine r_iconst 0 rfl ?_
                    refine q_putI (Sh.int hI384.1 kx_0 rfl) rfl ?_
                    have hI389 := HI.wI0 hI384 kx_0 rfl (p := 0) (b := 17) (v := 0) rfl
                    have hF390 := Fr.wI (p := 0) (b := 17) (v := 0) hF388 rfl
                    refine r_iload_n rfl ?_
                    refine q_ireti ?_
                    refine At.enter rfl ?_
                    refine r_ireti ?_
                    have x391 := HI.eqI hI0 (p := 1) (b := 0) (hv365)
                    have y392 := congrArg Int32.toInt hv380
                    have x393 := HI.eqI hI0 (p := 1) (b := 0) (hv365)
                    exact ⟨_, rfl, hI389, hF390, _, rfl, trivial, ⟨⟨⟨by omega, by omega, by omega, by omega, by omega⟩, (by intro i i0 i1; refine Eq.trans ?_ (if_neg (show ¬ ((a2.toInt = 0 ∧ -1 ≤ a3.toInt ∧ a3.toInt ≤ 11 ∧ 0 ≤ a1.toInt ∧ a1.toInt < (gI g0 1 0).toInt) ∧ i = a1.toInt) from by omega)).symm; refine (eA_ti (((gA_sI).trans ((hF385.2.1 2 ma_X10_changed_0_2).trans (gA_sA_ne (by decide)))))).trans ?_; (first | with_reducible rfl | omega | exact eA_ix (by omega) | rfl)), (by intro i i0 i1; refine Eq.trans ?_ (if_neg (show ¬ ((a2.toInt = 1 ∧ 1 ≤ a3.toInt ∧ a3.toInt ≤ 9 ∧ 0 ≤ a1.toInt ∧ a1.toInt < (gI g0 1 0).toInt) ∧ i = a1.toInt) from by omega)).symm; refine (eA_ti (((gA_sI).trans ((hF385.2.1 3 ma_X10_changed_0_3).trans (gA_sA_ne (by decide)))))).trans ?_; (first | with_reducible rfl | omega | exact eA_ix (by omega) | rfl)), (by intro i i0 i1; exact (Decidable.em ((a2.toInt = 2 ∧ 0 ≤ a3.toInt ∧ a3.toInt ≤ 99 ∧ 0 ≤ a1.toInt ∧ a1.toInt < (gI g0 1 0).toInt) ∧ i = a1.toInt)).elim (fun k72_ => by refine Eq.trans ?_ (if_pos k72_).symm; refine (eA_ti (((gA_sI).trans (hF385.2.1 4 ma_X10_changed_0_4)))).trans ?_; exact (Decidable.em (i = a1.toInt)).elim (fun k73_ => by refine (eA_eqT hI0.1 ka_4 k73_ (by first | decide | omega) (by first | decide | omega)).trans ?_; (first | (with_reducible rfl) | (omega) | (rfl))) (fun k73_ => by refine (eA_neT hI0.1 ka_4 k73_ (by first | decide | omega) (by omega)).trans ?_; (first | with_reducible rfl | omega | exact eA_ix (by omega) | rfl))) (fun k72_ => by refine Eq.trans ?_ (if_neg k72_).symm; refine (eA_ti (((gA_sI).trans (hF385.2.1 4 ma_X10_changed_0_4)))).trans ?_; exact (Decidable.em (i = a1.toInt)).elim (fun k74_ => by refine (eA_eqT hI0.1 ka_4 k74_ (by first | decide | omega) (by first | decide | omega)).trans ?_; (first | (with_reducible rfl) | (omega) | (rfl))) (fun k74_ => by refine (eA_neT hI0.1 ka_4 k74_ (by first | decide | omega) (by omega)).trans ?_; (first | with_reducible rfl | omega | exact eA_ix (by omega) | rfl))))⟩, ⟨(fun _ => TOLDX_z ((congrArg Int32.toInt ((gI_sI_ne (by decide)))).trans hr387.1)), (fun _ => SETX_z ((congrArg Int32.toInt ((gI_sI_ne (by decide)))).trans hr387.2))⟩⟩⟩
                  · have c379_ : a2.toInt = 1 := en_i_ne_f c379
                    exfalso; omega
                · have c378_ : a2.toInt = 0 := en_k_ne_f c378
                  exfalso; omega
    · have c320_ : a2.toInt = 1 := en_i_ne_f c320
      refine At.enter rfl ?_
      refine r_iload_n rfl ?_
      refine q_inlS 23 rfl [.int a3] [] (Nat.le_of_ble_eq_true rfl) rfl ?_
      refine Ev.mk rfl rfl ⟨Nat.le_of_ble_eq_true rfl, Or.inl rfl⟩ ?_
      show At _ none _ _ (0, [(0, .int a3)], [], (_, _)) _
      refine At.enter rfl ?_
      refine r_iload_n rfl ?_
      refine r_iconst 1 rfl ?_
      refine r_bipush 9 rfl ?_
      refine q_inlS 7 rfl [.int a3, .int 1, .int 9] [] (Nat.le_of_ble_eq_true rfl) rfl ?_
      refine Ev.mk rfl rfl ⟨Nat.le_of_ble_eq_true rfl, Or.inl rfl⟩ ?_
      show At _ none _ _ (0, [(0, .int a3), (1, .int 1), (2, .int 9)], [], (_, _)) _
      refine At.enter rfl ?_
      refine r_iload_n rfl ?_
      refine r_iload_n rfl ?_
      refine r_ics 5 rfl (fun c394 => ?_) (fun c394 => ?_)
      · have c394_ : a3.toInt < 1 := en_i_lt_t c394
        refine At.enter rfl ?_
        refine r_iconst 0 rfl ?_
        refine Ar.fall 15 rfl ?_
        refine At.enter rfl ?_
        refine q_iretz (by decide) ?_
        refine At.enter rfl ?_
        refine q_iretz (by decide) ?_
        refine At.enter rfl ?_
        refine r_iff 26 rfl (by decide) ?_
        refine At.enter rfl ?_
        refine r_iload_n rfl ?_
        refine r_iconst 2 rfl ?_
        refine r_ics 31 rfl (fun c395 => ?_) (fun c395 => ?_)
        · have c395_ : a2.toInt ≠ 2 := en_i_ne_t c395
          refine At.enter rfl ?_
          refine r_iconst 0 rfl ?_
          refine Ar.fall 43 rfl ?_
          refine At.enter rfl ?_
          refine r_istore ([(4, .int 0), (0, .ref 0), (1, .int a1), (2, .int a2), (3, .int a3)]) rfl ?_
          refine r_iload rfl ?_
          refine r_iff 50 rfl (by decide) ?_
          refine At.enter rfl ?_
          refine r_aload_n rfl ?_
          refine r_iconst (-1) rfl ?_
          refine r_callV 55 rfl [.ref 0, .int (-1)] [] (Nat.le_of_ble_eq_true rfl) rfl (T_X10_refused_0 _ hI0 (-1) (by decide)) ?_
          rintro _ _ ⟨g396, rfl, hI397, hF398, v399, rfl, hr400⟩
          refine At.sti ?_
          have hF401 := Fr.tr hF0 hF398 rfl rfl
          have zv402 : ((-1) : Int32).toInt = (-1) := rfl
          refine At.enter rfl ?_
          refine r_ireti ?_
          obtain ⟨v403, hv403⟩ : ∃ v, gI g0 1 0 = v := ⟨_, rfl⟩
          have rv403 := RgF.at hI0.2.1 (p := 1) (b := 0) rfl
          rw [hv403] at rv403
          dsimp only at rv403
          have tv403 := congrArg Int32.toInt hv403
          exact ⟨_, rfl, hI397, hF401, _, rfl, trivial, ⟨⟨⟨by omega, by omega, by omega, by omega, by omega⟩, (by intro i i0 i1; refine Eq.trans ?_ (if_neg (show ¬ ((a2.toInt = 0 ∧ -1 ≤ a3.toInt ∧ a3.toInt ≤ 11 ∧ 0 ≤ a1.toInt ∧ a1.toInt < (gI g0 1 0).toInt) ∧ i = a1.toInt) from by omega)).symm; refine (eA_ti ((hF398.2.1 2 ma_X10_refused_0_2))).trans ?_; (first | with_reducible rfl | omega | exact eA_ix (by omega) | rfl)), (by intro i i0 i1; refine Eq.trans ?_ (if_neg (show ¬ ((a2.toInt = 1 ∧ 1 ≤ a3.toInt ∧ a3.toInt ≤ 9 ∧ 0 ≤ a1.toInt ∧ a1.toInt < (gI g0 1 0).toInt) ∧ i = a1.toInt) from by omega)).symm; refine (eA_ti ((hF398.2.1 3 ma_X10_refused_0_3))).trans ?_; (first | with_reducible rfl | omega | exact eA_ix (by omega) | rfl)), (by intro i i0 i1; refine Eq.trans ?_ (if_neg (show ¬ ((a2.toInt = 2 ∧ 0 ≤ a3.toInt ∧ a3.toInt ≤ 99 ∧ 0 ≤ a1.toInt ∧ a1.toInt < (gI g0 1 0).toInt) ∧ i = a1.toInt) from by omega)).symm; refine (eA_ti ((hF398.2.1 4 ma_X10_refused_0_4))).trans ?_; (first | with_reducible rfl | omega | exact eA_ix (by omega) | rfl))⟩, ⟨(fun t => (TOLDX_fr hF398 rfl rfl rfl rfl t)), (fun t => (SETX_fr hF398 rfl rfl rfl rfl rfl t))⟩⟩⟩
        · have c395_ : a2.toInt = 2 := en_i_ne_f c395
          exfalso; omega
      · have c394_ : a3.toInt ≥ 1 := en_i_lt_f c394
        refine At.enter rfl ?_
        refine r_iload_n rfl ?_
        refine r_iload_n rfl ?_
        refine r_ics 10 rfl (fun c406 => ?_) (fun c406 => ?_)
        · have c406_ : a3.toInt > 9 := en_i_gt_t c406
          refine At.enter rfl ?_
          refine r_iconst 0 rfl ?_
          refine Ar.fall 15 rfl ?_
          refine At.enter rfl ?_
          refine q_iretz (by decide) ?_
          refine At.enter rfl ?_
          refine q_iretz (by decide) ?_
          refine At.enter rfl ?_
          refine r_iff 26 rfl (by decide) ?_
          refine At.enter rfl ?_
          refine r_iload_n rfl ?_
          refine r_iconst 2 rfl ?_
          refine r_ics 31 rfl (fun c407 => ?_) (fun c407 => ?_)
          · have c407_ : a2.toInt ≠ 2 := en_i_ne_t c407
            refine At.enter rfl ?_
            refine r_iconst 0 rfl ?_
            refine Ar.fall 43 rfl ?_
            refine At.enter rfl ?_
            refine r_istore ([(4, .int 0), (0, .ref 0), (1, .int a1), (2, .int a2), (3, .int a3)]) rfl ?_
            refine r_iload rfl ?_
            refine r_iff 50 rfl (by decide) ?_
            refine At.enter rfl ?_
            refine r_aload_n rfl ?_
            refine r_iconst (-1) rfl ?_
            refine r_callV 55 rfl [.ref 0, .int (-1)] [] (Nat.le_of_ble_eq_true rfl) rfl (T_X10_refused_0 _ hI0 (-1) (by decide)) ?_
            rintro _ _ ⟨g408, rfl, hI409, hF410, v411, rfl, hr412⟩
            refine At.sti ?_
            have hF413 := Fr.tr hF0 hF410 rfl rfl
            have zv414 : ((-1) : Int32).toInt = (-1) := rfl
            refine At.enter rfl ?_
            refine r_ireti ?_
            obtain ⟨v415, hv415⟩ : ∃ v, gI g0 1 0 = v := ⟨_, rfl⟩
            have rv415 := RgF.at hI0.2.1 (p := 1) (b := 0) rfl
            rw [hv415] at rv415
            dsimp only at rv415
            have tv415 := congrArg Int32.toInt hv415
            exact ⟨_, rfl, hI409, hF413, _, rfl, trivial, ⟨⟨⟨by omega, by omega, by omega, by omega, by omega⟩, (by intro i i0 i1; refine Eq.trans ?_ (if_neg (show ¬ ((a2.toInt = 0 ∧ -1 ≤ a3.toInt ∧ a3.toInt ≤ 11 ∧ 0 ≤ a1.toInt ∧ a1.toInt < (gI g0 1 0).toInt) ∧ i = a1.toInt) from by omega)).symm; refine (eA_ti ((hF410.2.1 2 ma_X10_refused_0_2))).trans ?_; (first | with_reducible rfl | omega | exact eA_ix (by omega) | rfl)), (by intro i i0 i1; refine Eq.trans ?_ (if_neg (show ¬ ((a2.toInt = 1 ∧ 1 ≤ a3.toInt ∧ a3.toInt ≤ 9 ∧ 0 ≤ a1.toInt ∧ a1.toInt < (gI g0 1 0).toInt) ∧ i = a1.toInt) from by omega)).symm; refine (eA_ti ((hF410.2.1 3 ma_X10_refused_0_3))).trans ?_; (first | with_reducible rfl | omega | exact eA_ix (by omega) | rfl)), (by intro i i0 i1; refine Eq.trans ?_ (if_neg (show ¬ ((a2.toInt = 2 ∧ 0 ≤ a3.toInt ∧ a3.toInt ≤ 99 ∧ 0 ≤ a1.toInt ∧ a1.toInt < (gI g0 1 0).toInt) ∧ i = a1.toInt) from by omega)).symm; refine (eA_ti ((hF410.2.1 4 ma_X10_refused_0_4))).trans ?_; (first | with_reducible rfl | omega | exact eA_ix (by omega) | rfl))⟩, ⟨(fun t => (TOLDX_fr hF410 rfl rfl rfl rfl t)), (fun t => (SETX_fr hF410 rfl rfl rfl rfl rfl t))⟩⟩⟩
          · have c407_ : a2.toInt = 2 := en_i_ne_f c407
            exfalso; omega
        · have c406_ : a3.toInt ≤ 9 := en_i_gt_f c406
          refine At.enter rfl ?_
          refine r_iconst 1 rfl ?_
          refine r_goto ?_
          refine At.enter rfl ?_
          refine q_iretz (by decide) ?_
          refine At.enter rfl ?_
          refine q_iretz (by decide) ?_
          refine At.enter rfl ?_
          refine r_ift (by decide) ?_
          refine At.enter rfl ?_
          refine r_iconst 1 rfl ?_
          refine r_goto ?_
          refine At.enter rfl ?_
          refine r_istore ([(4, .int 1), (0, .ref 0), (1, .int a1), (2, .int a2), (3, .int a3)]) rfl ?_
          refine r_iload rfl ?_
          refine r_ift (by decide) ?_
          refine At.enter rfl ?_
          refine r_aload_n rfl ?_
          refine q_getR (Sh.ref hI0.1 kx_0 rfl) ?_
          refine r_iload_n rfl ?_
          refine q_inlV 64 rfl [.ref 1, .int a1] [] (Nat.le_of_ble_eq_true rfl) rfl ?_
          refine Ev.mk rfl rfl ⟨Nat.le_of_ble_eq_true rfl, Or.inr (q_rc hI0.1 kx_1 rfl)⟩ ?_
          show At _ none _ _ (0, [(0, .ref 1), (1, .int a1)], [], (_, _)) _
          refine At.enter rfl ?_
          refine r_iload_n rfl ?_
          refine r_ifs 4 rfl (fun c418 => ?_) (fun c418 => ?_)
          · have c418_ : a1.toInt < 0 := en_k_lt_t c418
            refine At.enter rfl ?_
            refine r_iconst 0 rfl ?_
            refine Ar.fall 17 rfl ?_
            refine At.enter rfl ?_
            refine q_iretz (by decide) ?_
            refine At.enter rfl ?_
            refine r_iff 67 rfl (by decide) ?_
            refine At.enter rfl ?_
            refine r_aload_n rfl ?_
            refine r_bipush (-2) rfl ?_
            refine r_callV 73 rfl [.ref 0, .int (-2)] [] (Nat.le_of_ble_eq_true rfl) rfl (T_X10_refused_0 _ hI0 (-2) (by decide)) ?_
            rintro _ _ ⟨g419, rfl, hI420, hF421, v422, rfl, hr423⟩
            refine At.sti ?_
            have hF424 := Fr.tr hF0 hF421 rfl rfl
            have zv425 : ((-2) : Int32).toInt = (-2) := rfl
            refine At.enter rfl ?_
            refine r_ireti ?_
            obtain ⟨v426, hv426⟩ : ∃ v, gI g0 1 0 = v := ⟨_, rfl⟩
            have rv426 := RgF.at hI0.2.1 (p := 1) (b := 0) rfl
            rw [hv426] at rv426
            dsimp only at rv426
            have tv426 := congrArg Int32.toInt hv426
            exact ⟨_, rfl, hI420, hF424, _, rfl, trivial, ⟨⟨⟨by omega, by omega, by omega, by omega, by omega⟩, (by intro i i0 i1; refine Eq.trans ?_ (if_neg (show ¬ ((a2.toInt = 0 ∧ -1 ≤ a3.toInt ∧ a3.toInt ≤ 11 ∧ 0 ≤ a1.toInt ∧ a1.toInt < (gI g0 1 0).toInt) ∧ i = a1.toInt) from by omega)).symm; refine (eA_ti ((hF421.2.1 2 ma_X10_refused_0_2))).trans ?_; (first | with_reducible rfl | omega | exact eA_ix (by omega) | rfl)), (by intro i i0 i1; refine Eq.trans ?_ (if_neg (show ¬ ((a2.toInt = 1 ∧ 1 ≤ a3.toInt ∧ a3.toInt ≤ 9 ∧ 0 ≤ a1.toInt ∧ a1.toInt < (gI g0 1 0).toInt) ∧ i = a1.toInt) from by omega)).symm; refine (eA_ti ((hF421.2.1 3 ma_X10_refused_0_3))).trans ?_; (first | with_reducible rfl | omega | exact eA_ix (by omega) | rfl)), (by intro i i0 i1; refine Eq.trans ?_ (if_neg (show ¬ ((a2.toInt = 2 ∧ 0 ≤ a3.toInt ∧ a3.toInt ≤ 99 ∧ 0 ≤ a1.toInt ∧ a1.toInt < (gI g0 1 0).toInt) ∧ i = a1.toInt) from by omega)).symm; refine (eA_ti ((hF421.2.1 4 ma_X10_refused_0_4))).trans ?_; (first | with_reducible rfl | omega | exact eA_ix (by omega) | rfl))⟩, ⟨(fun t => (TOLDX_fr hF421 rfl rfl rfl rfl t)), (fun t => (SETX_fr hF421 rfl rfl rfl rfl rfl t))⟩⟩⟩
          · have c418_ : a1.toInt ≥ 0 := en_k_lt_f c418
            refine At.enter rfl ?_
            refine r_iload_n rfl ?_
            refine r_aload_n rfl ?_
            obtain ⟨v429, hv429⟩ : ∃ v, gI g0 1 0 = v := ⟨_, rfl⟩
            have rv429 := RgF.at hI0.2.1 (p := 1) (b := 0) rfl
            rw [hv429] at rv429
            dsimp only at rv429
            refine q_getI (Sh.int hI0.1 kx_1 rfl) v429 hv429 ?_
            have bv431 := q_bnd a1
            have bv432 := q_bnd v429
            refine r_ics 12 rfl (fun c430 => ?_) (fun c430 => ?_)
            · have c430_ : a1.toInt ≥ v429.toInt := en_i_ge_t c430
              refine At.enter rfl ?_
              refine r_iconst 0 rfl ?_
              refine Ar.fall 17 rfl ?_
              refine At.enter rfl ?_
              refine q_iretz (by decide) ?_
              refine At.enter rfl ?_
              refine r_iff 67 rfl (by decide) ?_
              refine At.enter rfl ?_
              refine r_aload_n rfl ?_
              refine r_bipush (-2) rfl ?_
              refine r_callV 73 rfl [.ref 0, .int (-2)] [] (Nat.le_of_ble_eq_true rfl) rfl (T_X10_refused_0 _ hI0 (-2) (by decide)) ?_
              rintro _ _ ⟨g433, rfl, hI434, hF435, v436, rfl, hr437⟩
              refine At.sti ?_
              have hF438 := Fr.tr hF0 hF435 rfl rfl
              have zv439 : ((-2) : Int32).toInt = (-2) := rfl
              refine At.enter rfl ?_
              refine r_ireti ?_
              have x440 := HI.eqI hI0 (p := 1) (b := 0) (hv429)
              have x441 := HI.eqI hI0 (p := 1) (b := 0) (hv429)
              exact ⟨_, rfl, hI434, hF438, _, rfl, trivial, ⟨⟨⟨by omega, by omega, by omega, by omega, by omega⟩, (by intro i i0 i1; refine Eq.trans ?_ (if_neg (show ¬ ((a2.toInt = 0 ∧ -1 ≤ a3.toInt ∧ a3.toInt ≤ 11 ∧ 0 ≤ a1.toInt ∧ a1.toInt < (gI g0 1 0).toInt) ∧ i = a1.toInt) from by omega)).symm; refine (eA_ti ((hF435.2.1 2 ma_X10_refused_0_2))).trans ?_; (first | with_reducible rfl | omega | exact eA_ix (by omega) | rfl)), (by intro i i0 i1; refine Eq.trans ?_ (if_neg (show ¬ ((a2.toInt = 1 ∧ 1 ≤ a3.toInt ∧ a3.toInt ≤ 9 ∧ 0 ≤ a1.toInt ∧ a1.toInt < (gI g0 1 0).toInt) ∧ i = a1.toInt) from by omega)).symm; refine (eA_ti ((hF435.2.1 3 ma_X10_refused_0_3))).trans ?_; (first | with_reducible rfl | omega | exact eA_ix (by omega) | rfl)), (by intro i i0 i1; refine Eq.trans ?_ (if_neg (show ¬ ((a2.toInt = 2 ∧ 0 ≤ a3.toInt ∧ a3.toInt ≤ 99 ∧ 0 ≤ a1.toInt ∧ a1.toInt < (gI g0 1 0).toInt) ∧ i = a1.toInt) from by omega)).symm; refine (eA_ti ((hF435.2.1 4 ma_X10_refused_0_4))).trans ?_; (first | with_reducible rfl | omega | exact eA_ix (by omega) | rfl))⟩, ⟨(fun t => (TOLDX_fr hF435 rfl rfl rfl rfl t)), (fun t => (SETX_fr hF435 rfl rfl rfl rfl rfl t))⟩⟩⟩
            · have c430_ : a1.toInt < v429.toInt := en_i_ge_f c430
              refine At.enter rfl ?_
              refine r_iconst 1 rfl ?_
              refine r_goto ?_
              refine At.enter rfl ?_
              refine q_iretz (by decide) ?_
              refine At.enter rfl ?_
              refine r_ift (by decide) ?_
              refine At.enter rfl ?_
              refine r_iload_n rfl ?_
              refine r_ifs 78 rfl (fun c442 => ?_) (fun c442 => ?_)
              · have c442_ : a2.toInt ≠ 0 := en_k_ne_t c442
                refine At.enter rfl ?_
                refine r_iload_n rfl ?_
                refine r_iconst 1 rfl ?_
                refine r_ics 93 rfl (fun c443 => ?_) (fun c443 => ?_)
                · have c443_ : a2.toInt ≠ 1 := en_i_ne_t c443
                  exfalso; omega
                · have c443_ : a2.toInt = 1 := en_i_ne_f c443
                  refine At.enter rfl ?_
                  refine r_aload_n rfl ?_
                  refine q_getR (Sh.ref hI0.1 kx_0 rfl) ?_
                  refine q_getR (Sh.ref hI0.1 kx_1 rfl) ?_
                  refine r_goto ?_
                  refine At.enter rfl ?_
                  refine r_astore ([(5, .ref 3), (4, .int 1), (0, .ref 0), (1, .int a1), (2, .int a2), (3, .int a3)]) rfl ?_
                  refine r_aload rfl ?_
                  refine r_iload_n rfl ?_
                  obtain ⟨v444, hv444⟩ : ∃ v, eA g0 3 a1.toInt = v := ⟨_, rfl⟩
                  refine q_iald (Sh.arr hI0.1 ka_3) a1.toInt rfl (by omega) v444 hv444 ?_
                  refine r_istore ([(6, .int v444), (5, .ref 3), (4, .int 1), (0, .ref 0), (1, .int a1), (2, .int a2), (3, .int a3)]) rfl ?_
                  refine r_aload rfl ?_
                  refine r_iload_n rfl ?_
                  refine r_iload_n rfl ?_
                  refine q_iast (Sh.arr hI0.1 ka_3) (a1.toInt) rfl (by omega) ?_
                  have hI445 := HI.wA0 hI0 ka_3 (p := 3) rfl rfl (a1.toInt) (a3)
                  have hF446 := Fr.wA (p := 3) (j := a1.toInt) (v := a3) hF0 rfl
                  refine r_aload_n rfl ?_
                  refine r_callV 127 rfl [.ref 0] [] (Nat.le_of_ble_eq_true rfl) rfl (T_X10_changed_0 _ hI445) ?_
                  rintro _ _ ⟨g447, rfl, hI448, hF449, rfl, hr451⟩
                  refine At.stn ?_
                  have hF452 := Fr.tr hF446 hF449 rfl rfl
                  refine At.enter rfl ?_
                  refine r_aload_n rfl ?_
                  refine r_iload rfl ?_
                  refine q_inlV 133 rfl [.ref 0, .int v444] [] (Nat.le_of_ble_eq_true rfl) rfl ?_
                  refine Ev.mk rfl rfl ⟨Nat.le_of_ble_eq_true rfl, Or.inr (q_rc hI448.1 kx_0 rfl)⟩ ?_
                  show At _ none _ _ (0, [(0, .ref 0), (1, .int v444)], [], (_, _)) _
                  refine At.enter rfl ?_
                  refine r_aload_n rfl ?_
                  refine r_iconst 0 rfl ?_
                  refine q_putI (Sh.int hI448.1 kx_0 rfl) rfl ?_
                  have hI453 := HI.wI0 hI448 kx_0 rfl (p := 0) (b := 17) (v := 0) rfl
                  have hF454 := Fr.wI (p := 0) (b := 17) (v := 0) hF452 rfl
                  refine r_iload_n rfl ?_
                  refine q_ireti ?_
                  refine At.enter rfl ?_
                  refine r_ireti ?_
                  have x455 := HI.eqI hI0 (p := 1) (b := 0) (hv429)
                  have y456 := congrArg Int32.toInt hv444
                  have x457 := HI.eqI hI0 (p := 1) (b := 0) (hv429)
                  exact ⟨_, rfl, hI453, hF454, _, rfl, trivial, ⟨⟨⟨by omega, by omega, by omega, by omega, by omega⟩, (by intro i i0 i1; refine Eq.trans ?_ (if_neg (show ¬ ((a2.toInt = 0 ∧ -1 ≤ a3.toInt ∧ a3.toInt ≤ 11 ∧ 0 ≤ a1.toInt ∧ a1.toInt < (gI g0 1 0).toInt) ∧ i = a1.toInt) from by omega)).symm; refine (eA_ti (((gA_sI).trans ((hF449.2.1 2 ma_X10_changed_0_2).trans (gA_sA_ne (by decide)))))).trans ?_; (first | with_reducible rfl | omega | exact eA_ix (by omega) | rfl)), (by intro i i0 i1; exact (Decidable.em ((a2.toInt = 1 ∧ 1 ≤ a3.toInt ∧ a3.toInt ≤ 9 ∧ 0 ≤ a1.toInt ∧ a1.toInt < (gI g0 1 0).toInt) ∧ i = a1.toInt)).elim (fun k75_ => by refine Eq.trans ?_ (if_pos k75_).symm; refine (eA_ti (((gA_sI).trans (hF449.2.1 3 ma_X10_changed_0_3)))).trans ?_; exact (Decidable.em (i = a1.toInt)).elim (fun k76_ => by refine (eA_eqT hI0.1 ka_3 k76_ (by first | decide | omega) (by first | decide | omega)).trans ?_; (first | (with_reducible rfl) | (omega) | (rfl))) (fun k76_ => by refine (eA_neT hI0.1 ka_3 k76_ (by first | decide | omega) (by omega)).trans ?_; (first | with_reducible rfl | omega | exact eA_ix (by omega) | rfl))) (fun k75_ => by refine Eq.trans ?_ (if_neg k75_).symm; refine (eA_ti (((gA_sI).trans (hF449.2.1 3 ma_X10_changed_0_3)))).trans ?_; exact (Decidable.em (i = a1.toInt)).elim (fun k77_ => by refine (eA_eqT hI0.1 ka_3 k77_ (by first | decide | omega) (by first | decide | omega)).trans ?_; (first | (with_reducible rfl) | (omega) | (rfl))) (fun k77_ => by refine (eA_neT hI0.1 ka_3 k77_ (by first | decide | omega) (by omega)).trans ?_; (first | with_reducible rfl | omega | exact eA_ix (by omega) | rfl)))), (by intro i i0 i1; refine Eq.trans ?_ (if_neg (show ¬ ((a2.toInt = 2 ∧ 0 ≤ a3.toInt ∧ a3.toInt ≤ 99 ∧ 0 ≤ a1.toInt ∧ a1.toInt < (gI g0 1 0).toInt) ∧ i = a1.toInt) from by omega)).symm; refine (eA_ti (((gA_sI).trans ((hF449.2.1 4 ma_X10_changed_0_4).trans (gA_sA_ne (by decide)))))).trans ?_; (first | with_reducible rfl | omega | exact eA_ix (by omega) | rfl))⟩, ⟨(fun _ => TOLDX_z ((congrArg Int32.toInt ((gI_sI_ne (by decide)))).trans hr451.1)), (fun _ => SETX_z ((congrArg Int32.toInt ((gI_sI_ne (by decide)))).trans hr451.2))⟩⟩⟩
              · have c442_ : a2.toInt = 0 := en_k_ne_f c442
                exfalso; omega
  · have c319_ : a2.toInt = 0 := en_k_ne_f c319
    refine At.enter rfl ?_
    refine r_iload_n rfl ?_
    refine r_iconst (-1) rfl ?_
    refine r_bipush 11 rfl ?_
    refine q_inlS 11 rfl [.int a3, .int (-1), .int 11] [] (Nat.le_of_ble_eq_true rfl) rfl ?_
    refine Ev.mk rfl rfl ⟨Nat.le_of_ble_eq_true rfl, Or.inl rfl⟩ ?_
    show At _ none _ _ (0, [(0, .int a3), (1, .int (-1)), (2, .int 11)], [], (_, _)) _
    refine At.enter rfl ?_
    refine r_iload_n rfl ?_
    refine r_iload_n rfl ?_
    refine r_ics 5 rfl (fun c458 => ?_) (fun c458 => ?_)
    · have c458_ : a3.toInt < (-1) := en_i_lt_t c458
      refine At.enter rfl ?_
      refine r_iconst 0 rfl ?_
      refine Ar.fall 15 rfl ?_
      refine At.enter rfl ?_
      refine q_iretz (by decide) ?_
      refine At.enter rfl ?_
      refine r_iff 14 rfl (by decide) ?_
      refine At.enter rfl ?_
      refine r_iload_n rfl ?_
      refine r_iconst 1 rfl ?_
      refine r_ics 19 rfl (fun c459 => ?_) (fun c459 => ?_)
      · have c459_ : a2.toInt ≠ 1 := en_i_ne_t c459
        refine At.enter rfl ?_
        refine r_iload_n rfl ?_
        refine r_iconst 2 rfl ?_
        refine r_ics 31 rfl (fun c460 => ?_) (fun c460 => ?_)
        · have c460_ : a2.toInt ≠ 2 := en_i_ne_t c460
          refine At.enter rfl ?_
          refine r_iconst 0 rfl ?_
          refine Ar.fall 43 rfl ?_
          refine At.enter rfl ?_
          refine r_istore ([(4, .int 0), (0, .ref 0), (1, .int a1), (2, .int a2), (3, .int a3)]) rfl ?_
          refine r_iload rfl ?_
          refine r_iff 50 rfl (by decide) ?_
          refine At.enter rfl ?_
          refine r_aload_n rfl ?_
          refine r_iconst (-1) rfl ?_
          refine r_callV 55 rfl [.ref 0, .int (-1)] [] (Nat.le_of_ble_eq_true rfl) rfl (T_X10_refused_0 _ hI0 (-1) (by decide)) ?_
          rintro _ _ ⟨g461, rfl, hI462, hF463, v464, rfl, hr465⟩
          refine At.sti ?_
          have hF466 := Fr.tr hF0 hF463 rfl rfl
          have zv467 : ((-1) : Int32).toInt = (-1) := rfl
          refine At.enter rfl ?_
          refine r_ireti ?_
          obtain ⟨v468, hv468⟩ : ∃ v, gI g0 1 0 = v := ⟨_, rfl⟩
          have rv468 := RgF.at hI0.2.1 (p := 1) (b := 0) rfl
          rw [hv468] at rv468
          dsimp only at rv468
          have tv468 := congrArg Int32.toInt hv468
          exact ⟨_, rfl, hI462, hF466, _, rfl, trivial, ⟨⟨⟨by omega, by omega, by omega, by omega, by omega⟩, (by intro i i0 i1; refine Eq.trans ?_ (if_neg (show ¬ ((a2.toInt = 0 ∧ -1 ≤ a3.toInt ∧ a3.toInt ≤ 11 ∧ 0 ≤ a1.toInt ∧ a1.toInt < (gI g0 1 0).toInt) ∧ i = a1.toInt) from by omega)).symm; refine (eA_ti ((hF463.2.1 2 ma_X10_refused_0_2))).trans ?_; (first | with_reducible rfl | omega | exact eA_ix (by omega) | rfl)), (by intro i i0 i1; refine Eq.trans ?_ (if_neg (show ¬ ((a2.toInt = 1 ∧ 1 ≤ a3.toInt ∧ a3.toInt ≤ 9 ∧ 0 ≤ a1.toInt ∧ a1.toInt < (gI g0 1 0).toInt) ∧ i = a1.toInt) from by omega)).symm; refine (eA_ti ((hF463.2.1 3 ma_X10_refused_0_3))).trans ?_; (first | with_reducible rfl | omega | exact eA_ix (by omega) | rfl)), (by intro i i0 i1; refine Eq.trans ?_ (if_neg (show ¬ ((a2.toInt = 2 ∧ 0 ≤ a3.toInt ∧ a3.toInt ≤ 99 ∧ 0 ≤ a1.toInt ∧ a1.toInt < (gI g0 1 0).toInt) ∧ i = a1.toInt) from by omega)).symm; refine (eA_ti ((hF463.2.1 4 ma_X10_refused_0_4))).trans ?_; (first | with_reducible rfl | omega | exact eA_ix (by omega) | rfl))⟩, ⟨(fun t => (TOLDX_fr hF463 rfl rfl rfl rfl t)), (fun t => (SETX_fr hF463 rfl rfl rfl rfl rfl t))⟩⟩⟩
        · have c460_ : a2.toInt = 2 := en_i_ne_f c460
          exfalso; omega
      · have c459_ : a2.toInt = 1 := en_i_ne_f c459
        exfalso; omega
    · have c458_ : a3.toInt ≥ (-1) := en_i_lt_f c458
      refine At.enter rfl ?_
      refine r_iload_n rfl ?_
      refine r_iload_n rfl ?_
      refine r_ics 10 rfl (fun c471 => ?_) (fun c471 => ?_)
      · have c471_ : a3.toInt > 11 := en_i_gt_t c471
        refine At.enter rfl ?_
        refine r_iconst 0 rfl ?_
        refine Ar.fall 15 rfl ?_
        refine At.enter rfl ?_
        refine q_iretz (by decide) ?_
        refine At.enter rfl ?_
        refine r_iff 14 rfl (by decide) ?_
        refine At.enter rfl ?_
        refine r_iload_n rfl ?_
        refine r_iconst 1 rfl ?_
        refine r_ics 19 rfl (fun c472 => ?_) (fun c472 => ?_)
        · have c472_ : a2.toInt ≠ 1 := en_i_ne_t c472
          refine At.enter rfl ?_
          refine r_iload_n rfl ?_
          refine r_iconst 2 rfl ?_
          refine r_ics 31 rfl (fun c473 => ?_) (fun c473 => ?_)
          · have c473_ : a2.toInt ≠ 2 := en_i_ne_t c473
            refine At.enter rfl ?_
            refine r_iconst 0 rfl ?_
            refine Ar.fall 43 rfl ?_
            refine At.enter rfl ?_
            refine r_istore ([(4, .int 0), (0, .ref 0), (1, .int a1), (2, .int a2), (3, .int a3)]) rfl ?_
            refine r_iload rfl ?_
            refine r_iff 50 rfl (by decide) ?_
            refine At.enter rfl ?_
            refine r_aload_n rfl ?_
            refine r_iconst (-1) rfl ?_
            refine r_callV 55 rfl [.ref 0, .int (-1)] [] (Nat.le_of_ble_eq_true rfl) rfl (T_X10_refused_0 _ hI0 (-1) (by decide)) ?_
            rintro _ _ ⟨g474, rfl, hI475, hF476, v477, rfl, hr478⟩
            refine At.sti ?_
            have hF479 := Fr.tr hF0 hF476 rfl rfl
            have zv480 : ((-1) : Int32).toInt = (-1) := rfl
            refine At.enter rfl ?_
            refine r_ireti ?_
            obtain ⟨v481, hv481⟩ : ∃ v, gI g0 1 0 = v := ⟨_, rfl⟩
            have rv481 := RgF.at hI0.2.1 (p := 1) (b := 0) rfl
            rw [hv481] at rv481
            dsimp only at rv481
            have tv481 := congrArg Int32.toInt hv481
            exact ⟨_, rfl, hI475, hF479, _, rfl, trivial, ⟨⟨⟨by omega, by omega, by omega, by omega, by omega⟩, (by intro i i0 i1; refine Eq.trans ?_ (if_neg (show ¬ ((a2.toInt = 0 ∧ -1 ≤ a3.toInt ∧ a3.toInt ≤ 11 ∧ 0 ≤ a1.toInt ∧ a1.toInt < (gI g0 1 0).toInt) ∧ i = a1.toInt) from by omega)).symm; refine (eA_ti ((hF476.2.1 2 ma_X10_refused_0_2))).trans ?_; (first | with_reducible rfl | omega | exact eA_ix (by omega) | rfl)), (by intro i i0 i1; refine Eq.trans ?_ (if_neg (show ¬ ((a2.toInt = 1 ∧ 1 ≤ a3.toInt ∧ a3.toInt ≤ 9 ∧ 0 ≤ a1.toInt ∧ a1.toInt < (gI g0 1 0).toInt) ∧ i = a1.toInt) from by omega)).symm; refine (eA_ti ((hF476.2.1 3 ma_X10_refused_0_3))).trans ?_; (first | with_reducible rfl | omega | exact eA_ix (by omega) | rfl)), (by intro i i0 i1; refine Eq.trans ?_ (if_neg (show ¬ ((a2.toInt = 2 ∧ 0 ≤ a3.toInt ∧ a3.toInt ≤ 99 ∧ 0 ≤ a1.toInt ∧ a1.toInt < (gI g0 1 0).toInt) ∧ i = a1.toInt) from by omega)).symm; refine (eA_ti ((hF476.2.1 4 ma_X10_refused_0_4))).trans ?_; (first | with_reducible rfl | omega | exact eA_ix (by omega) | rfl))⟩, ⟨(fun t => (TOLDX_fr hF476 rfl rfl rfl rfl t)), (fun t => (SETX_fr hF476 rfl rfl rfl rfl rfl t))⟩⟩⟩
          · have c473_ : a2.toInt = 2 := en_i_ne_f c473
            exfalso; omega
        · have c472_ : a2.toInt = 1 := en_i_ne_f c472
          exfalso; omega
      · have c471_ : a3.toInt ≤ 11 := en_i_gt_f c471
        refine At.enter rfl ?_
        refine r_iconst 1 rfl ?_
        refine r_goto ?_
        refine At.enter rfl ?_
        refine q_iretz (by decide) ?_
        refine At.enter rfl ?_
        refine r_ift (by decide) ?_
        refine At.enter rfl ?_
        refine r_iconst 1 rfl ?_
        refine r_goto ?_
        refine At.enter rfl ?_
        refine r_istore ([(4, .int 1), (0, .ref 0), (1, .int a1), (2, .int a2), (3, .int a3)]) rfl ?_
        refine r_iload rfl ?_
        refine r_ift (by decide) ?_
        refine At.enter rfl ?_
        refine r_aload_n rfl ?_
        refine q_getR (Sh.ref hI0.1 kx_0 rfl) ?_
        refine r_iload_n rfl ?_
        refine q_inlV 64 rfl [.ref 1, .int a1] [] (Nat.le_of_ble_eq_true rfl) rfl ?_
        refine Ev.mk rfl rfl ⟨Nat.le_of_ble_eq_true rfl, Or.inr (q_rc hI0.1 kx_1 rfl)⟩ ?_
        show At _ none _ _ (0, [(0, .ref 1), (1, .int a1)], [], (_, _)) _
        refine At.enter rfl ?_
        refine r_iload_n rfl ?_
        refine r_ifs 4 rfl (fun c484 => ?_) (fun c484 => ?_)
        · have c484_ : a1.toInt < 0 := en_k_lt_t c484
          refine At.enter rfl ?_
          refine r_iconst 0 rfl ?_
          refine Ar.fall 17 rfl ?_
          refine At.enter rfl ?_
          refine q_iretz (by decide) ?_
          refine At.enter rfl ?_
          refine r_iff 67 rfl (by decide) ?_
          refine At.enter rfl ?_
          refine r_aload_n rfl ?_
          refine r_bipush (-2) rfl ?_
          refine r_callV 73 rfl [.ref 0, .int (-2)] [] (Nat.le_of_ble_eq_true rfl) rfl (T_X10_refused_0 _ hI0 (-2) (by decide)) ?_
          rintro _ _ ⟨g485, rfl, hI486, hF487, v488, rfl, hr489⟩
          refine At.sti ?_
          have hF490 := Fr.tr hF0 hF487 rfl rfl
          have zv491 : ((-2) : Int32).toInt = (-2) := rfl
          refine At.enter rfl ?_
          refine r_ireti ?_
          obtain ⟨v492, hv492⟩ : ∃ v, gI g0 1 0 = v := ⟨_, rfl⟩
          have rv492 := RgF.at hI0.2.1 (p := 1) (b := 0) rfl
          rw [hv492] at rv492
          dsimp only at rv492
          have tv492 := congrArg Int32.toInt hv492
          exact ⟨_, rfl, hI486, hF490, _, rfl, trivial, ⟨⟨⟨by omega, by omega, by omega, by omega, by omega⟩, (by intro i i0 i1; refine Eq.trans ?_ (if_neg (show ¬ ((a2.toInt = 0 ∧ -1 ≤ a3.toInt ∧ a3.toInt ≤ 11 ∧ 0 ≤ a1.toInt ∧ a1.toInt < (gI g0 1 0).toInt) ∧ i = a1.toInt) from by omega)).symm; refine (eA_ti ((hF487.2.1 2 ma_X10_refused_0_2))).trans ?_; (first | with_reducible rfl | omega | exact eA_ix (by omega) | rfl)), (by intro i i0 i1; refine Eq.trans ?_ (if_neg (show ¬ ((a2.toInt = 1 ∧ 1 ≤ a3.toInt ∧ a3.toInt ≤ 9 ∧ 0 ≤ a1.toInt ∧ a1.toInt < (gI g0 1 0).toInt) ∧ i = a1.toInt) from by omega)).symm; refine (eA_ti ((hF487.2.1 3 ma_X10_refused_0_3))).trans ?_; (first | with_reducible rfl | omega | exact eA_ix (by omega) | rfl)), (by intro i i0 i1; refine Eq.trans ?_ (if_neg (show ¬ ((a2.toInt = 2 ∧ 0 ≤ a3.toInt ∧ a3.toInt ≤ 99 ∧ 0 ≤ a1.toInt ∧ a1.toInt < (gI g0 1 0).toInt) ∧ i = a1.toInt) from by omega)).symm; refine (eA_ti ((hF487.2.1 4 ma_X10_refused_0_4))).trans ?_; (first | with_reducible rfl | omega | exact eA_ix (by omega) | rfl))⟩, ⟨(fun t => (TOLDX_fr hF487 rfl rfl rfl rfl t)), (fun t => (SETX_fr hF487 rfl rfl rfl rfl rfl t))⟩⟩⟩
        · have c484_ : a1.toInt ≥ 0 := en_k_lt_f c484
          refine At.enter rfl ?_
          refine r_iload_n rfl ?_
          refine r_aload_n rfl ?_
          obtain ⟨v495, hv495⟩ : ∃ v, gI g0 1 0 = v := ⟨_, rfl⟩
          have rv495 := RgF.at hI0.2.1 (p := 1) (b := 0) rfl
          rw [hv495] at rv495
          dsimp only at rv495
          refine q_getI (Sh.int hI0.1 kx_1 rfl) v495 hv495 ?_
          have bv497 := q_bnd a1
          have bv498 := q_bnd v495
          refine r_ics 12 rfl (fun c496 => ?_) (fun c496 => ?_)
          · have c496_ : a1.toInt ≥ v495.toInt := en_i_ge_t c496
            refine At.enter rfl ?_
            refine r_iconst 0 rfl ?_
            refine Ar.fall 17 rfl ?_
            refine At.enter rfl ?_
            refine q_iretz (by decide) ?_
            refine At.enter rfl ?_
            refine r_iff 67 rfl (by decide) ?_
            refine At.enter rfl ?_
            refine r_aload_n rfl ?_
            refine r_bipush (-2) rfl ?_
            refine r_callV 73 rfl [.ref 0, .int (-2)] [] (Nat.le_of_ble_eq_true rfl) rfl (T_X10_refused_0 _ hI0 (-2) (by decide)) ?_
            rintro _ _ ⟨g499, rfl, hI500, hF501, v502, rfl, hr503⟩
            refine At.sti ?_
            have hF504 := Fr.tr hF0 hF501 rfl rfl
            have zv505 : ((-2) : Int32).toInt = (-2) := rfl
            refine At.enter rfl ?_
            refine r_ireti ?_
            have x506 := HI.eqI hI0 (p := 1) (b := 0) (hv495)
            have x507 := HI.eqI hI0 (p := 1) (b := 0) (hv495)
            exact ⟨_, rfl, hI500, hF504, _, rfl, trivial, ⟨⟨⟨by omega, by omega, by omega, by omega, by omega⟩, (by intro i i0 i1; refine Eq.trans ?_ (if_neg (show ¬ ((a2.toInt = 0 ∧ -1 ≤ a3.toInt ∧ a3.toInt ≤ 11 ∧ 0 ≤ a1.toInt ∧ a1.toInt < (gI g0 1 0).toInt) ∧ i = a1.toInt) from by omega)).symm; refine (eA_ti ((hF501.2.1 2 ma_X10_refused_0_2))).trans ?_; (first | with_reducible rfl | omega | exact eA_ix (by omega) | rfl)), (by intro i i0 i1; refine Eq.trans ?_ (if_neg (show ¬ ((a2.toInt = 1 ∧ 1 ≤ a3.toInt ∧ a3.toInt ≤ 9 ∧ 0 ≤ a1.toInt ∧ a1.toInt < (gI g0 1 0).toInt) ∧ i = a1.toInt) from by omega)).symm; refine (eA_ti ((hF501.2.1 3 ma_X10_refused_0_3))).trans ?_; (first | with_reducible rfl | omega | exact eA_ix (by omega) | rfl)), (by intro i i0 i1; refine Eq.trans ?_ (if_neg (show ¬ ((a2.toInt = 2 ∧ 0 ≤ a3.toInt ∧ a3.toInt ≤ 99 ∧ 0 ≤ a1.toInt ∧ a1.toInt < (gI g0 1 0).toInt) ∧ i = a1.toInt) from by omega)).symm; refine (eA_ti ((hF501.2.1 4 ma_X10_refused_0_4))).trans ?_; (first | with_reducible rfl | omega | exact eA_ix (by omega) | rfl))⟩, ⟨(fun t => (TOLDX_fr hF501 rfl rfl rfl rfl t)), (fun t => (SETX_fr hF501 rfl rfl rfl rfl rfl t))⟩⟩⟩
          · have c496_ : a1.toInt < v495.toInt := en_i_ge_f c496
            refine At.enter rfl ?_
            refine r_iconst 1 rfl ?_
            refine r_goto ?_
            refine At.enter rfl ?_
            refine q_iretz (by decide) ?_
            refine At.enter rfl ?_
            refine r_ift (by decide) ?_
            refine At.enter rfl ?_
            refine r_iload_n rfl ?_
            refine r_ifs 78 rfl (fun c508 => ?_) (fun c508 => ?_)
            · have c508_ : a2.toInt ≠ 0 := en_k_ne_t c508
              exfalso; omega
            · have c508_ : a2.toInt = 0 := en_k_ne_f c508
              refine At.enter rfl ?_
              refine r_aload_n rfl ?_
              refine q_getR (Sh.ref hI0.1 kx_0 rfl) ?_
              refine q_getR (Sh.ref hI0.1 kx_1 rfl) ?_
              refine r_goto ?_
              refine At.enter rfl ?_
              refine r_astore ([(5, .ref 2), (4, .int 1), (0, .ref 0), (1, .int a1), (2, .int a2), (3, .int a3)]) rfl ?_
              refine r_aload rfl ?_
              refine r_iload_n rfl ?_
              obtain ⟨v509, hv509⟩ : ∃ v, eA g0 2 a1.toInt = v := ⟨_, rfl⟩
              refine q_iald (Sh.arr hI0.1 ka_2) a1.toInt rfl (by omega) v509 hv509 ?_
              refine r_istore ([(6, .int v509), (5, .ref 2), (4, .int 1), (0, .ref 0), (1, .int a1), (2, .int a2), (3, .int a3)]) rfl ?_
              refine r_aload rfl ?_
              refine r_iload_n rfl ?_
              refine r_iload_n rfl ?_
              refine q_iast (Sh.arr hI0.1 ka_2) (a1.toInt) rfl (by omega) ?_
              have hI510 := HI.wA0 hI0 ka_2 (p := 2) rfl rfl (a1.toInt) (a3)
              have hF511 := Fr.wA (p := 2) (j := a1.toInt) (v := a3) hF0 rfl
              refine r_aload_n rfl ?_
              refine r_callV 127 rfl [.ref 0] [] (Nat.le_of_ble_eq_true rfl) rfl (T_X10_changed_0 _ hI510) ?_
              rintro _ _ ⟨g512, rfl, hI513, hF514, rfl, hr516⟩
              refine At.stn ?_
              have hF517 := Fr.tr hF511 hF514 rfl rfl
              refine At.enter rfl ?_
              refine r_aload_n rfl ?_
              refine r_iload rfl ?_
              refine q_inlV 133 rfl [.ref 0, .int v509] [] (Nat.le_of_ble_eq_true rfl) rfl ?_
              refine Ev.mk rfl rfl ⟨Nat.le_of_ble_eq_true rfl, Or.inr (q_rc hI513.1 kx_0 rfl)⟩ ?_
              show At _ none _ _ (0, [(0, .ref 0), (1, .int v509)], [], (_, _)) _
              refine At.enter rfl ?_
              refine r_aload_n rfl ?_
              refine r_iconst 0 rfl ?_
              refine q_putI (Sh.int hI513.1 kx_0 rfl) rfl ?_
              have hI518 := HI.wI0 hI513 kx_0 rfl (p := 0) (b := 17) (v := 0) rfl
              have hF519 := Fr.wI (p := 0) (b := 17) (v := 0) hF517 rfl
              refine r_iload_n rfl ?_
              refine q_ireti ?_
              refine At.enter rfl ?_
              refine r_ireti ?_
              have x520 := HI.eqI hI0 (p := 1) (b := 0) (hv495)
              have y521 := congrArg Int32.toInt hv509
              have x522 := HI.eqI hI0 (p := 1) (b := 0) (hv495)
              exact ⟨_, rfl, hI518, hF519, _, rfl, trivial, ⟨⟨⟨by omega, by omega, by omega, by omega, by omega⟩, (by intro i i0 i1; exact (Decidable.em ((a2.toInt = 0 ∧ -1 ≤ a3.toInt ∧ a3.toInt ≤ 11 ∧ 0 ≤ a1.toInt ∧ a1.toInt < (gI g0 1 0).toInt) ∧ i = a1.toInt)).elim (fun k78_ => by refine Eq.trans ?_ (if_pos k78_).symm; refine (eA_ti (((gA_sI).trans (hF514.2.1 2 ma_X10_changed_0_2)))).trans ?_; exact (Decidable.em (i = a1.toInt)).elim (fun k79_ => by refine (eA_eqT hI0.1 ka_2 k79_ (by first | decide | omega) (by first | decide | omega)).trans ?_; (first | (with_reducible rfl) | (omega) | (rfl))) (fun k79_ => by refine (eA_neT hI0.1 ka_2 k79_ (by first | decide | omega) (by omega)).trans ?_; (first | with_reducible rfl | omega | exact eA_ix (by omega) | rfl))) (fun k78_ => by refine Eq.trans ?_ (if_neg k78_).symm; refine (eA_ti (((gA_sI).trans (hF514.2.1 2 ma_X10_changed_0_2)))).trans ?_; exact (Decidable.em (i = a1.toInt)).elim (fun k80_ => by refine (eA_eqT hI0.1 ka_2 k80_ (by first | decide | omega) (by first | decide | omega)).trans ?_; (first | (with_reducible rfl) | (omega) | (rfl))) (fun k80_ => by refine (eA_neT hI0.1 ka_2 k80_ (by first | decide | omega) (by omega)).trans ?_; (first | with_reducible rfl | omega | exact eA_ix (by omega) | rfl)))), (by intro i i0 i1; refine Eq.trans ?_ (if_neg (show ¬ ((a2.toInt = 1 ∧ 1 ≤ a3.toInt ∧ a3.toInt ≤ 9 ∧ 0 ≤ a1.toInt ∧ a1.toInt < (gI g0 1 0).toInt) ∧ i = a1.toInt) from by omega)).symm; refine (eA_ti (((gA_sI).trans ((hF514.2.1 3 ma_X10_changed_0_3).trans (gA_sA_ne (by decide)))))).trans ?_; (first | with_reducible rfl | omega | exact eA_ix (by omega) | rfl)), (by intro i i0 i1; refine Eq.trans ?_ (if_neg (show ¬ ((a2.toInt = 2 ∧ 0 ≤ a3.toInt ∧ a3.toInt ≤ 99 ∧ 0 ≤ a1.toInt ∧ a1.toInt < (gI g0 1 0).toInt) ∧ i = a1.toInt) from by omega)).symm; refine (eA_ti (((gA_sI).trans ((hF514.2.1 4 ma_X10_changed_0_4).trans (gA_sA_ne (by decide)))))).trans ?_; (first | with_reducible rfl | omega | exact eA_ix (by omega) | rfl))⟩, ⟨(fun _ => TOLDX_z ((congrArg Int32.toInt ((gI_sI_ne (by decide)))).trans hr516.1)), (fun _ => SETX_z ((congrArg Int32.toInt ((gI_sI_ne (by decide)))).trans hr516.2))⟩⟩⟩
