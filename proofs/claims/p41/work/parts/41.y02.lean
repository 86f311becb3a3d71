def F_X10_put_0 : List (Nat × Nat) := [(0, 14), (0, 17), (220, 2), (222, 2), (223, 5), (223, 10)]
def A_X10_put_0 : List Nat := [2, 3, 4, 230]
set_option maxRecDepth 100000 in
set_option maxHeartbeats 4000000 in
theorem T_X10_put_0 (d : Nat) {N : Nat} {g0 : List en_E} (hI0 : HI g0) (a1 : Int32) (a2 : Int32) (a3 : Int32) : Ev (d + 3) 105 [.ref 0, .int a1, .int a2, .int a3] (g0, N) (fun w h' => ∃ g', h' = (g', N) ∧ HI g' ∧ Fr F_X10_put_0 A_X10_put_0 g0 g' ∧ ∃ r : Int32, w = some (.int r) ∧ True ∧ ((((¬ ((a2.toInt = 0 ∧ -1 ≤ a3.toInt ∧ a3.toInt ≤ 11) ∨ (a2.toInt = 1 ∧ 1 ≤ a3.toInt ∧ a3.toInt ≤ 9) ∨ (a2.toInt = 2 ∧ 0 ≤ a3.toInt ∧ a3.toInt ≤ 99)) → r.toInt = -1) ∧ (((a2.toInt = 0 ∧ -1 ≤ a3.toInt ∧ a3.toInt ≤ 11) ∨ (a2.toInt = 1 ∧ 1 ≤ a3.toInt ∧ a3.toInt ≤ 9) ∨ (a2.toInt = 2 ∧ 0 ≤ a3.toInt ∧ a3.toInt ≤ 99)) ∧ ¬ (0 ≤ a1.toInt ∧ a1.toInt < (gI g0 1 0).toInt) → r.toInt = -2) ∧ (a2.toInt = 0 ∧ -1 ≤ a3.toInt ∧ a3.toInt ≤ 11 ∧ 0 ≤ a1.toInt ∧ a1.toInt < (gI g0 1 0).toInt → r.toInt = (eA g0 2 a1.toInt).toInt) ∧ (a2.toInt = 1 ∧ 1 ≤ a3.toInt ∧ a3.toInt ≤ 9 ∧ 0 ≤ a1.toInt ∧ a1.toInt < (gI g0 1 0).toInt → r.toInt = (eA g0 3 a1.toInt).toInt) ∧ (a2.toInt = 2 ∧ 0 ≤ a3.toInt ∧ a3.toInt ≤ 99 ∧ 0 ≤ a1.toInt ∧ a1.toInt < (gI g0 1 0).toInt → r.toInt = (eA g0 4 a1.toInt).toInt)) ∧ (∀ i : Int, 0 ≤ i → i < 12 → (eA g' 2 (i)).toInt = if (a2.toInt = 0 ∧ -1 ≤ a3.toInt ∧ a3.toInt ≤ 11 ∧ 0 ≤ a1.toInt ∧ a1.toInt < (gI g0 1 0).toInt) ∧ i = a1.toInt then a3.toInt else (eA g0 2 (i)).toInt) ∧ (∀ i : Int, 0 ≤ i → i < 12 → (eA g' 3 (i)).toInt = if (a2.toInt = 1 ∧ 1 ≤ a3.toInt ∧ a3.toInt ≤ 9 ∧ 0 ≤ a1.toInt ∧ a1.toInt < (gI g0 1 0).toInt) ∧ i = a1.toInt then a3.toInt else (eA g0 3 (i)).toInt) ∧ (∀ i : Int, 0 ≤ i → i < 12 → (eA g' 4 (i)).toInt = if (a2.toInt = 2 ∧ 0 ≤ a3.toInt ∧ a3.toInt ≤ 99 ∧ 0 ≤ a1.toInt ∧ a1.toInt < (gI g0 1 0).toInt) ∧ i = a1.toInt then a3.toInt else (eA g0 4 (i)).toInt)) ∧ SU3 ((a2.toInt = 0 ∧ -1 ≤ a3.toInt ∧ a3.toInt ≤ 11) ∨ (a2.toInt = 1 ∧ 1 ≤ a3.toInt ∧ a3.toInt ≤ 9) ∨ (a2.toInt = 2 ∧ 0 ≤ a3.toInt ∧ a3.toInt ≤ 99)) (0 ≤ a1.toInt ∧ a1.toInt < (gI g0 1 0).toInt) (gI g' 0 17).toInt)) := by
  have hF0 : Fr F_X10_put_0 A_X10_put_0 g0 g0 := Fr.rf
  refine Ev.mk rfl rfl ⟨Nat.le_of_ble_eq_true rfl, Or.inr (q_rc hI0.1 kx_0 rfl)⟩ ?_
  show At _ none _ _ (0, [(0, .ref 0), (1, .int a1), (2, .int a2), (3, .int a3)], [], (_, _)) _
  refine At.enter rfl ?_
  refine r_iload_n rfl ?_
  refine r_ifs 4 rfl (fun c319 => ?_) (fun c319 => ?_)
  · have c319_ : a2.toInt ≠ 0 := en_k_ne_t c319
    refine At.enter rfl ?_
    refine r_iload_n rfl ?_
    refine r_iconst 1 rfl ?_
    refine r_ics 19 rfl (fun c320 => ?_) (fun c320 => ?_)
    · have c320_ : a2.toInt ≠ 1 := en_i_ne_t c320
      refine At.enter rfl ?_
      refine r_iload_n rfl ?_
      refine r_iconst 2 rfl ?_
      refine r_ics 31 rfl (fun c321 => ?_) (fun c321 => ?_)
      · have c321_ : a2.toInt ≠ 2 := en_i_ne_t c321
        refine At.enter rfl ?_
        refine r_iconst 0 rfl ?_
        refine Ar.fall 43 rfl ?_
        refine At.enter rfl ?_
        refine r_istore ([(4, .int 0), (0, .ref 0), (1, .int a1), (2, .int a2), (3, .int a3)]) rfl ?_
        refine r_iload rfl ?_
        refine r_iff 50 rfl (by decide) ?_
        refine At.enter rfl ?_
        refine r_aload_n rfl ?_
        refine r_iconst (-1) rfl ?_
        refine r_callV 55 rfl [.ref 0, .int (-1)] [] (Nat.le_of_ble_eq_true rfl) rfl (T_X10_refused_0 _ hI0 (-1) (by decide)) ?_
        rintro _ _ ⟨g322, rfl, hI323, hF324, v325, rfl, hr326⟩
        refine At.sti ?_
        have hF327 := Fr.tr hF0 hF324 rfl rfl
        have zv328 : ((-1) : Int32).toInt = (-1) := rfl
        refine At.enter rfl ?_
        refine r_ireti ?_
        obtain ⟨v329, hv329⟩ : ∃ v, gI g0 1 0 = v := ⟨_, rfl⟩
        have rv329 := RgF.at hI0.2.1 (p := 1) (b := 0) rfl
        rw [hv329] at rv329
        dsimp only at rv329
        have tv329 := congrArg Int32.toInt hv329
        obtain ⟨v332, hv332⟩ : ∃ v, gI g322 0 17 = v := ⟨_, rfl⟩
        have tv332 := congrArg Int32.toInt hv332
        exact ⟨_, rfl, hI323, hF327, _, rfl, trivial, ⟨⟨⟨by omega, by omega, by omega, by omega, by omega⟩, (by intro i i0 i1; refine Eq.trans ?_ (if_neg (show ¬ ((a2.toInt = 0 ∧ -1 ≤ a3.toInt ∧ a3.toInt ≤ 11 ∧ 0 ≤ a1.toInt ∧ a1.toInt < (gI g0 1 0).toInt) ∧ i = a1.toInt) from by omega)).symm; refine (eA_ti ((hF324.2.1 2 ma_X10_refused_0_2))).trans ?_; (first | with_reducible rfl | omega | exact eA_ix (by omega) | rfl)), (by intro i i0 i1; refine Eq.trans ?_ (if_neg (show ¬ ((a2.toInt = 1 ∧ 1 ≤ a3.toInt ∧ a3.toInt ≤ 9 ∧ 0 ≤ a1.toInt ∧ a1.toInt < (gI g0 1 0).toInt) ∧ i = a1.toInt) from by omega)).symm; refine (eA_ti ((hF324.2.1 3 ma_X10_refused_0_3))).trans ?_; (first | with_reducible rfl | omega | exact eA_ix (by omega) | rfl)), (by intro i i0 i1; refine Eq.trans ?_ (if_neg (show ¬ ((a2.toInt = 2 ∧ 0 ≤ a3.toInt ∧ a3.toInt ≤ 99 ∧ 0 ≤ a1.toInt ∧ a1.toInt < (gI g0 1 0).toInt) ∧ i = a1.toInt) from by omega)).symm; refine (eA_ti ((hF324.2.1 4 ma_X10_refused_0_4))).trans ?_; (first | with_reducible rfl | omega | exact eA_ix (by omega) | rfl))⟩, (SU3.mk (by omega))⟩⟩
      · have c321_ : a2.toInt = 2 := en_i_ne_f c321
        refine At.enter rfl ?_
        refine r_iload_n rfl ?_
        refine q_inlS 35 rfl [.int a3] [] (Nat.le_of_ble_eq_true rfl) rfl ?_
        refine Ev.mk rfl rfl ⟨Nat.le_of_ble_eq_true rfl, Or.inl rfl⟩ ?_
        show At _ none _ _ (0, [(0, .int a3)], [], (_, _)) _
        refine At.enter rfl ?_
        refine r_iload_n rfl ?_
        refine r_iconst 0 rfl ?_
        refine r_bipush 99 rfl ?_
        refine q_inlS 7 rfl [.int a3, .int 0, .int 99] [] (Nat.le_of_ble_eq_true rfl) rfl ?_
        refine Ev.mk rfl rfl ⟨Nat.le_of_ble_eq_true rfl, Or.inl rfl⟩ ?_
        show At _ none _ _ (0, [(0, .int a3), (1, .int 0), (2, .int 99)], [], (_, _)) _
        refine At.enter rfl ?_
        refine r_iload_n rfl ?_
        refine r_iload_n rfl ?_
        refine r_ics 5 rfl (fun c335 => ?_) (fun c335 => ?_)
        · have c335_ : a3.toInt < 0 := en_i_lt_t c335
          refine At.enter rfl ?_
          refine r_iconst 0 rfl ?_
          refine Ar.fall 15 rfl ?_
          refine At.enter rfl ?_
          refine q_iretz (by decide) ?_
          refine At.enter rfl ?_
          refine q_iretz (by decide) ?_
          refine At.enter rfl ?_
          refine r_ift (by decide) ?_
          refine At.enter rfl ?_
          refine r_iconst 0 rfl ?_
          refine Ar.fall 43 rfl ?_
          refine At.enter rfl ?_
          refine r_istore ([(4, .int 0), (0, .ref 0), (1, .int a1), (2, .int a2), (3, .int a3)]) rfl ?_
          refine r_iload rfl ?_
          refine r_iff 50 rfl (by decide) ?_
          refine At.enter rfl ?_
          refine r_aload_n rfl ?_
          refine r_iconst (-1) rfl ?_
          refine r_callV 55 rfl [.ref 0, .int (-1)] [] (Nat.le_of_ble_eq_true rfl) rfl (T_X10_refused_0 _ hI0 (-1) (by decide)) ?_
          rintro _ _ ⟨g336, rfl, hI337, hF338, v339, rfl, hr340⟩
          refine At.sti ?_
          have hF341 := Fr.tr hF0 hF338 rfl rfl
          have zv342 : ((-1) : Int32).toInt = (-1) := rfl
          refine At.enter rfl ?_
          refine r_ireti ?_
          obtain ⟨v343, hv343⟩ : ∃ v, gI g0 1 0 = v := ⟨_, rfl⟩
          have rv343 := RgF.at hI0.2.1 (p := 1) (b := 0) rfl
          rw [hv343] at rv343
          dsimp only at rv343
          have tv343 := congrArg Int32.toInt hv343
          obtain ⟨v346, hv346⟩ : ∃ v, gI g336 0 17 = v := ⟨_, rfl⟩
          have tv346 := congrArg Int32.toInt hv346
          exact ⟨_, rfl, hI337, hF341, _, rfl, trivial, ⟨⟨⟨by omega, by omega, by omega, by omega, by omega⟩, (by intro i i0 i1; refine Eq.trans ?_ (if_neg (show ¬ ((a2.toInt = 0 ∧ -1 ≤ a3.toInt ∧ a3.toInt ≤ 11 ∧ 0 ≤ a1.toInt ∧ a1.toInt < (gI g0 1 0).toInt) ∧ i = a1.toInt) from by omega)).symm; refine (eA_ti ((hF338.2.1 2 ma_X10_refused_0_2))).trans ?_; (first | with_reducible rfl | omega | exact eA_ix (by omega) | rfl)), (by intro i i0 i1; refine Eq.trans ?_ (if_neg (show ¬ ((a2.toInt = 1 ∧ 1 ≤ a3.toInt ∧ a3.toInt ≤ 9 ∧ 0 ≤ a1.toInt ∧ a1.toInt < (gI g0 1 0).toInt) ∧ i = a1.toInt) from by omega)).symm; refine (eA_ti ((hF338.2.1 3 ma_X10_refused_0_3))).trans ?_; (first | with_reducible rfl | omega | exact eA_ix (by omega) | rfl)), (by intro i i0 i1; refine Eq.trans ?_ (if_neg (show ¬ ((a2.toInt = 2 ∧ 0 ≤ a3.toInt ∧ a3.toInt ≤ 99 ∧ 0 ≤ a1.toInt ∧ a1.toInt < (gI g0 1 0).toInt) ∧ i = a1.toInt) from by omega)).symm; refine (eA_ti ((hF338.2.1 4 ma_X10_refused_0_4))).trans ?_; (first | with_reducible rfl | omega | exact eA_ix (by omega) | rfl))⟩, (SU3.mk (by omega))⟩⟩
        · have c335_ : a3.toInt ≥ 0 := en_i_lt_f c335
          refine At.enter rfl ?_
          refine r_iload_n rfl ?_
          refine r_iload_n rfl ?_
          refine r_ics 10 rfl (fun c349 => ?_) (fun c349 => ?_)
          · have c349_ : a3.toInt > 99 := en_i_gt_t c349
            refine At.enter rfl ?_
            refine r_iconst 0 rfl ?_
            refine Ar.fall 15 rfl ?_
            refine At.enter rfl ?_
            refine q_iretz (by decide) ?_
            refine At.enter rfl ?_
            refine q_iretz (by decide) ?_
            refine At.enter rfl ?_
            refine r_ift (by decide) ?_
            refine At.enter rfl ?_
            refine r_iconst 0 rfl ?_
            refine Ar.fall 43 rfl ?_
            refine At.enter rfl ?_
            refine r_istore ([(4, .int 0), (0, .ref 0), (1, .int a1), (2, .int a2), (3, .int a3)]) rfl ?_
            refine r_iload rfl ?_
            refine r_iff 50 rfl (by decide) ?_
            refine At.enter rfl ?_
            refine r_aload_n rfl ?_
            refine r_iconst (-1) rfl ?_
            refine r_callV 55 rfl [.ref 0, .int (-1)] [] (Nat.le_of_ble_eq_true rfl) rfl (T_X10_refused_0 _ hI0 (-1) (by decide)) ?_
            rintro _ _ ⟨g350, rfl, hI351, hF352, v353, rfl, hr354⟩
            refine At.sti ?_
            have hF355 := Fr.tr hF0 hF352 rfl rfl
            have zv356 : ((-1) : Int32).toInt = (-1) := rfl
            refine At.enter rfl ?_
            refine r_ireti ?_
            obtain ⟨v357, hv357⟩ : ∃ v, gI g0 1 0 = v := ⟨_, rfl⟩
            have rv357 := RgF.at hI0.2.1 (p := 1) (b := 0) rfl
            rw [hv357] at rv357
            dsimp only at rv357
            have tv357 := congrArg Int32.toInt hv357
            obtain ⟨v360, hv360⟩ : ∃ v, gI g350 0 17 = v := ⟨_, rfl⟩
            have tv360 := congrArg Int32.toInt hv360
            exact ⟨_, rfl, hI351, hF355, _, rfl, trivial, ⟨⟨⟨by omega, by omega, by omega, by omega, by omega⟩, (by intro i i0 i1; refine Eq.trans ?_ (if_neg (show ¬ ((a2.toInt = 0 ∧ -1 ≤ a3.toInt ∧ a3.toInt ≤ 11 ∧ 0 ≤ a1.toInt ∧ a1.toInt < (gI g0 1 0).toInt) ∧ i = a1.toInt) from by omega)).symm; refine (eA_ti ((hF352.2.1 2 ma_X10_refused_0_2))).trans ?_; (first | with_reducible rfl | omega | exact eA_ix (by omega) | rfl)), (by intro i i0 i1; refine Eq.trans ?_ (if_neg (show ¬ ((a2.toInt = 1 ∧ 1 ≤ a3.toInt ∧ a3.toInt ≤ 9 ∧ 0 ≤ a1.toInt ∧ a1.toInt < (gI g0 1 0).toInt) ∧ i = a1.toInt) from by omega)).symm; refine (eA_ti ((hF352.2.1 3 ma_X10_refused_0_3))).trans ?_; (first | with_reducible rfl | omega | exact eA_ix (by omega) | rfl)), (by intro i i0 i1; refine Eq.trans ?_ (if_neg (show ¬ ((a2.toInt = 2 ∧ 0 ≤ a3.toInt ∧ a3.toInt ≤ 99 ∧ 0 ≤ a1.toInt ∧ a1.toInt < (gI g0 1 0).toInt) ∧ i = a1.toInt) from by omega)).symm; refine (eA_ti ((hF352.2.1 4 ma_X10_refused_0_4))).trans ?_; (first | with_reducible rfl | omega | exact eA_ix (by omega) | rfl))⟩, (SU3.mk (by omega))⟩⟩
          · have c349_ : a3.toInt ≤ 99 := en_i_gt_f c349
            refine At.enter rfl ?_
            refine r_iconst 1 rfl ?_
            refine r_goto ?_
            refine At.enter rfl ?_
            refine q_iretz (by decide) ?_
            refine At.enter rfl ?_
            refine q_iretz (by decide) ?_
            refine At.enter rfl ?_
            refine r_iff 38 rfl (by decide) ?_
            refine At.enter rfl ?_
            refine r_iconst 1 rfl ?_
            refine r_goto ?_
            refine At.enter rfl ?_
            refine r_istore ([(4, .int 1), (0, .ref 0), (1, .int a1), (2, .int a2), (3, .int a3)]) rfl ?_
            refine r_iload rfl ?_
            refine r_ift (by decide) ?_
            refine At.enter rfl ?_
            refine r_aload_n rfl ?_
            refine q_getR (Sh.ref hI0.1 kx_0 rfl) ?_
            refine r_iload_n rfl ?_
            refine q_inlV 64 rfl [.ref 1, .int a1] [] (Nat.le_of_ble_eq_true rfl) rfl ?_
            refine Ev.mk rfl rfl ⟨Nat.le_of_ble_eq_true rfl, Or.inr (q_rc hI0.1 kx_1 rfl)⟩ ?_
            show At _ none _ _ (0, [(0, .ref 1), (1, .int a1)], [], (_, _)) _
            refine At.enter rfl ?_
            refine r_iload_n rfl ?_
            refine r_ifs 4 rfl (fun c363 => ?_) (fun c363 => ?_)
            · have c363_ : a1.toInt < 0 := en_k_lt_t c363
              refine At.enter rfl ?_
              refine r_iconst 0 rfl ?_
              refine Ar.fall 17 rfl ?_
              refine At.enter rfl ?_
              refine q_iretz (by decide) ?_
              refine At.enter rfl ?_
              refine r_iff 67 rfl (by decide) ?_
              refine At.enter rfl ?_
              refine r_aload_n rfl ?_
              refine r_bipush (-2) rfl ?_
              refine r_callV 73 rfl [.ref 0, .int (-2)] [] (Nat.le_of_ble_eq_true rfl) rfl (T_X10_refused_0 _ hI0 (-2) (by decide)) ?_
              rintro _ _ ⟨g364, rfl, hI365, hF366, v367, rfl, hr368⟩
              refine At.sti ?_
              have hF369 := Fr.tr hF0 hF366 rfl rfl
              have zv370 : ((-2) : Int32).toInt = (-2) := rfl
              refine At.enter rfl ?_
              refine r_ireti ?_
              obtain ⟨v371, hv371⟩ : ∃ v, gI g0 1 0 = v := ⟨_, rfl⟩
              have rv371 := RgF.at hI0.2.1 (p := 1) (b := 0) rfl
              rw [hv371] at rv371
              dsimp only at rv371
              have tv371 := congrArg Int32.toInt hv371
              obtain ⟨v374, hv374⟩ : ∃ v, gI g364 0 17 = v := ⟨_, rfl⟩
              have tv374 := congrArg Int32.toInt hv374
              exact ⟨_, rfl, hI365, hF369, _, rfl, trivial, ⟨⟨⟨by omega, by omega, by omega, by omega, by omega⟩, (by intro i i0 i1; refine Eq.trans ?_ (if_neg (show ¬ ((a2.toInt = 0 ∧ -1 ≤ a3.toInt ∧ a3.toInt ≤ 11 ∧ 0 ≤ a1.toInt ∧ a1.toInt < (gI g0 1 0).toInt) ∧ i = a1.toInt) from by omega)).symm; refine (eA_ti ((hF366.2.1 2 ma_X10_refused_0_2))).trans ?_; (first | with_reducible rfl | omega | exact eA_ix (by omega) | rfl)), (by intro i i0 i1; refine Eq.trans ?_ (if_neg (show ¬ ((a2.toInt = 1 ∧ 1 ≤ a3.toInt ∧ a3.toInt ≤ 9 ∧ 0 ≤ a1.toInt ∧ a1.toInt < (gI g0 1 0).toInt) ∧ i = a1.toInt) from by omega)).symm; refine (eA_ti ((hF366.2.1 3 ma_X10_refused_0_3))).trans ?_; (first | with_reducible rfl | omega | exact eA_ix (by omega) | rfl)), (by intro i i0 i1; refine Eq.trans ?_ (if_neg (show ¬ ((a2.toInt = 2 ∧ 0 ≤ a3.toInt ∧ a3.toInt ≤ 99 ∧ 0 ≤ a1.toInt ∧ a1.toInt < (gI g0 1 0).toInt) ∧ i = a1.toInt) from by omega)).symm; refine (eA_ti ((hF366.2.1 4 ma_X10_refused_0_4))).trans ?_; (first | with_reducible rfl | omega | exact eA_ix (by omega) | rfl))⟩, (SU3.mk (by omega))⟩⟩
            · have c363_ : a1.toInt ≥ 0 := en_k_lt_f c363
              refine At.enter rfl ?_
              refine r_iload_n rfl ?_
              refine r_aload_n rfl ?_
              obtain ⟨v377, hv377⟩ : ∃ v, gI g0 1 0 = v := ⟨_, rfl⟩
              have rv377 := RgF.at hI0.2.1 (p := 1) (b := 0) rfl
              rw [hv377] at rv377
              dsimp only at rv377
              refine q_getI (Sh.int hI0.1 kx_1 rfl) v377 hv377 ?_
              have bv379 := q_bnd a1
              have bv380 := q_bnd v377
              refine r_ics 12 rfl (fun c378 => ?_) (fun c378 => ?_)
              · have c378_ : a1.toInt ≥ v377.toInt := en_i_ge_t c378
                refine At.enter rfl ?_
                refine r_iconst 0 rfl ?_
                refine Ar.fall 17 rfl ?_
                refine At.enter rfl ?_
                refine q_iretz (by decide) ?_
                refine At.enter rfl ?_
                refine r_iff 67 rfl (by decide) ?_
                refine At.enter rfl ?_
                refine r_aload_n rfl ?_
                refine r_bipush (-2) rfl ?_
                refine r_callV 73 rfl [.ref 0, .int (-2)] [] (Nat.le_of_ble_eq_true rfl) rfl (T_X10_refused_0 _ hI0 (-2) (by decide)) ?_
                rintro _ _ ⟨g381, rfl, hI382, hF383, v384, rfl, hr385⟩
                refine At.sti ?_
                have hF386 := Fr.tr hF0 hF383 rfl rfl
                have zv387 : ((-2) : Int32).toInt = (-2) := rfl
                refine At.enter rfl ?_
                refine r_ireti ?_
                have x388 := HI.eqI hI0 (p := 1) (b := 0) (hv377)
                have x389 := HI.eqI hI0 (p := 1) (b := 0) (hv377)
                obtain ⟨v390, hv390⟩ : ∃ v, gI g381 0 17 = v := ⟨_, rfl⟩
                have tv390 := congrArg Int32.toInt hv390
                have x392 := HI.eqI hI0 (p := 1) (b := 0) (hv377)
                exact ⟨_, rfl, hI382, hF386, _, rfl, trivial, ⟨⟨⟨by omega, by omega, by omega, by omega, by omega⟩, (by intro i i0 i1; refine Eq.trans ?_ (if_neg (show ¬ ((a2.toInt = 0 ∧ -1 ≤ a3.toInt ∧ a3.toInt ≤ 11 ∧ 0 ≤ a1.toInt ∧ a1.toInt < (gI g0 1 0).toInt) ∧ i = a1.toInt) from by omega)).symm; refine (eA_ti ((hF383.2.1 2 ma_X10_refused_0_2))).trans ?_; (first | with_reducible rfl | omega | exact eA_ix (by omega) | rfl)), (by intro i i0 i1; refine Eq.trans ?_ (if_neg (show ¬ ((a2.toInt = 1 ∧ 1 ≤ a3.toInt ∧ a3.toInt ≤ 9 ∧ 0 ≤ a1.toInt ∧ a1.toInt < (gI g0 1 0).toInt) ∧ i = a1.toInt) from by omega)).symm; refine (eA_ti ((hF383.2.1 3 ma_X10_refused_0_3))).trans ?_; (first | with_reducible rfl | omega | exact eA_ix (by omega) | rfl)), (by intro i i0 i1; refine Eq.trans ?_ (if_neg (show ¬ ((a2.toInt = 2 ∧ 0 ≤ a3.toInt ∧ a3.toInt ≤ 99 ∧ 0 ≤ a1.toInt ∧ a1.toInt < (gI g0 1 0).toInt) ∧ i = a1.toInt) from by omega)).symm; refine (eA_ti ((hF383.2.1 4 ma_X10_refused_0_4))).trans ?_; (first | with_reducible rfl | omega | exact eA_ix (by omega) | rfl))⟩, (SU3.mk (by omega))⟩⟩
              · have c378_ : a1.toInt < v377.toInt := en_i_ge_f c378
                refine At.enter rfl ?_
                refine r_iconst 1 rfl ?_
                refine r_goto ?_
                refine At.enter rfl ?_
                refine q_iretz (by decide) ?_
                refine At.enter rfl ?_
                refine r_ift (by decide) ?_
                refine At.enter rfl ?_
                refine r_iload_n rfl ?_
                refine r_ifs 78 rfl (fun c393 => ?_) (fun c393 => ?_)
                · have c393_ : a2.toInt ≠ 0 := en_k_ne_t c393
                  refine At.enter rfl ?_
                  refine r_iload_n rfl ?_
                  refine r_iconst 1 rfl ?_
                  refine r_ics 93 rfl (fun c394 => ?_) (fun c394 => ?_)
                  · have c394_ : a2.toInt ≠ 1 := en_i_ne_t c394
                    refine At.enter rfl ?_
                    refine r_aload_n rfl ?_
                    refine q_getR (Sh.ref hI0.1 kx_0 rfl) ?_
                    refine q_getR (Sh.ref hI0.1 kx_1 rfl) ?_
                    refine Ar.fall 110 rfl ?_
                    refine At.enter rfl ?_
                    refine r_astore ([(5, .ref 4), (4, .int 1), (0, .ref 0), (1, .int a1), (2, .int a2), (3, .int a3)]) rfl ?_
                    refine r_aload rfl ?_
                    refine r_iload_n rfl ?_
                    obtain ⟨v395, hv395⟩ : ∃ v, eA g0 4 a1.toInt = v := ⟨_, rfl⟩
                    refine q_iald (Sh.arr hI0.1 ka_4) a1.toInt rfl (by omega) v395 hv395 ?_
                    refine r_istore ([(6, .int v395), (5, .ref 4), (4, .int 1), (0, .ref 0), (1, .int a1), (2, .int a2), (3, .int a3)]) rfl ?_
                    refine r_aload rfl ?_
                    refine r_iload_n rfl ?_
                    refine r_iload_n rfl ?_
                    refine q_iast (Sh.arr hI0.1 ka_4) (a1.toInt) rfl (by omega) ?_
                    have hI396 := HI.wA0 hI0 ka_4 (p := 4) rfl rfl (a1.toInt) (a3)
                    have hF397 := Fr.wA (p := 4) (j := a1.toInt) (v := a3) hF0 rfl
                    refine r_aload_n rfl ?_
                    refine r_callV 127 rfl [.ref 0] [] (Nat.le_of_ble_eq_true rfl) rfl (T_X10_changed_0 _ hI396) ?_
                    rintro _ _ ⟨g398, rfl, hI399, hF400, rfl⟩
                    refine At.stn ?_
                    have hF403 := Fr.tr hF397 hF400 rfl rfl
                    refine At.enter rfl ?_
                    refine r_aload_n rfl ?_
                    refine r_iload rfl ?_
                    refine q_inlV 133 rfl [.ref 0, .int v395] [] (Nat.le_of_ble_eq_true rfl) rfl ?_
                    refine Ev.mk rfl rfl ⟨Nat.le_of_ble_eq_true rfl, Or.inr (q_rc hI399.1 kx_0 rfl)⟩ ?_
                    show At _ none _ _ (0, [(0, .ref 0), (1, .int v395)], [], (_, _)) _
                    refine At.enter rfl ?_
                    refine r_aload_n rfl ?_
                    refine r_iconst 0 rfl ?_
                    refine q_putI (Sh.int hI399.1 kx_0 rfl) rfl ?_
                    have hI404 := HI.wI0 hI399 kx_0 rfl (p := 0) (b := 17) (v := 0) rfl
                    have hF405 := Fr.wI (p := 0) (b := 17) (v := 0) hF403 rfl
                    refine r_iload_n rfl ?_
                    refine q_ireti ?_
                    refine At.enter rfl ?_
                    refine r_ireti ?_
                    have x406 := HI.eqI hI0 (p := 1) (b := 0) (hv377)
                    have y407 := congrArg Int32.toInt hv395
                    have x408 := HI.eqI hI0 (p := 1) (b := 0) (hv377)
                    have x409 := HI.eqI hI404 (p := 0) (b := 17) ((gI_sI_eq hI399.1 kx_0 rfl _))
                    have zv410 : (0 : Int32).toInt = 0 := rfl
                    have x411 := HI.eqI hI0 (p := 1) (b := 0) (hv377)
                    exact ⟨_, rfl, hI404, hF405, _, rfl, trivial, ⟨⟨⟨by omega, by omega, by omega, by omega, by omega⟩, (by intro i i0 i1; refine Eq.trans ?_ (if_neg (show ¬ ((a2.toInt = 0 ∧ -1 ≤ a3.toInt ∧ a3.toInt ≤ 11 ∧ 0 ≤ a1.toInt ∧ a1.toInt < (gI g0 1 0).toInt) ∧ i = a1.toInt) from by omega)).symm; refine (eA_ti (((gA_sI).trans ((hF400.2.1 2 ma_X10_changed_0_2).trans (gA_sA_ne (by decide)))))).trans ?_; (first | with_reducible rfl | omega | exact eA_ix (by omega) | rfl)), (by intro i i0 i1; refine Eq.trans ?_ (if_neg (show ¬ ((a2.toInt = 1 ∧ 1 ≤ a3.toInt ∧ a3.toInt ≤ 9 ∧ 0 ≤ a1.toInt ∧ a1.toInt < (gI g0 1 0).toInt) ∧ i = a1.toInt) from by omega)).symm; refine (eA_ti (((gA_sI).trans ((hF400.2.1 3 ma_X10_changed_0_3).trans (gA_sA_ne (by decide)))))).trans ?_; (first | with_reducible rfl | omega | exact eA_ix (by omega) | rfl)), (by intro i i0 i1; exact (Decidable.em ((a2.toInt = 2 ∧ 0 ≤ a3.toInt ∧ a3.toInt ≤ 99 ∧ 0 ≤ a1.toInt ∧ a1.toInt < (gI g0 1 0).toInt) ∧ i = a1.toInt)).elim (fun k72_ => by refine Eq.trans ?_ (if_pos k72_).symm; refine (eA_ti (((gA_sI).trans (hF400.2.1 4 ma_X10_changed_0_4)))).trans ?_; exact (Decidable.em (i = a1.toInt)).elim (fun k73_ => by refine (eA_eqT hI0.1 ka_4 k73_ (by first | decide | omega) (by first | decide | omega)).trans ?_; (first | (with_reducible rfl) | (omega) | (rfl))) (fun k73_ => by refine (eA_neT hI0.1 ka_4 k73_ (by first | decide | omega) (by omega)).trans ?_; (first | with_reducible rfl | omega | exact eA_ix (by omega) | rfl))) (fun k72_ => by refine Eq.trans ?_ (if_neg k72_).symm; refine (eA_ti (((gA_sI).trans (hF400.2.1 4 ma_X10_changed_0_4)))).trans ?_; exact (Decidable.em (i = a1.toInt)).elim (fun k74_ => by refine (eA_eqT hI0.1 ka_4 k74_ (by first | decide | omega) (by first | decide | omega)).trans ?_; (first | (with_reducible rfl) | (omega) | (rfl))) (fun k74_ => by refine (eA_neT hI0.1 ka_4 k74_ (by first | decide | omega) (by omega)).trans ?_; (first | with_reducible rfl | omega | exact eA_ix (by omega) | rfl))))⟩, (SU3.mk (by omega))⟩⟩
                  · have c394_ : a2.toInt = 1 := en_i_ne_f c394
                    exfalso; omega
                · have c393_ : a2.toInt = 0 := en_k_ne_f c393
                  exfalso; omega
    · have c320_ : a2.toInt = 1 := en_i_ne_f c320
      refine At.enter rfl ?_
      refine r_iload_n rfl ?_
      refine q_inlS 23 rfl [.int a3] [] (Nat.le_of_ble_eq_true rfl) rfl ?_
      refine Ev.mk rfl rfl ⟨Nat.le_of_ble_eq_true rfl, Or.inl rfl⟩ ?_
      show At _ none _ _ (0, [(0, .int a3)], [], (_, _)) _
      refine At.enter rfl ?_
      refine r_iload_n rfl ?_
      refine r_iconst 1 rfl ?_
      refine r_bipush 9 rfl ?_
      refine q_inlS 7 rfl [.int a3, .int 1, .int 9] [] (Nat.le_of_ble_eq_true rfl) rfl ?_
      refine Ev.mk rfl rfl ⟨Nat.le_of_ble_eq_true rfl, Or.inl rfl⟩ ?_
      show At _ none _ _ (0, [(0, .int a3), (1, .int 1), (2, .int 9)], [], (_, _)) _
      refine At.enter rfl ?_
      refine r_iload_n rfl ?_
      refine r_iload_n rfl ?_
      refine r_ics 5 rfl (fun c412 => ?_) (fun c412 => ?_)
      · have c412_ : a3.toInt < 1 := en_i_lt_t c412
        refine At.enter rfl ?_
        refine r_iconst 0 rfl ?_
        refine Ar.fall 15 rfl ?_
        refine At.enter rfl ?_
        refine q_iretz (by decide) ?_
        refine At.enter rfl ?_
        refine q_iretz (by decide) ?_
        refine At.enter rfl ?_
        refine r_iff 26 rfl (by decide) ?_
        refine At.enter rfl ?_
        refine r_iload_n rfl ?_
        refine r_iconst 2 rfl ?_
        refine r_ics 31 rfl (fun c413 => ?_) (fun c413 => ?_)
        · have c413_ : a2.toInt ≠ 2 := en_i_ne_t c413
          refine At.enter rfl ?_
          refine r_iconst 0 rfl ?_
          refine Ar.fall 43 rfl ?_
          refine At.enter rfl ?_
          refine r_istore ([(4, .int 0), (0, .ref 0), (1, .int a1), (2, .int a2), (3, .int a3)]) rfl ?_
          refine r_iload rfl ?_
          refine r_iff 50 rfl (by decide) ?_
          refine At.enter rfl ?_
          refine r_aload_n rfl ?_
          refine r_iconst (-1) rfl ?_
          refine r_callV 55 rfl [.ref 0, .int (-1)] [] (Nat.le_of_ble_eq_true rfl) rfl (T_X10_refused_0 _ hI0 (-1) (by decide)) ?_
          rintro _ _ ⟨g414, rfl, hI415, hF416, v417, rfl, hr418⟩
          refine At.sti ?_
          have hF419 := Fr.tr hF0 hF416 rfl rfl
          have zv420 : ((-1) : Int32).toInt = (-1) := rfl
          refine At.enter rfl ?_
          refine r_ireti ?_
          obtain ⟨v421, hv421⟩ : ∃ v, gI g0 1 0 = v := ⟨_, rfl⟩
          have rv421 := RgF.at hI0.2.1 (p := 1) (b := 0) rfl
          rw [hv421] at rv421
          dsimp only at rv421
          have tv421 := congrArg Int32.toInt hv421
          obtain ⟨v424, hv424⟩ : ∃ v, gI g414 0 17 = v := ⟨_, rfl⟩
          have tv424 := congrArg Int32.toInt hv424
          exact ⟨_, rfl, hI415, hF419, _, rfl, trivial, ⟨⟨⟨by omega, by omega, by omega, by omega, by omega⟩, (by intro i i0 i1; refine Eq.trans ?_ (if_neg (show ¬ ((a2.toInt = 0 ∧ -1 ≤ a3.toInt ∧ a3.toInt ≤ 11 ∧ 0 ≤ a1.toInt ∧ a1.toInt < (gI g0 1 0).toInt) ∧ i = a1.toInt) from by omega)).symm; refine (eA_ti ((hF416.2.1 2 ma_X10_refused_0_2))).trans ?_; (first | with_reducible rfl | omega | exact eA_ix (by omega) | rfl)), (by intro i i0 i1; refine Eq.trans ?_ (if_neg (show ¬ ((a2.toInt = 1 ∧ 1 ≤ a3.toInt ∧ a3.toInt ≤ 9 ∧ 0 ≤ a1.toInt ∧ a1.toInt < (gI g0 1 0).toInt) ∧ i = a1.toInt) from by omega)).symm; refine (eA_ti ((hF416.2.1 3 ma_X10_refused_0_3))).trans ?_; (first | with_reducible rfl | omega | exact eA_ix (by omega) | rfl)), (by intro i i0 i1; refine Eq.trans ?_ (if_neg (show ¬ ((a2.toInt = 2 ∧ 0 ≤ a3.toInt ∧ a3.toInt ≤ 99 ∧ 0 ≤ a1.toInt ∧ a1.toInt < (gI g0 1 0).toInt) ∧ i = a1.toInt) from by omega)).symm; refine (eA_ti ((hF416.2.1 4 ma_X10_refused_0_4))).trans ?_; (first | with_reducible rfl | omega | exact eA_ix (by omega) | rfl))⟩, (SU3.mk (by omega))⟩⟩
        · have c413_ : a2.toInt = 2 := en_i_ne_f c413
          exfalso; omega
      · have c412_ : a3.toInt ≥ 1 := en_i_lt_f c412
        refine At.enter rfl ?_
        refine r_iload_n rfl ?_
        refine r_iload_n rfl ?_
        refine r_ics 10 rfl (fun c427 => ?_) (fun c427 => ?_)
        · have c427_ : a3.toInt > 9 := en_i_gt_t c427
          refine At.enter rfl ?_
          refine r_iconst 0 rfl ?_
          refine Ar.fall 15 rfl ?_
          refine At.enter rfl ?_
          refine q_iretz (by decide) ?_
          refine At.enter rfl ?_
          refine q_iretz (by decide) ?_
          refine At.enter rfl ?_
          refine r_iff 26 rfl (by decide) ?_
          refine At.enter rfl ?_
          refine r_iload_n rfl ?_
          refine r_iconst 2 rfl ?_
          refine r_ics 31 rfl (fun c428 => ?_) (fun c428 => ?_)
          · have c428_ : a2.toInt ≠ 2 := en_i_ne_t c428
            refine At.enter rfl ?_
            refine r_iconst 0 rfl ?_
            refine Ar.fall 43 rfl ?_
            refine At.enter rfl ?_
            refine r_istore ([(4, .int 0), (0, .ref 0), (1, .int a1), (2, .int a2), (3, .int a3)]) rfl ?_
            refine r_iload rfl ?_
            refine r_iff 50 rfl (by decide) ?_
            refine At.enter rfl ?_
            refine r_aload_n rfl ?_
            refine r_iconst (-1) rfl ?_
            refine r_callV 55 rfl [.ref 0, .int (-1)] [] (Nat.le_of_ble_eq_true rfl) rfl (T_X10_refused_0 _ hI0 (-1) (by decide)) ?_
            rintro _ _ ⟨g429, rfl, hI430, hF431, v432, rfl, hr433⟩
            refine At.sti ?_
            have hF434 := Fr.tr hF0 hF431 rfl rfl
            have zv435 : ((-1) : Int32).toInt = (-1) := rfl
            refine At.enter rfl ?_
            refine r_ireti ?_
            obtain ⟨v436, hv436⟩ : ∃ v, gI g0 1 0 = v := ⟨_, rfl⟩
            have rv436 := RgF.at hI0.2.1 (p := 1) (b := 0) rfl
            rw [hv436] at rv436
            dsimp only at rv436
            have tv436 := congrArg Int32.toInt hv436
            obtain ⟨v439, hv439⟩ : ∃ v, gI g429 0 17 = v := ⟨_, rfl⟩
            have tv439 := congrArg Int32.toInt hv439
            exact ⟨_, rfl, hI430, hF434, _, rfl, trivial, ⟨⟨⟨by omega, by omega, by omega, by omega, by omega⟩, (by intro i i0 i1; refine Eq.trans ?_ (if_neg (show ¬ ((a2.toInt = 0 ∧ -1 ≤ a3.toInt ∧ a3.toInt ≤ 11 ∧ 0 ≤ a1.toInt ∧ a1.toInt < (gI g0 1 0).toInt) ∧ i = a1.toInt) from by omega)).symm; refine (eA_ti ((hF431.2.1 2 ma_X10_refused_0_2))).trans ?_; (first | with_reducible rfl | omega | exact eA_ix (by omega) | rfl)), (by intro i i0 i1; refine Eq.trans ?_ (if_neg (show ¬ ((a2.toInt = 1 ∧ 1 ≤ a3.toInt ∧ a3.toInt ≤ 9 ∧ 0 ≤ a1.toInt ∧ a1.toInt < (gI g0 1 0).toInt) ∧ i = a1.toInt) from by omega)).symm; refine (eA_ti ((hF431.2.1 3 ma_X10_refused_0_3))).trans ?_; (first | with_reducible rfl | omega | exact eA_ix (by omega) | rfl)), (by intro i i0 i1; refine Eq.trans ?_ (if_neg (show ¬ ((a2.toInt = 2 ∧ 0 ≤ a3.toInt ∧ a3.toInt ≤ 99 ∧ 0 ≤ a1.toInt ∧ a1.toInt < (gI g0 1 0).toInt) ∧ i = a1.toInt) from by omega)).symm; refine (eA_ti ((hF431.2.1 4 ma_X10_refused_0_4))).trans ?_; (first | with_reducible rfl | omega | exact eA_ix (by omega) | rfl))⟩, (SU3.mk (by omega))⟩⟩
          · have c428_ : a2.toInt = 2 := en_i_ne_f c428
            exfalso; omega
        · have c427_ : a3.toInt ≤ 9 := en_i_gt_f c427
          refine At.enter rfl ?_
          refine r_iconst 1 rfl ?_
          refine r_goto ?_
          refine At.enter rfl ?_
          refine q_iretz (by decide) ?_
          refine At.enter rfl ?_
          refine q_iretz (by decide) ?_
          refine At.enter rfl ?_
          refine r_ift (by decide) ?_
          refine At.enter rfl ?_
          refine r_iconst 1 rfl ?_
          refine r_goto ?_
          refine At.enter rfl ?_
          refine r_istore ([(4, .int 1), (0, .ref 0), (1, .int a1), (2, .int a2), (3, .int a3)]) rfl ?_
          refine r_iload rfl ?_
          refine r_ift (by decide) ?_
          refine At.enter rfl ?_
          refine r_aload_n rfl ?_
          refine q_getR (Sh.ref hI0.1 kx_0 rfl) ?_
          refine r_iload_n rfl ?_
          refine q_inlV 64 rfl [.ref 1, .int a1] [] (Nat.le_of_ble_eq_true rfl) rfl ?_
          refine Ev.mk rfl rfl ⟨Nat.le_of_ble_eq_true rfl, Or.inr (q_rc hI0.1 kx_1 rfl)⟩ ?_
          show At _ none _ _ (0, [(0, .ref 1), (1, .int a1)], [], (_, _)) _
          refine At.enter rfl ?_
          refine r_iload_n rfl ?_
          refine r_ifs 4 rfl (fun c442 => ?_) (fun c442 => ?_)
          · have c442_ : a1.toInt < 0 := en_k_lt_t c442
            refine At.enter rfl ?_
            refine r_iconst 0 rfl ?_
            refine Ar.fall 17 rfl ?_
            refine At.enter rfl ?_
            refine q_iretz (by decide) ?_
            refine At.enter rfl ?_
            refine r_iff 67 rfl (by decide) ?_
            refine At.enter rfl ?_
            refine r_aload_n rfl ?_
            refine r_bipush (-2) rfl ?_
            refine r_callV 73 rfl [.ref 0, .int (-2)] [] (Nat.le_of_ble_eq_true rfl) rfl (T_X10_refused_0 _ hI0 (-2) (by decide)) ?_
            rintro _ _ ⟨g443, rfl, hI444, hF445, v446, rfl, hr447⟩
            refine At.sti ?_
            have hF448 := Fr.tr hF0 hF445 rfl rfl
            have zv449 : ((-2) : Int32).toInt = (-2) := rfl
            refine At.enter rfl ?_
            refine r_ireti ?_
            obtain ⟨v450, hv450⟩ : ∃ v, gI g0 1 0 = v := ⟨_, rfl⟩
            have rv450 := RgF.at hI0.2.1 (p := 1) (b := 0) rfl
            rw [hv450] at rv450
            dsimp only at rv450
            have tv450 := congrArg Int32.toInt hv450
            obtain ⟨v453, hv453⟩ : ∃ v, gI g443 0 17 = v := ⟨_, rfl⟩
            have tv453 := congrArg Int32.toInt hv453
            exact ⟨_, rfl, hI444, hF448, _, rfl, trivial, ⟨⟨⟨by omega, by omega, by omega, by omega, by omega⟩, (by intro i i0 i1; refine Eq.trans ?_ (if_neg (show ¬ ((a2.toInt = 0 ∧ -1 ≤ a3.toInt ∧ a3.toInt ≤ 11 ∧ 0 ≤ a1.toInt ∧ a1.toInt < (gI g0 1 0).toInt) ∧ i = a1.toInt) from by omega)).symm; refine (eA_ti ((hF445.2.1 2 ma_X10_refused_0_2))).trans ?_; (first | with_reducible rfl | omega | exact eA_ix (by omega) | rfl)), (by intro i i0 i1; refine Eq.trans ?_ (if_neg (show ¬ ((a2.toInt = 1 ∧ 1 ≤ a3.toInt ∧ a3.toInt ≤ 9 ∧ 0 ≤ a1.toInt ∧ a1.toInt < (gI g0 1 0).toInt) ∧ i = a1.toInt) from by omega)).symm; refine (eA_ti ((hF445.2.1 3 ma_X10_refused_0_3))).trans ?_; (first | with_reducible rfl | omega | exact eA_ix (by omega) | rfl)), (by intro i i0 i1; refine Eq.trans ?_ (if_neg (show ¬ ((a2.toInt = 2 ∧ 0 ≤ a3.toInt ∧ a3.toInt ≤ 99 ∧ 0 ≤ a1.toInt ∧ a1.toInt < (gI g0 1 0).toInt) ∧ i = a1.toInt) from by omega)).symm; refine (eA_ti ((hF445.2.1 4 ma_X10_refused_0_4))).trans ?_; (first | with_reducible rfl | omega | exact eA_ix (by omega) | rfl))⟩, (SU3.mk (by omega))⟩⟩
          · have c442_ : a1.toInt ≥ 0 := en_k_lt_f c442
            refine At.enter rfl ?_
            refine r_iload_n rfl ?_
            refine r_aload_n rfl ?_
            obtain ⟨v456, hv456⟩ : ∃ v, gI g0 1 0 = v := ⟨_, rfl⟩
            have rv456 := RgF.at hI0.2.1 (p := 1) (b := 0) rfl
            rw [hv456] at rv456
            dsimp only at rv456
            refine q_getI (Sh.int hI0.1 kx_1 rfl) v456 hv456 ?_
            have bv458 := q_bnd a1
            have bv459 := q_bnd v456
            refine r_ics 12 rfl (fun c457 => ?_) (fun c457 => ?_)
            · have c457_ : a1.toInt ≥ v456.toInt := en_i_ge_t c457
              refine At.enter rfl ?_
              refine r_iconst 0 rfl ?_
              refine Ar.fall 17 rfl ?_
              refine At.enter rfl ?_
              refine q_iretz (by decide) ?_
              refine At.enter rfl ?_
              refine r_iff 67 rfl (by decide) ?_
              refine At.enter rfl ?_
              refine r_aload_n rfl ?_
              refine r_bipush (-2) rfl ?_
              refine r_callV 73 rfl [.ref 0, .int (-2)] [] (Nat.le_of_ble_eq_true rfl) rfl (T_X10_refused_0 _ hI0 (-2) (by decide)) ?_
              rintro _ _ ⟨g460, rfl, hI461, hF462, v463, rfl, hr464⟩
              refine At.sti ?_
              have hF465 := Fr.tr hF0 hF462 rfl rfl
              have zv466 : ((-2) : Int32).toInt = (-2) := rfl
              refine At.enter rfl ?_
              refine r_ireti ?_
              have x467 := HI.eqI hI0 (p := 1) (b := 0) (hv456)
              have x468 := HI.eqI hI0 (p := 1) (b := 0) (hv456)
              obtain ⟨v469, hv469⟩ : ∃ v, gI g460 0 17 = v := ⟨_, rfl⟩
              have tv469 := congrArg Int32.toInt hv469
              have x471 := HI.eqI hI0 (p := 1) (b := 0) (hv456)
              exact ⟨_, rfl, hI461, hF465, _, rfl, trivial, ⟨⟨⟨by omega, by omega, by omega, by omega, by omega⟩, (by intro i i0 i1; refine Eq.trans ?_ (if_neg (show ¬ ((a2.toInt = 0 ∧ -1 ≤ a3.toInt ∧ a3.toInt ≤ 11 ∧ 0 ≤ a1.toInt ∧ a1.toInt < (gI g0 1 0).toInt) ∧ i = a1.toInt) from by omega)).symm; refine (eA_ti ((hF462.2.1 2 ma_X10_refused_0_2))).trans ?_; (first | with_reducible rfl | omega | exact eA_ix (by omega) | rfl)), (by intro i i0 i1; refine Eq.trans ?_ (if_neg (show ¬ ((a2.toInt = 1 ∧ 1 ≤ a3.toInt ∧ a3.toInt ≤ 9 ∧ 0 ≤ a1.toInt ∧ a1.toInt < (gI g0 1 0).toInt) ∧ i = a1.toInt) from by omega)).symm; refine (eA_ti ((hF462.2.1 3 ma_X10_refused_0_3))).trans ?_; (first | with_reducible rfl | omega | exact eA_ix (by omega) | rfl)), (by intro i i0 i1; refine Eq.trans ?_ (if_neg (show ¬ ((a2.toInt = 2 ∧ 0 ≤ a3.toInt ∧ a3.toInt ≤ 99 ∧ 0 ≤ a1.toInt ∧ a1.toInt < (gI g0 1 0).toInt) ∧ i = a1.toInt) from by omega)).symm; refine (eA_ti ((hF462.2.1 4 ma_X10_refused_0_4))).trans ?_; (first | with_reducible rfl | omega | exact eA_ix (by omega) | rfl))⟩, (SU3.mk (by omega))⟩⟩
            · have c457_ : a1.toInt < v456.toInt := en_i_ge_f c457
              refine At.enter rfl ?_
              refine r_iconst 1 rfl ?_
              refine r_goto ?_
              refine At.enter rfl ?_
              refine q_iretz (by decide) ?_
              refine At.enter rfl ?_
              refine r_ift (by decide) ?_
              refine At.enter rfl ?_
              refine r_iload_n rfl ?_
              refine r_ifs 78 rfl (fun c472 => ?_) (fun c472 => ?_)
              · have c472_ : a2.toInt ≠ 0 := en_k_ne_t c472
                refine At.enter rfl ?_
                refine r_iload_n rfl ?_
                refine r_iconst 1 rfl ?_
                refine r_ics 93 rfl (fun c473 => ?_) (fun c473 => ?_)
                · have c473_ : a2.toInt ≠ 1 := en_i_ne_t c473
                  exfalso; omega
                · have c473_ : a2.toInt = 1 := en_i_ne_f c473
                  refine At.enter rfl ?_
                  refine r_aload_n rfl ?_
                  refine q_getR (Sh.ref hI0.1 kx_0 rfl) ?_
                  refine q_getR (Sh.ref hI0.1 kx_1 rfl) ?_
                  refine r_goto ?_
                  refine At.enter rfl ?_
                  refine r_astore ([(5, .ref 3), (4, .int 1), (0, .ref 0), (1, .int a1), (2, .int a2), (3, .int a3)]) rfl ?_
                  refine r_aload rfl ?_
                  refine r_iload_n rfl ?_
                  obtain ⟨v474, hv474⟩ : ∃ v, eA g0 3 a1.toInt = v := ⟨_, rfl⟩
                  refine q_iald (Sh.arr hI0.1 ka_3) a1.toInt rfl (by omega) v474 hv474 ?_
                  refine r_istore ([(6, .int v474), (5, .ref 3), (4, .int 1), (0, .ref 0), (1, .int a1), (2, .int a2), (3, .int a3)]) rfl ?_
                  refine r_aload rfl ?_
                  refine r_iload_n rfl ?_
                  refine r_iload_n rfl ?_
                  refine q_iast (Sh.arr hI0.1 ka_3) (a1.toInt) rfl (by omega) ?_
                  have hI475 := HI.wA0 hI0 ka_3 (p := 3) rfl rfl (a1.toInt) (a3)
                  have hF476 := Fr.wA (p := 3) (j := a1.toInt) (v := a3) hF0 rfl
                  refine r_aload_n rfl ?_
                  refine r_callV 127 rfl [.ref 0] [] (Nat.le_of_ble_eq_true rfl) rfl (T_X10_changed_0 _ hI475) ?_
                  rintro _ _ ⟨g477, rfl, hI478, hF479, rfl⟩
                  refine At.stn ?_
                  have hF482 := Fr.tr hF476 hF479 rfl rfl
                  refine At.enter rfl ?_
                  refine r_aload_n rfl ?_
                  refine r_iload rfl ?_
                  refine q_inlV 133 rfl [.ref 0, .int v474] [] (Nat.le_of_ble_eq_true rfl) rfl ?_
                  refine Ev.mk rfl rfl ⟨Nat.le_of_ble_eq_true rfl, Or.inr (q_rc hI478.1 kx_0 rfl)⟩ ?_
                  show At _ none _ _ (0, [(0, .ref 0), (1, .int v474)], [], (_, _)) _
                  refine At.enter rfl ?_
                  refine r_aload_n rfl ?_
                  refine r_iconst 0 rfl ?_
                  refine q_putI (Sh.int hI478.1 kx_0 rfl) rfl ?_
                  have hI483 := HI.wI0 hI478 kx_0 rfl (p := 0) (b := 17) (v := 0) rfl
                  have hF484 := Fr.wI (p := 0) (b := 17) (v := 0) hF482 rfl
                  refine r_iload_n rfl ?_
                  refine q_ireti ?_
                  refine At.enter rfl ?_
                  refine r_ireti ?_
                  have x485 := HI.eqI hI0 (p := 1) (b := 0) (hv456)
                  have y486 := congrArg Int32.toInt hv474
                  have x487 := HI.eqI hI0 (p := 1) (b := 0) (hv456)
                  have x488 := HI.eqI hI483 (p := 0) (b := 17) ((gI_sI_eq hI478.1 kx_0 rfl _))
                  have zv489 : (0 : Int32).toInt = 0 := rfl
                  have x490 := HI.eqI hI0 (p := 1) (b := 0) (hv456)
                  exact ⟨_, rfl, hI483, hF484, _, rfl, trivial, ⟨⟨⟨by omega, by omega, by omega, by omega, by omega⟩, (by intro i i0 i1; refine Eq.trans ?_ (if_neg (show ¬ ((a2.toInt = 0 ∧ -1 ≤ a3.toInt ∧ a3.toInt ≤ 11 ∧ 0 ≤ a1.toInt ∧ a1.toInt < (gI g0 1 0).toInt) ∧ i = a1.toInt) from by omega)).symm; refine (eA_ti (((gA_sI).trans ((hF479.2.1 2 ma_X10_changed_0_2).trans (gA_sA_ne (by decide)))))).trans ?_; (first | with_reducible rfl | omega | exact eA_ix (by omega) | rfl)), (by intro i i0 i1; exact (Decidable.em ((a2.toInt = 1 ∧ 1 ≤ a3.toInt ∧ a3.toInt ≤ 9 ∧ 0 ≤ a1.toInt ∧ a1.toInt < (gI g0 1 0).toInt) ∧ i = a1.toInt)).elim (fun k75_ => by refine Eq.trans ?_ (if_pos k75_).symm; refine (eA_ti (((gA_sI).trans (hF479.2.1 3 ma_X10_changed_0_3)))).trans ?_; exact (Decidable.em (i = a1.toInt)).elim (fun k76_ => by refine (eA_eqT hI0.1 ka_3 k76_ (by first | decide | omega) (by first | decide | omega)).trans ?_; (first | (with_reducible rfl) | (omega) | (rfl))) (fun k76_ => by refine (eA_neT hI0.1 ka_3 k76_ (by first | decide | omega) (by omega)).trans ?_; (first | with_reducible rfl | omega | exact eA_ix (by omega) | rfl))) (fun k75_ => by refine Eq.trans ?_ (if_neg k75_).symm; refine (eA_ti (((gA_sI).trans (hF479.2.1 3 ma_X10_changed_0_3)))).trans ?_; exact (Decidable.em (i = a1.toInt)).elim (fun k77_ => by refine (eA_eqT hI0.1 ka_3 k77_ (by first | decide | omega) (by first | decide | omega)).trans ?_; (first | (with_reducible rfl) | (omega) | (rfl))) (fun k77_ => by refine (eA_neT hI0.1 ka_3 k77_ (by first | decide | omega) (by omega)).trans ?_; (first | with_reducible rfl | omega | exact eA_ix (by omega) | rfl)))), (by intro i i0 i1; refine Eq.trans ?_ (if_neg (show ¬ ((a2.toInt = 2 ∧ 0 ≤ a3.toInt ∧ a3.toInt ≤ 99 ∧ 0 ≤ a1.toInt ∧ a1.toInt < (gI g0 1 0).toInt) ∧ i = a1.toInt) from by omega)).symm; refine (eA_ti (((gA_sI).trans ((hF479.2.1 4 ma_X10_changed_0_4).trans (gA_sA_ne (by decide)))))).trans ?_; (first | with_reducible rfl | omega | exact eA_ix (by omega) | rfl))⟩, (SU3.mk (by omega))⟩⟩
              · have c472_ : a2.toInt = 0 := en_k_ne_f c472
                exfalso; omega
  · have c319_ : a2.toInt = 0 := en_k_ne_f c319
    refine At.enter rfl ?_
    refine r_iload_n rfl ?_
    refine r_iconst (-1) rfl ?_
    refine r_bipush 11 rfl ?_
    refine q_inlS 11 rfl [.int a3, .int (-1), .int 11] [] (Nat.le_of_ble_eq_true rfl) rfl ?_
    refine Ev.mk rfl rfl ⟨Nat.le_of_ble_eq_true rfl, Or.inl rfl⟩ ?_
    show At _ none _ _ (0, [(0, .int a3), (1, .int (-1)), (2, .int 11)], [], (_, _)) _
    refine At.enter rfl ?_
    refine r_iload_n rfl ?_
    refine r_iload_n rfl ?_
    refine r_ics 5 rfl (fun c491 => ?_) (fun c491 => ?_)
    · have c491_ : a3.toInt < (-1) := en_i_lt_t c491
      refine At.enter rfl ?_
      refine r_iconst 0 rfl ?_
      refine Ar.fall 15 rfl ?_
      refine At.enter rfl ?_
      refine q_iretz (by decide) ?_
      refine At.enter rfl ?_
      refine r_iff 14 rfl (by decide) ?_
      refine At.enter rfl ?_
      refine r_iload_n rfl ?_
      refine r_iconst 1 rfl ?_
      refine r_ics 19 rfl (fun c492 => ?_) (fun c492 => ?_)
      · have c492_ : a2.toInt ≠ 1 := en_i_ne_t c492
        refine At.enter rfl ?_
        refine r_iload_n rfl ?_
        refine r_iconst 2 rfl ?_
        refine r_ics 31 rfl (fun c493 => ?_) (fun c493 => ?_)
        · have c493_ : a2.toInt ≠ 2 := en_i_ne_t c493
          refine At.enter rfl ?_
          refine r_iconst 0 rfl ?_
          refine Ar.fall 43 rfl ?_
          refine At.enter rfl ?_
          refine r_istore ([(4, .int 0), (0, .ref 0), (1, .int a1), (2, .int a2), (3, .int a3)]) rfl ?_
          refine r_iload rfl ?_
          refine r_iff 50 rfl (by decide) ?_
          refine At.enter rfl ?_
          refine r_aload_n rfl ?_
          refine r_iconst (-1) rfl ?_
          refine r_callV 55 rfl [.ref 0, .int (-1)] [] (Nat.le_of_ble_eq_true rfl) rfl (T_X10_refused_0 _ hI0 (-1) (by decide)) ?_
          rintro _ _ ⟨g494, rfl, hI495, hF496, v497, rfl, hr498⟩
          refine At.sti ?_
          have hF499 := Fr.tr hF0 hF496 rfl rfl
          have zv500 : ((-1) : Int32).toInt = (-1) := rfl
          refine At.enter rfl ?_
          refine r_ireti ?_
          obtain ⟨v501, hv501⟩ : ∃ v, gI g0 1 0 = v := ⟨_, rfl⟩
          have rv501 := RgF.at hI0.2.1 (p := 1) (b := 0) rfl
          rw [hv501] at rv501
          dsimp only at rv501
          have tv501 := congrArg Int32.toInt hv501
          obtain ⟨v504, hv504⟩ : ∃ v, gI g494 0 17 = v := ⟨_, rfl⟩
          have tv504 := congrArg Int32.toInt hv504
          exact ⟨_, rfl, hI495, hF499, _, rfl, trivial, ⟨⟨⟨by omega, by omega, by omega, by omega, by omega⟩, (by intro i i0 i1; refine Eq.trans ?_ (if_neg (show ¬ ((a2.toInt = 0 ∧ -1 ≤ a3.toInt ∧ a3.toInt ≤ 11 ∧ 0 ≤ a1.toInt ∧ a1.toInt < (gI g0 1 0).toInt) ∧ i = a1.toInt) from by omega)).symm; refine (eA_ti ((hF496.2.1 2 ma_X10_refused_0_2))).trans ?_; (first | with_reducible rfl | omega | exact eA_ix (by omega) | rfl)), (by intro i i0 i1; refine Eq.trans ?_ (if_neg (show ¬ ((a2.toInt = 1 ∧ 1 ≤ a3.toInt ∧ a3.toInt ≤ 9 ∧ 0 ≤ a1.toInt ∧ a1.toInt < (gI g0 1 0).toInt) ∧ i = a1.toInt) from by omega)).symm; refine (eA_ti ((hF496.2.1 3 ma_X10_refused_0_3))).trans ?_; (first | with_reducible rfl | omega | exact eA_ix (by omega) | rfl)), (by intro i i0 i1; refine Eq.trans ?_ (if_neg (show ¬ ((a2.toInt = 2 ∧ 0 ≤ a3.toInt ∧ a3.toInt ≤ 99 ∧ 0 ≤ a1.toInt ∧ a1.toInt < (gI g0 1 0).toInt) ∧ i = a1.toInt) from by omega)).symm; refine (eA_ti ((hF496.2.1 4 ma_X10_refused_0_4))).trans ?_; (first | with_reducible rfl | omega | exact eA_ix (by omega) | rfl))⟩, (SU3.mk (by omega))⟩⟩
        · have c493_ : a2.toInt = 2 := en_i_ne_f c493
          exfalso; omega
      · have c492_ : a2.toInt = 1 := en_i_ne_f c492
        exfalso; omega
    · have c491_ : a3.toInt ≥ (-1) := en_i_lt_f c491
      refine At.enter rfl ?_
      refine r_iload_n rfl ?_
      refine r_iload_n rfl ?_
      refine r_ics 10 rfl (fun c507 => ?_) (fun c507 => ?_)
      · have c507_ : a3.toInt > 11 := en_i_gt_t c507
        refine At.enter rfl ?_
        refine r_iconst 0 rfl ?_
        refine Ar.fall 15 rfl ?_
        refine At.enter rfl ?_
        refine q_iretz (by decide) ?_
        refine At.enter rfl ?_
        refine r_iff 14 rfl (by decide) ?_
        refine At.enter rfl ?_
        refine r_iload_n rfl ?_
        refine r_iconst 1 rfl ?_
        refine r_ics 19 rfl (fun c508 => ?_) (fun c508 => ?_)
        · have c508_ : a2.toInt ≠ 1 := en_i_ne_t c508
          refine At.enter rfl ?_
          refine r_iload_n rfl ?_
          refine r_iconst 2 rfl ?_
          refine r_ics 31 rfl (fun c509 => ?_) (fun c509 => ?_)
          · have c509_ : a2.toInt ≠ 2 := en_i_ne_t c509
            refine At.enter rfl ?_
            refine r_iconst 0 rfl ?_
            refine Ar.fall 43 rfl ?_
            refine At.enter rfl ?_
            refine r_istore ([(4, .int 0), (0, .ref 0), (1, .int a1), (2, .int a2), (3, .int a3)]) rfl ?_
            refine r_iload rfl ?_
            refine r_iff 50 rfl (by decide) ?_
            refine At.enter rfl ?_
            refine r_aload_n rfl ?_
            refine r_iconst (-1) rfl ?_
            refine r_callV 55 rfl [.ref 0, .int (-1)] [] (Nat.le_of_ble_eq_true rfl) rfl (T_X10_refused_0 _ hI0 (-1) (by decide)) ?_
            rintro _ _ ⟨g510, rfl, hI511, hF512, v513, rfl, hr514⟩
            refine At.sti ?_
            have hF515 := Fr.tr hF0 hF512 rfl rfl
            have zv516 : ((-1) : Int32).toInt = (-1) := rfl
            refine At.enter rfl ?_
            refine r_ireti ?_
            obtain ⟨v517, hv517⟩ : ∃ v, gI g0 1 0 = v := ⟨_, rfl⟩
            have rv517 := RgF.at hI0.2.1 (p := 1) (b := 0) rfl
            rw [hv517] at rv517
            dsimp only at rv517
            have tv517 := congrArg Int32.toInt hv517
            obtain ⟨v520, hv520⟩ : ∃ v, gI g510 0 17 = v := ⟨_, rfl⟩
            have tv520 := congrArg Int32.toInt hv520
            exact ⟨_, rfl, hI511, hF515, _, rfl, trivial, ⟨⟨⟨by omega, by omega, by omega, by omega, by omega⟩, (by intro i i0 i1; refine Eq.trans ?_ (if_neg (show ¬ ((a2.toInt = 0 ∧ -1 ≤ a3.toInt ∧ a3.toInt ≤ 11 ∧ 0 ≤ a1.toInt ∧ a1.toInt < (gI g0 1 0).toInt) ∧ i = a1.toInt) from by omega)).symm; refine (eA_ti ((hF512.2.1 2 ma_X10_refused_0_2))).trans ?_; (first | with_reducible rfl | omega | exact eA_ix (by omega) | rfl)), (by intro i i0 i1; refine Eq.trans ?_ (if_neg (show ¬ ((a2.toInt = 1 ∧ 1 ≤ a3.toInt ∧ a3.toInt ≤ 9 ∧ 0 ≤ a1.toInt ∧ a1.toInt < (gI g0 1 0).toInt) ∧ i = a1.toInt) from by omega)).symm; refine (eA_ti ((hF512.2.1 3 ma_X10_refused_0_3))).trans ?_; (first | with_reducible rfl | omega | exact eA_ix (by omega) | rfl)), (by intro i i0 i1; refine Eq.trans ?_ (if_neg (show ¬ ((a2.toInt = 2 ∧ 0 ≤ a3.toInt ∧ a3.toInt ≤ 99 ∧ 0 ≤ a1.toInt ∧ a1.toInt < (gI g0 1 0).toInt) ∧ i = a1.toInt) from by omega)).symm; refine (eA_ti ((hF512.2.1 4 ma_X10_refused_0_4))).trans ?_; (first | with_reducible rfl | omega | exact eA_ix (by omega) | rfl))⟩, (SU3.mk (by omega))⟩⟩
          · have c509_ : a2.toInt = 2 := en_i_ne_f c509
            exfalso; omega
        · have c508_ : a2.toInt = 1 := en_i_ne_f c508
          exfalso; omega
      · have c507_ : a3.toInt ≤ 11 := en_i_gt_f c507
        refine At.enter rfl ?_
        refine r_iconst 1 rfl ?_
        refine r_goto ?_
        refine At.enter rfl ?_
        refine q_iretz (by decide) ?_
        refine At.enter rfl ?_
        refine r_ift (by decide) ?_
        refine At.enter rfl ?_
        refine r_iconst 1 rfl ?_
        refine r_goto ?_
        refine At.enter rfl ?_
        refine r_istore ([(4, .int 1), (0, .ref 0), (1, .int a1), (2, .int a2), (3, .int a3)]) rfl ?_
        refine r_iload rfl ?_
        refine r_ift (by decide) ?_
        refine At.enter rfl ?_
        refine r_aload_n rfl ?_
        refine q_getR (Sh.ref hI0.1 kx_0 rfl) ?_
        refine r_iload_n rfl ?_
        refine q_inlV 64 rfl [.ref 1, .int a1] [] (Nat.le_of_ble_eq_true rfl) rfl ?_
        refine Ev.mk rfl rfl ⟨Nat.le_of_ble_eq_true rfl, Or.inr (q_rc hI0.1 kx_1 rfl)⟩ ?_
        show At _ none _ _ (0, [(0, .ref 1), (1, .int a1)], [], (_, _)) _
        refine At.enter rfl ?_
        refine r_iload_n rfl ?_
        refine r_ifs 4 rfl (fun c523 => ?_) (fun c523 => ?_)
        · have c523_ : a1.toInt < 0 := en_k_lt_t c523
          refine At.enter rfl ?_
          refine r_iconst 0 rfl ?_
          refine Ar.fall 17 rfl ?_
          refine At.enter rfl ?_
          refine q_iretz (by decide) ?_
          refine At.enter rfl ?_
          refine r_iff 67 rfl (by decide) ?_
          refine At.enter rfl ?_
          refine r_aload_n rfl ?_
          refine r_bipush (-2) rfl ?_
          refine r_callV 73 rfl [.ref 0, .int (-2)] [] (Nat.le_of_ble_eq_true rfl) rfl (T_X10_refused_0 _ hI0 (-2) (by decide)) ?_
          rintro _ _ ⟨g524, rfl, hI525, hF526, v527, rfl, hr528⟩
          refine At.sti ?_
          have hF529 := Fr.tr hF0 hF526 rfl rfl
          have zv530 : ((-2) : Int32).toInt = (-2) := rfl
          refine At.enter rfl ?_
          refine r_ireti ?_
          obtain ⟨v531, hv531⟩ : ∃ v, gI g0 1 0 = v := ⟨_, rfl⟩
          have rv531 := RgF.at hI0.2.1 (p := 1) (b := 0) rfl
          rw [hv531] at rv531
          dsimp only at rv531
          have tv531 := congrArg Int32.toInt hv531
          obtain ⟨v534, hv534⟩ : ∃ v, gI g524 0 17 = v := ⟨_, rfl⟩
          have tv534 := congrArg Int32.toInt hv534
          exact ⟨_, rfl, hI525, hF529, _, rfl, trivial, ⟨⟨⟨by omega, by omega, by omega, by omega, by omega⟩, (by intro i i0 i1; refine Eq.trans ?_ (if_neg (show ¬ ((a2.toInt = 0 ∧ -1 ≤ a3.toInt ∧ a3.toInt ≤ 11 ∧ 0 ≤ a1.toInt ∧ a1.toInt < (gI g0 1 0).toInt) ∧ i = a1.toInt) from by omega)).symm; refine (eA_ti ((hF526.2.1 2 ma_X10_refused_0_2))).trans ?_; (first | with_reducible rfl | omega | exact eA_ix (by omega) | rfl)), (by intro i i0 i1; refine Eq.trans ?_ (if_neg (show ¬ ((a2.toInt = 1 ∧ 1 ≤ a3.toInt ∧ a3.toInt ≤ 9 ∧ 0 ≤ a1.toInt ∧ a1.toInt < (gI g0 1 0).toInt) ∧ i = a1.toInt) from by omega)).symm; refine (eA_ti ((hF526.2.1 3 ma_X10_refused_0_3))).trans ?_; (first | with_reducible rfl | omega | exact eA_ix (by omega) | rfl)), (by intro i i0 i1; refine Eq.trans ?_ (if_neg (show ¬ ((a2.toInt = 2 ∧ 0 ≤ a3.toInt ∧ a3.toInt ≤ 99 ∧ 0 ≤ a1.toInt ∧ a1.toInt < (gI g0 1 0).toInt) ∧ i = a1.toInt) from by omega)).symm; refine (eA_ti ((hF526.2.1 4 ma_X10_refused_0_4))).trans ?_; (first | with_reducible rfl | omega | exact eA_ix (by omega) | rfl))⟩, (SU3.mk (by omega))⟩⟩
        · have c523_ : a1.toInt ≥ 0 := en_k_lt_f c523
          refine At.enter rfl ?_
          refine r_iload_n rfl ?_
          refine r_aload_n rfl ?_
          obtain ⟨v537, hv537⟩ : ∃ v, gI g0 1 0 = v := ⟨_, rfl⟩
          have rv537 := RgF.at hI0.2.1 (p := 1) (b := 0) rfl
          rw [hv537] at rv537
          dsimp only at rv537
          refine q_getI (Sh.int hI0.1 kx_1 rfl) v537 hv537 ?_
          have bv539 := q_bnd a1
          have bv540 := q_bnd v537
          refine r_ics 12 rfl (fun c538 => ?_) (fun c538 => ?_)
          · have c538_ : a1.toInt ≥ v537.toInt := en_i_ge_t c538
            refine At.enter rfl ?_
            refine r_iconst 0 rfl ?_
            refine Ar.fall 17 rfl ?_
            refine At.enter rfl ?_
            refine q_iretz (by decide) ?_
            refine At.enter rfl ?_
            refine r_iff 67 rfl (by decide) ?_
            refine At.enter rfl ?_
            refine r_aload_n rfl ?_
            refine r_bipush (-2) rfl ?_
            refine r_callV 73 rfl [.ref 0, .int (-2)] [] (Nat.le_of_ble_eq_true rfl) rfl (T_X10_refused_0 _ hI0 (-2) (by decide)) ?_
            rintro _ _ ⟨g541, rfl, hI542, hF543, v544, rfl, hr545⟩
            refine At.sti ?_
            have hF546 := Fr.tr hF0 hF543 rfl rfl
            have zv547 : ((-2) : Int32).toInt = (-2) := rfl
            refine At.enter rfl ?_
            refine r_ireti ?_
            have x548 := HI.eqI hI0 (p := 1) (b := 0) (hv537)
            have x549 := HI.eqI hI0 (p := 1) (b := 0) (hv537)
            obtain ⟨v550, hv550⟩ : ∃ v, gI g541 0 17 = v := ⟨_, rfl⟩
            have tv550 := congrArg Int32.toInt hv550
            have x552 := HI.eqI hI0 (p := 1) (b := 0) (hv537)
            exact ⟨_, rfl, hI542, hF546, _, rfl, trivial, ⟨⟨⟨by omega, by omega, by omega, by omega, by omega⟩, (by intro i i0 i1; refine Eq.trans ?_ (if_neg (show ¬ ((a2.toInt = 0 ∧ -1 ≤ a3.toInt ∧ a3.toInt ≤ 11 ∧ 0 ≤ a1.toInt ∧ a1.toInt < (gI g0 1 0).toInt) ∧ i = a1.toInt) from by omega)).symm; refine (eA_ti ((hF543.2.1 2 ma_X10_refused_0_2))).trans ?_; (first | with_reducible rfl | omega | exact eA_ix (by omega) | rfl)), (by intro i i0 i1; refine Eq.trans ?_ (if_neg (show ¬ ((a2.toInt = 1 ∧ 1 ≤ a3.toInt ∧ a3.toInt ≤ 9 ∧ 0 ≤ a1.toInt ∧ a1.toInt < (gI g0 1 0).toInt) ∧ i = a1.toInt) from by omega)).symm; refine (eA_ti ((hF543.2.1 3 ma_X10_refused_0_3))).trans ?_; (first | with_reducible rfl | omega | exact eA_ix (by omega) | rfl)), (by intro i i0 i1; refine Eq.trans ?_ (if_neg (show ¬ ((a2.toInt = 2 ∧ 0 ≤ a3.toInt ∧ a3.toInt ≤ 99 ∧ 0 ≤ a1.toInt ∧ a1.toInt < (gI g0 1 0).toInt) ∧ i = a1.toInt) from by omega)).symm; refine (eA_ti ((hF543.2.1 4 ma_X10_refused_0_4))).trans ?_; (first | with_reducible rfl | omega | exact eA_ix (by omega) | rfl))⟩, (SU3.mk (by omega))⟩⟩
          · have c538_ : a1.toInt < v537.toInt := en_i_ge_f c538
            refine At.enter rfl ?_
            refine r_iconst 1 rfl ?_
            refine r_goto ?_
            refine At.enter rfl ?_
            refine q_iretz (by decide) ?_
            refine At.enter rfl ?_
            refine r_ift (by decide) ?_
            refine At.enter rfl ?_
            refine r_iload_n rfl ?_
            refine r_ifs 78 rfl (fun c553 => ?_) (fun c553 => ?_)
            · have c553_ : a2.toInt ≠ 0 := en_k_ne_t c553
              exfalso; omega
            · have c553_ : a2.toInt = 0 := en_k_ne_f c553
              refine At.enter rfl ?_
              refine r_aload_n rfl ?_
              refine q_getR (Sh.ref hI0.1 kx_0 rfl) ?_
              refine q_getR (Sh.ref hI0.1 kx_1 rfl) ?_
              refine r_goto ?_
              refine At.enter rfl ?_
              refine r_astore ([(5, .ref 2), (4, .int 1), (0, .ref 0), (1, .int a1), (2, .int a2), (3, .int a3)]) rfl ?_
              refine r_aload rfl ?_
              refine r_iload_n rfl ?_
              obtain ⟨v554, hv554⟩ : ∃ v, eA g0 2 a1.toInt = v := ⟨_, rfl⟩
              refine q_iald (Sh.arr hI0.1 ka_2) a1.toInt rfl (by omega) v554 hv554 ?_
              refine r_istore ([(6, .int v554), (5, .ref 2), (4, .int 1), (0, .ref 0), (1, .int a1), (2, .int a2), (3, .int a3)]) rfl ?_
              refine r_aload rfl ?_
              refine r_iload_n rfl ?_
              refine r_iload_n rfl ?_
              refine q_iast (Sh.arr hI0.1 ka_2) (a1.toInt) rfl (by omega) ?_
              have hI555 := HI.wA0 hI0 ka_2 (p := 2) rfl rfl (a1.toInt) (a3)
              have hF556 := Fr.wA (p := 2) (j := a1.toInt) (v := a3) hF0 rfl
              refine r_aload_n rfl ?_
              refine r_callV 127 rfl [.ref 0] [] (Nat.le_of_ble_eq_true rfl) rfl (T_X10_changed_0 _ hI555) ?_
              rintro _ _ ⟨g557, rfl, hI558, hF559, rfl⟩
              refine At.stn ?_
              have hF562 := Fr.tr hF556 hF559 rfl rfl
              refine At.enter rfl ?_
              refine r_aload_n rfl ?_
              refine r_iload rfl ?_
              refine q_inlV 133 rfl [.ref 0, .int v554] [] (Nat.le_of_ble_eq_true rfl) rfl ?_
              refine Ev.mk rfl rfl ⟨Nat.le_of_ble_eq_true rfl, Or.inr (q_rc hI558.1 kx_0 rfl)⟩ ?_
              show At _ none _ _ (0, [(0, .ref 0), (1, .int v554)], [], (_, _)) _
              refine At.enter rfl ?_
              refine r_aload_n rfl ?_
              refine r_iconst 0 rfl ?_
              refine q_putI (Sh.int hI558.1 kx_0 rfl) rfl ?_
              have hI563 := HI.wI0 hI558 kx_0 rfl (p := 0) (b := 17) (v := 0) rfl
              have hF564 := Fr.wI (p := 0) (b := 17) (v := 0) hF562 rfl
              refine r_iload_n rfl ?_
              refine q_ireti ?_
              refine At.enter rfl ?_
              refine r_ireti ?_
              have x565 := HI.eqI hI0 (p := 1) (b := 0) (hv537)
              have y566 := congrArg Int32.toInt hv554
              have x567 := HI.eqI hI0 (p := 1) (b := 0) (hv537)
              have x568 := HI.eqI hI563 (p := 0) (b := 17) ((gI_sI_eq hI558.1 kx_0 rfl _))
              have zv569 : (0 : Int32).toInt = 0 := rfl
              have x570 := HI.eqI hI0 (p := 1) (b := 0) (hv537)
              exact ⟨_, rfl, hI563, hF564, _, rfl, trivial, ⟨⟨⟨by omega, by omega, by omega, by omega, by omega⟩, (by intro i i0 i1; exact (Decidable.em ((a2.toInt = 0 ∧ -1 ≤ a3.toInt ∧ a3.toInt ≤ 11 ∧ 0 ≤ a1.toInt ∧ a1.toInt < (gI g0 1 0).toInt) ∧ i = a1.toInt)).elim (fun k78_ => by refine Eq.trans ?_ (if_pos k78_).symm; refine (eA_ti (((gA_sI).trans (hF559.2.1 2 ma_X10_changed_0_2)))).trans ?_; exact (Decidable.em (i = a1.toInt)).elim (fun k79_ => by refine (eA_eqT hI0.1 ka_2 k79_ (by first | decide | omega) (by first | decide | omega)).trans ?_; (first | (with_reducible rfl) | (omega) | (rfl))) (fun k79_ => by refine (eA_neT hI0.1 ka_2 k79_ (by first | decide | omega) (by omega)).trans ?_; (first | with_reducible rfl | omega | exact eA_ix (by omega) | rfl))) (fun k78_ => by refine Eq.trans ?_ (if_neg k78_).symm; refine (eA_ti (((gA_sI).trans (hF559.2.1 2 ma_X10_changed_0_2)))).trans ?_; exact (Decidable.em (i = a1.toInt)).elim (fun k80_ => by refine (eA_eqT hI0.1 ka_2 k80_ (by first | decide | omega) (by first | decide | omega)).trans ?_; (first | (with_reducible rfl) | (omega) | (rfl))) (fun k80_ => by refine (eA_neT hI0.1 ka_2 k80_ (by first | decide | omega) (by omega)).trans ?_; (first | with_reducible rfl | omega | exact eA_ix (by omega) | rfl)))), (by intro i i0 i1; refine Eq.trans ?_ (if_neg (show ¬ ((a2.toInt = 1 ∧ 1 ≤ a3.toInt ∧ a3.toInt ≤ 9 ∧ 0 ≤ a1.toInt ∧ a1.toInt < (gI g0 1 0).toInt) ∧ i = a1.toInt) from by omega)).symm; refine (eA_ti (((gA_sI).trans ((hF559.2.1 3 ma_X10_changed_0_3).trans (gA_sA_ne (by decide)))))).trans ?_; (first | with_reducible rfl | omega | exact eA_ix (by omega) | rfl)), (by intro i i0 i1; refine Eq.trans ?_ (if_neg (show ¬ ((a2.toInt = 2 ∧ 0 ≤ a3.toInt ∧ a3.toInt ≤ 99 ∧ 0 ≤ a1.toInt ∧ a1.toInt < (gI g0 1 0).toInt) ∧ i = a1.toInt) from by omega)).symm; refine (eA_ti (((gA_sI).trans ((hF559.2.1 4 ma_X10_changed_0_4).trans (gA_sA_ne (by decide)))))).trans ?_; (first | with_reducible rfl | omega | exact eA_ix (by omega) | rfl))⟩, (SU3.mk (by omega))⟩⟩
