def F_X11_swap_231 : List (Nat × Nat) := [(231, 0), (231, 1)]
def A_X11_swap_231 : List Nat := [232, 233]
set_option maxRecDepth 100000 in
set_option maxHeartbeats 4000000 in
theorem T_X11_swap_231 (d : Nat) {N : Nat} {g0 : List en_E} (hI0 : HI g0) (a1 : Int32) (a2 : Int32) : Ev (d + 3) 240 [.ref 231, .int a1, .int a2] (g0, N) (fun w h' => ∃ g', h' = (g', N) ∧ HI g' ∧ Fr F_X11_swap_231 A_X11_swap_231 g0 g' ∧ ∃ r : Int32, w = some (.int r) ∧ ((-3) ≤ r.toInt ∧ r.toInt ≤ 0) ∧ ((((¬ (0 ≤ a1.toInt ∧ a1.toInt < (eA g0 233 0).toInt ∧ 0 ≤ a2.toInt ∧ a2.toInt < (eA g0 233 0).toInt) → r.toInt = -2) ∧ ((0 ≤ a1.toInt ∧ a1.toInt < (eA g0 233 0).toInt ∧ 0 ≤ a2.toInt ∧ a2.toInt < (eA g0 233 0).toInt) ∧ a1.toInt = a2.toInt → r.toInt = -3) ∧ ((0 ≤ a1.toInt ∧ a1.toInt < (eA g0 233 0).toInt ∧ 0 ≤ a2.toInt ∧ a2.toInt < (eA g0 233 0).toInt) ∧ a1.toInt ≠ a2.toInt → r.toInt = 0)) ∧ (eA g' 233 0).toInt = (eA g0 233 0).toInt ∧ (eA g' 233 4).toInt = (eA g0 233 4).toInt ∧ (eA g' 233 5).toInt = (eA g0 233 5).toInt ∧ (eA g' 233 6).toInt = (eA g0 233 6).toInt) ∧ (∀ i : Int, 10 ≤ i → i < 110 → (eA g' 233 (i)).toInt = if (0 ≤ a1.toInt ∧ a1.toInt < (eA g0 233 0).toInt ∧ 0 ≤ a2.toInt ∧ a2.toInt < (eA g0 233 0).toInt ∧ a1.toInt ≠ a2.toInt) ∧ i = 10 + 3 * a1.toInt + 1 then (eA g0 233 (10 + 3 * a2.toInt + 1)).toInt else if (0 ≤ a1.toInt ∧ a1.toInt < (eA g0 233 0).toInt ∧ 0 ≤ a2.toInt ∧ a2.toInt < (eA g0 233 0).toInt ∧ a1.toInt ≠ a2.toInt) ∧ i = 10 + 3 * a1.toInt + 2 then (eA g0 233 (10 + 3 * a2.toInt + 2)).toInt else if (0 ≤ a1.toInt ∧ a1.toInt < (eA g0 233 0).toInt ∧ 0 ≤ a2.toInt ∧ a2.toInt < (eA g0 233 0).toInt ∧ a1.toInt ≠ a2.toInt) ∧ i = 10 + 3 * a2.toInt + 1 then (eA g0 233 (10 + 3 * a1.toInt + 1)).toInt else if (0 ≤ a1.toInt ∧ a1.toInt < (eA g0 233 0).toInt ∧ 0 ≤ a2.toInt ∧ a2.toInt < (eA g0 233 0).toInt ∧ a1.toInt ≠ a2.toInt) ∧ i = 10 + 3 * a2.toInt + 2 then (eA g0 233 (10 + 3 * a1.toInt + 2)).toInt else (eA g0 233 (i)).toInt))) := by
  have hF0 : Fr F_X11_swap_231 A_X11_swap_231 g0 g0 := Fr.rf
  refine Ev.mk rfl rfl ⟨Nat.le_of_ble_eq_true rfl, Or.inr (q_rc hI0.1 kx_231 rfl)⟩ ?_
  show At _ none _ _ (0, [(0, .ref 231), (1, .int a1), (2, .int a2)], [], (_, _)) _
  refine At.enter rfl ?_
  refine r_aload_n rfl ?_
  refine r_iconst 0 rfl ?_
  refine q_putI (Sh.int hI0.1 kx_231 rfl) rfl ?_
  have hI351 := HI.wI0 hI0 kx_231 rfl (p := 231) (b := 0) (v := 0) rfl
  have hF352 := Fr.wI (p := 231) (b := 0) (v := 0) hF0 rfl
  refine r_aload_n rfl ?_
  refine r_iload_n rfl ?_
  refine q_inlV 10 rfl [.ref 231, .int a1] [] (Nat.le_of_ble_eq_true rfl) rfl ?_
  refine Ev.mk rfl rfl ⟨Nat.le_of_ble_eq_true rfl, Or.inr (q_rc hI351.1 kx_231 rfl)⟩ ?_
  show At _ none _ _ (0, [(0, .ref 231), (1, .int a1)], [], (_, _)) _
  refine At.enter rfl ?_
  refine r_iload_n rfl ?_
  refine q_i2l (fun v353 hv353 => ?_)
  refine r_lconst 0 rfl ?_
  refine r_aload_n rfl ?_
  refine q_getR (Sh.ref hI351.1 kx_231 rfl) ?_
  refine r_iconst 0 rfl ?_
  obtain ⟨v354, hv354⟩ : ∃ v, eA g0 233 0 = v := ⟨_, rfl⟩
  have tv354 := congrArg Int32.toInt hv354
  have wv354 := HI.t0 hI0
  rw [hv354] at wv354
  refine q_iald (Sh.arr hI351.1 ka_233) 0 rfl (by decide) v354 ((eA_c (gA_sI)).trans hv354) ?_
  refine q_i2l (fun v355 hv355 => ?_)
  refine r_lconst 1 rfl ?_
  refine q_lsub (v355.toInt - 1) rfl (by omega) (fun v356 hv356 => ?_)
  refine q_inlS 15 rfl [.long v353, .long 0, .long v356] [] (Nat.le_of_ble_eq_true rfl) rfl ?_
  refine Ev.mk rfl rfl ⟨Nat.le_of_ble_eq_true rfl, Or.inl rfl⟩ ?_
  show At _ none _ _ (0, [(0, .long v353), (2, .long 0), (4, .long v356)], [], (_, _)) _
  refine At.enter rfl ?_
  refine r_lload_n rfl ?_
  refine r_lload_n rfl ?_
  refine r_lcmp _ rfl ?_
  refine r_ifs 6 rfl (fun c357 => ?_) (fun c357 => ?_)
  · have c357_ : v353.toInt < 0 := en_j_lt_t c357
    refine At.enter rfl ?_
    refine r_iconst 0 rfl ?_
    refine Ar.fall 18 rfl ?_
    refine At.enter rfl ?_
    refine q_iretz (by decide) ?_
    refine At.enter rfl ?_
    refine q_iretz (by decide) ?_
    refine At.enter rfl ?_
    refine r_ift (by decide) ?_
    refine At.enter rfl ?_
    refine r_aload_n rfl ?_
    refine r_bipush (-2) rfl ?_
    refine r_callV 27 rfl [.ref 231, .int (-2)] [] (Nat.le_of_ble_eq_true rfl) rfl (T_X11_tell_231 _ hI351 (-2) (by decide)) ?_
    rintro _ _ ⟨g358, rfl, hI359, hF360, v361, rfl, hr362⟩
    refine At.sti ?_
    have hF363 := Fr.tr hF352 hF360 rfl rfl
    have zv364 : ((-2) : Int32).toInt = (-2) := rfl
    refine At.enter rfl ?_
    refine r_ireti ?_
    have x365 := HI.eqA hI359 (p := 233) (j := 0) ((((eA_c (hF360.2.1 233 (by decide))).trans (eA_c gA_sI)).trans hv354))
    obtain ⟨v366, hv366⟩ : ∃ v, eA g0 233 4 = v := ⟨_, rfl⟩
    have wv366 := HI.t4 hI0
    rw [hv366] at wv366
    have tv366 := congrArg Int32.toInt hv366
    have x367 := HI.eqA hI359 (p := 233) (j := 4) ((((eA_c (hF360.2.1 233 (by decide))).trans (eA_c gA_sI)).trans hv366))
    obtain ⟨v368, hv368⟩ : ∃ v, eA g0 233 5 = v := ⟨_, rfl⟩
    have wv368 := HI.t5 hI0
    rw [hv368] at wv368
    have tv368 := congrArg Int32.toInt hv368
    have x369 := HI.eqA hI359 (p := 233) (j := 5) ((((eA_c (hF360.2.1 233 (by decide))).trans (eA_c gA_sI)).trans hv368))
    obtain ⟨v370, hv370⟩ : ∃ v, eA g0 233 6 = v := ⟨_, rfl⟩
    have wv370 := HI.t6 hI0
    rw [hv370] at wv370
    have tv370 := congrArg Int32.toInt hv370
    have x371 := HI.eqA hI359 (p := 233) (j := 6) ((((eA_c (hF360.2.1 233 (by decide))).trans (eA_c gA_sI)).trans hv370))
    have x372 := HI.eqA hI0 (p := 233) (j := 0) (hv354)
    have x373 := HI.eqA hI0 (p := 233) (j := 0) (hv354)
    have x374 := HI.eqA hI0 (p := 233) (j := 4) (hv366)
    have x375 := HI.eqA hI0 (p := 233) (j := 5) (hv368)
    have x376 := HI.eqA hI0 (p := 233) (j := 6) (hv370)
    have x377 := HI.eqA hI0 (p := 233) (j := 0) (hv354)
    exact ⟨_, rfl, hI359, hF363, _, rfl, by omega, ⟨⟨by omega, by omega, by omega, by omega, by omega⟩, (by intro i i0 i1; refine Eq.trans ?_ (if_neg (show ¬ ((0 ≤ a1.toInt ∧ a1.toInt < (eA g0 233 0).toInt ∧ 0 ≤ a2.toInt ∧ a2.toInt < (eA g0 233 0).toInt ∧ a1.toInt ≠ a2.toInt) ∧ i = 10 + 3 * a1.toInt + 1) from by omega)).symm; refine Eq.trans ?_ (if_neg (show ¬ ((0 ≤ a1.toInt ∧ a1.toInt < (eA g0 233 0).toInt ∧ 0 ≤ a2.toInt ∧ a2.toInt < (eA g0 233 0).toInt ∧ a1.toInt ≠ a2.toInt) ∧ i = 10 + 3 * a1.toInt + 2) from by omega)).symm; refine Eq.trans ?_ (if_neg (show ¬ ((0 ≤ a1.toInt ∧ a1.toInt < (eA g0 233 0).toInt ∧ 0 ≤ a2.toInt ∧ a2.toInt < (eA g0 233 0).toInt ∧ a1.toInt ≠ a2.toInt) ∧ i = 10 + 3 * a2.toInt + 1) from by omega)).symm; refine Eq.trans ?_ (if_neg (show ¬ ((0 ≤ a1.toInt ∧ a1.toInt < (eA g0 233 0).toInt ∧ 0 ≤ a2.toInt ∧ a2.toInt < (eA g0 233 0).toInt ∧ a1.toInt ≠ a2.toInt) ∧ i = 10 + 3 * a2.toInt + 2) from by omega)).symm; refine (eA_ti (((hF360.2.1 233 (by decide)).trans (gA_sI)))).trans ?_; (first | rfl | exact eA_ix (by omega) | omega))⟩⟩
  · have c357_ : v353.toInt ≥ 0 := en_j_lt_f c357
    refine At.enter rfl ?_
    refine r_lload_n rfl ?_
    refine r_lload rfl ?_
    refine r_lcmp _ rfl ?_
    refine r_ifs 13 rfl (fun c378 => ?_) (fun c378 => ?_)
    · have c378_ : v353.toInt > v356.toInt := en_j_gt_t c378
      refine At.enter rfl ?_
      refine r_iconst 0 rfl ?_
      refine Ar.fall 18 rfl ?_
      refine At.enter rfl ?_
      refine q_iretz (by decide) ?_
      refine At.enter rfl ?_
      refine q_iretz (by decide) ?_
      refine At.enter rfl ?_
      refine r_ift (by decide) ?_
      refine At.enter rfl ?_
      refine r_aload_n rfl ?_
      refine r_bipush (-2) rfl ?_
      refine r_callV 27 rfl [.ref 231, .int (-2)] [] (Nat.le_of_ble_eq_true rfl) rfl (T_X11_tell_231 _ hI351 (-2) (by decide)) ?_
      rintro _ _ ⟨g379, rfl, hI380, hF381, v382, rfl, hr383⟩
      refine At.sti ?_
      have hF384 := Fr.tr hF352 hF381 rfl rfl
      have zv385 : ((-2) : Int32).toInt = (-2) := rfl
      refine At.enter rfl ?_
      refine r_ireti ?_
      have x386 := HI.eqA hI380 (p := 233) (j := 0) ((((eA_c (hF381.2.1 233 (by decide))).trans (eA_c gA_sI)).trans hv354))
      obtain ⟨v387, hv387⟩ : ∃ v, eA g0 233 4 = v := ⟨_, rfl⟩
      have wv387 := HI.t4 hI0
      rw [hv387] at wv387
      have tv387 := congrArg Int32.toInt hv387
      have x388 := HI.eqA hI380 (p := 233) (j := 4) ((((eA_c (hF381.2.1 233 (by decide))).trans (eA_c gA_sI)).trans hv387))
      obtain ⟨v389, hv389⟩ : ∃ v, eA g0 233 5 = v := ⟨_, rfl⟩
      have wv389 := HI.t5 hI0
      rw [hv389] at wv389
      have tv389 := congrArg Int32.toInt hv389
      have x390 := HI.eqA hI380 (p := 233) (j := 5) ((((eA_c (hF381.2.1 233 (by decide))).trans (eA_c gA_sI)).trans hv389))
      obtain ⟨v391, hv391⟩ : ∃ v, eA g0 233 6 = v := ⟨_, rfl⟩
      have wv391 := HI.t6 hI0
      rw [hv391] at wv391
      have tv391 := congrArg Int32.toInt hv391
      have x392 := HI.eqA hI380 (p := 233) (j := 6) ((((eA_c (hF381.2.1 233 (by decide))).trans (eA_c gA_sI)).trans hv391))
      have x393 := HI.eqA hI0 (p := 233) (j := 0) (hv354)
      have x394 := HI.eqA hI0 (p := 233) (j := 0) (hv354)
      have x395 := HI.eqA hI0 (p := 233) (j := 4) (hv387)
      have x396 := HI.eqA hI0 (p := 233) (j := 5) (hv389)
      have x397 := HI.eqA hI0 (p := 233) (j := 6) (hv391)
      have x398 := HI.eqA hI0 (p := 233) (j := 0) (hv354)
      exact ⟨_, rfl, hI380, hF384, _, rfl, by omega, ⟨⟨by omega, by omega, by omega, by omega, by omega⟩, (by intro i i0 i1; refine Eq.trans ?_ (if_neg (show ¬ ((0 ≤ a1.toInt ∧ a1.toInt < (eA g0 233 0).toInt ∧ 0 ≤ a2.toInt ∧ a2.toInt < (eA g0 233 0).toInt ∧ a1.toInt ≠ a2.toInt) ∧ i = 10 + 3 * a1.toInt + 1) from by omega)).symm; refine Eq.trans ?_ (if_neg (show ¬ ((0 ≤ a1.toInt ∧ a1.toInt < (eA g0 233 0).toInt ∧ 0 ≤ a2.toInt ∧ a2.toInt < (eA g0 233 0).toInt ∧ a1.toInt ≠ a2.toInt) ∧ i = 10 + 3 * a1.toInt + 2) from by omega)).symm; refine Eq.trans ?_ (if_neg (show ¬ ((0 ≤ a1.toInt ∧ a1.toInt < (eA g0 233 0).toInt ∧ 0 ≤ a2.toInt ∧ a2.toInt < (eA g0 233 0).toInt ∧ a1.toInt ≠ a2.toInt) ∧ i = 10 + 3 * a2.toInt + 1) from by omega)).symm; refine Eq.trans ?_ (if_neg (show ¬ ((0 ≤ a1.toInt ∧ a1.toInt < (eA g0 233 0).toInt ∧ 0 ≤ a2.toInt ∧ a2.toInt < (eA g0 233 0).toInt ∧ a1.toInt ≠ a2.toInt) ∧ i = 10 + 3 * a2.toInt + 2) from by omega)).symm; refine (eA_ti (((hF381.2.1 233 (by decide)).trans (gA_sI)))).trans ?_; (first | rfl | exact eA_ix (by omega) | omega))⟩⟩
    · have c378_ : v353.toInt ≤ v356.toInt := en_j_gt_f c378
      refine At.enter rfl ?_
      refine r_iconst 1 rfl ?_
      refine r_goto ?_
      refine At.enter rfl ?_
      refine q_iretz (by decide) ?_
      refine At.enter rfl ?_
      refine q_iretz (by decide) ?_
      refine At.enter rfl ?_
      refine r_iff 13 rfl (by decide) ?_
      refine At.enter rfl ?_
      refine r_aload_n rfl ?_
      refine r_iload_n rfl ?_
      refine q_inlV 18 rfl [.ref 231, .int a2] [] (Nat.le_of_ble_eq_true rfl) rfl ?_
      refine Ev.mk rfl rfl ⟨Nat.le_of_ble_eq_true rfl, Or.inr (q_rc hI351.1 kx_231 rfl)⟩ ?_
      show At _ none _ _ (0, [(0, .ref 231), (1, .int a2)], [], (_, _)) _
      refine At.enter rfl ?_
      refine r_iload_n rfl ?_
      refine q_i2l (fun v399 hv399 => ?_)
      refine r_lconst 0 rfl ?_
      refine r_aload_n rfl ?_
      refine q_getR (Sh.ref hI351.1 kx_231 rfl) ?_
      refine r_iconst 0 rfl ?_
      refine q_iald (Sh.arr hI351.1 ka_233) 0 rfl (by decide) v354 ((eA_c (gA_sI)).trans hv354) ?_
      refine q_i2l (fun v400 hv400 => ?_)
      refine r_lconst 1 rfl ?_
      refine q_lsub (v400.toInt - 1) rfl (by omega) (fun v401 hv401 => ?_)
      refine q_inlS 15 rfl [.long v399, .long 0, .long v401] [] (Nat.le_of_ble_eq_true rfl) rfl ?_
      refine Ev.mk rfl rfl ⟨Nat.le_of_ble_eq_true rfl, Or.inl rfl⟩ ?_
      show At _ none _ _ (0, [(0, .long v399), (2, .long 0), (4, .long v401)], [], (_, _)) _
      refine At.enter rfl ?_
      refine r_lload_n rfl ?_
      refine r_lload_n rfl ?_
      refine r_lcmp _ rfl ?_
      refine r_ifs 6 rfl (fun c402 => ?_) (fun c402 => ?_)
      · have c402_ : v399.toInt < 0 := en_j_lt_t c402
        refine At.enter rfl ?_
        refine r_iconst 0 rfl ?_
        refine Ar.fall 18 rfl ?_
        refine At.enter rfl ?_
        refine q_iretz (by decide) ?_
        refine At.enter rfl ?_
        refine q_iretz (by decide) ?_
        refine At.enter rfl ?_
        refine r_iff 21 rfl (by decide) ?_
        refine At.enter rfl ?_
        refine r_aload_n rfl ?_
        refine r_bipush (-2) rfl ?_
        refine r_callV 27 rfl [.ref 231, .int (-2)] [] (Nat.le_of_ble_eq_true rfl) rfl (T_X11_tell_231 _ hI351 (-2) (by decide)) ?_
        rintro _ _ ⟨g403, rfl, hI404, hF405, v406, rfl, hr407⟩
        refine At.sti ?_
        have hF408 := Fr.tr hF352 hF405 rfl rfl
        have zv409 : ((-2) : Int32).toInt = (-2) := rfl
        refine At.enter rfl ?_
        refine r_ireti ?_
        have x410 := HI.eqA hI404 (p := 233) (j := 0) ((((eA_c (hF405.2.1 233 (by decide))).trans (eA_c gA_sI)).trans hv354))
        obtain ⟨v411, hv411⟩ : ∃ v, eA g0 233 4 = v := ⟨_, rfl⟩
        have wv411 := HI.t4 hI0
        rw [hv411] at wv411
        have tv411 := congrArg Int32.toInt hv411
        have x412 := HI.eqA hI404 (p := 233) (j := 4) ((((eA_c (hF405.2.1 233 (by decide))).trans (eA_c gA_sI)).trans hv411))
        obtain ⟨v413, hv413⟩ : ∃ v, eA g0 233 5 = v := ⟨_, rfl⟩
        have wv413 := HI.t5 hI0
        rw [hv413] at wv413
        have tv413 := congrArg Int32.toInt hv413
        have x414 := HI.eqA hI404 (p := 233) (j := 5) ((((eA_c (hF405.2.1 233 (by decide))).trans (eA_c gA_sI)).trans hv413))
        obtain ⟨v415, hv415⟩ : ∃ v, eA g0 233 6 = v := ⟨_, rfl⟩
        have wv415 := HI.t6 hI0
        rw [hv415] at wv415
        have tv415 := congrArg Int32.toInt hv415
        have x416 := HI.eqA hI404 (p := 233) (j := 6) ((((eA_c (hF405.2.1 233 (by decide))).trans (eA_c gA_sI)).trans hv415))
        have x417 := HI.eqA hI0 (p := 233) (j := 0) (hv354)
        have x418 := HI.eqA hI0 (p := 233) (j := 0) (hv354)
        have x419 := HI.eqA hI0 (p := 233) (j := 4) (hv411)
        have x420 := HI.eqA hI0 (p := 233) (j := 5) (hv413)
        have x421 := HI.eqA hI0 (p := 233) (j := 6) (hv415)
        have x422 := HI.eqA hI0 (p := 233) (j := 0) (hv354)
        exact ⟨_, rfl, hI404, hF408, _, rfl, by omega, ⟨⟨by omega, by omega, by omega, by omega, by omega⟩, (by intro i i0 i1; refine Eq.trans ?_ (if_neg (show ¬ ((0 ≤ a1.toInt ∧ a1.toInt < (eA g0 233 0).toInt ∧ 0 ≤ a2.toInt ∧ a2.toInt < (eA g0 233 0).toInt ∧ a1.toInt ≠ a2.toInt) ∧ i = 10 + 3 * a1.toInt + 1) from by omega)).symm; refine Eq.trans ?_ (if_neg (show ¬ ((0 ≤ a1.toInt ∧ a1.toInt < (eA g0 233 0).toInt ∧ 0 ≤ a2.toInt ∧ a2.toInt < (eA g0 233 0).toInt ∧ a1.toInt ≠ a2.toInt) ∧ i = 10 + 3 * a1.toInt + 2) from by omega)).symm; refine Eq.trans ?_ (if_neg (show ¬ ((0 ≤ a1.toInt ∧ a1.toInt < (eA g0 233 0).toInt ∧ 0 ≤ a2.toInt ∧ a2.toInt < (eA g0 233 0).toInt ∧ a1.toInt ≠ a2.toInt) ∧ i = 10 + 3 * a2.toInt + 1) from by omega)).symm; refine Eq.trans ?_ (if_neg (show ¬ ((0 ≤ a1.toInt ∧ a1.toInt < (eA g0 233 0).toInt ∧ 0 ≤ a2.toInt ∧ a2.toInt < (eA g0 233 0).toInt ∧ a1.toInt ≠ a2.toInt) ∧ i = 10 + 3 * a2.toInt + 2) from by omega)).symm; refine (eA_ti (((hF405.2.1 233 (by decide)).trans (gA_sI)))).trans ?_; (first | rfl | exact eA_ix (by omega) | omega))⟩⟩
      · have c402_ : v399.toInt ≥ 0 := en_j_lt_f c402
        refine At.enter rfl ?_
        refine r_lload_n rfl ?_
        refine r_lload rfl ?_
        refine r_lcmp _ rfl ?_
        refine r_ifs 13 rfl (fun c423 => ?_) (fun c423 => ?_)
        · have c423_ : v399.toInt > v401.toInt := en_j_gt_t c423
          refine At.enter rfl ?_
          refine r_iconst 0 rfl ?_
          refine Ar.fall 18 rfl ?_
          refine At.enter rfl ?_
          refine q_iretz (by decide) ?_
          refine At.enter rfl ?_
          refine q_iretz (by decide) ?_
          refine At.enter rfl ?_
          refine r_iff 21 rfl (by decide) ?_
          refine At.enter rfl ?_
          refine r_aload_n rfl ?_
          refine r_bipush (-2) rfl ?_
          refine r_callV 27 rfl [.ref 231, .int (-2)] [] (Nat.le_of_ble_eq_true rfl) rfl (T_X11_tell_231 _ hI351 (-2) (by decide)) ?_
          rintro _ _ ⟨g424, rfl, hI425, hF426, v427, rfl, hr428⟩
          refine At.sti ?_
          have hF429 := Fr.tr hF352 hF426 rfl rfl
          have zv430 : ((-2) : Int32).toInt = (-2) := rfl
          refine At.enter rfl ?_
          refine r_ireti ?_
          have x431 := HI.eqA hI425 (p := 233) (j := 0) ((((eA_c (hF426.2.1 233 (by decide))).trans (eA_c gA_sI)).trans hv354))
          obtain ⟨v432, hv432⟩ : ∃ v, eA g0 233 4 = v := ⟨_, rfl⟩
          have wv432 := HI.t4 hI0
          rw [hv432] at wv432
          have tv432 := congrArg Int32.toInt hv432
          have x433 := HI.eqA hI425 (p := 233) (j := 4) ((((eA_c (hF426.2.1 233 (by decide))).trans (eA_c gA_sI)).trans hv432))
          obtain ⟨v434, hv434⟩ : ∃ v, eA g0 233 5 = v := ⟨_, rfl⟩
          have wv434 := HI.t5 hI0
          rw [hv434] at wv434
          have tv434 := congrArg Int32.toInt hv434
          have x435 := HI.eqA hI425 (p := 233) (j := 5) ((((eA_c (hF426.2.1 233 (by decide))).trans (eA_c gA_sI)).trans hv434))
          obtain ⟨v436, hv436⟩ : ∃ v, eA g0 233 6 = v := ⟨_, rfl⟩
          have wv436 := HI.t6 hI0
          rw [hv436] at wv436
          have tv436 := congrArg Int32.toInt hv436
          have x437 := HI.eqA hI425 (p := 233) (j := 6) ((((eA_c (hF426.2.1 233 (by decide))).trans (eA_c gA_sI)).trans hv436))
          have x438 := HI.eqA hI0 (p := 233) (j := 0) (hv354)
          have x439 := HI.eqA hI0 (p := 233) (j := 0) (hv354)
          have x440 := HI.eqA hI0 (p := 233) (j := 4) (hv432)
          have x441 := HI.eqA hI0 (p := 233) (j := 5) (hv434)
          have x442 := HI.eqA hI0 (p := 233) (j := 6) (hv436)
          have x443 := HI.eqA hI0 (p := 233) (j := 0) (hv354)
          exact ⟨_, rfl, hI425, hF429, _, rfl, by omega, ⟨⟨by omega, by omega, by omega, by omega, by omega⟩, (by intro i i0 i1; refine Eq.trans ?_ (if_neg (show ¬ ((0 ≤ a1.toInt ∧ a1.toInt < (eA g0 233 0).toInt ∧ 0 ≤ a2.toInt ∧ a2.toInt < (eA g0 233 0).toInt ∧ a1.toInt ≠ a2.toInt) ∧ i = 10 + 3 * a1.toInt + 1) from by omega)).symm; refine Eq.trans ?_ (if_neg (show ¬ ((0 ≤ a1.toInt ∧ a1.toInt < (eA g0 233 0).toInt ∧ 0 ≤ a2.toInt ∧ a2.toInt < (eA g0 233 0).toInt ∧ a1.toInt ≠ a2.toInt) ∧ i = 10 + 3 * a1.toInt + 2) from by omega)).symm; refine Eq.trans ?_ (if_neg (show ¬ ((0 ≤ a1.toInt ∧ a1.toInt < (eA g0 233 0).toInt ∧ 0 ≤ a2.toInt ∧ a2.toInt < (eA g0 233 0).toInt ∧ a1.toInt ≠ a2.toInt) ∧ i = 10 + 3 * a2.toInt + 1) from by omega)).symm; refine Eq.trans ?_ (if_neg (show ¬ ((0 ≤ a1.toInt ∧ a1.toInt < (eA g0 233 0).toInt ∧ 0 ≤ a2.toInt ∧ a2.toInt < (eA g0 233 0).toInt ∧ a1.toInt ≠ a2.toInt) ∧ i = 10 + 3 * a2.toInt + 2) from by omega)).symm; refine (eA_ti (((hF426.2.1 233 (by decide)).trans (gA_sI)))).trans ?_; (first | rfl | exact eA_ix (by omega) | omega))⟩⟩
        · have c423_ : v399.toInt ≤ v401.toInt := en_j_gt_f c423
          refine At.enter rfl ?_
          refine r_iconst 1 rfl ?_
          refine r_goto ?_
          refine At.enter rfl ?_
          refine q_iretz (by decide) ?_
          refine At.enter rfl ?_
          refine q_iretz (by decide) ?_
          refine At.enter rfl ?_
          refine r_ift (by decide) ?_
          refine At.enter rfl ?_
          refine r_iload_n rfl ?_
          refine r_iload_n rfl ?_
          refine r_ics 33 rfl (fun c444 => ?_) (fun c444 => ?_)
          · have c444_ : a1.toInt ≠ a2.toInt := en_i_ne_t c444
            refine At.enter rfl ?_
            refine r_iconst 1 rfl ?_
            refine r_istore_n ([(3, .int 1), (0, .ref 231), (1, .int a1), (2, .int a2)]) rfl ?_
            refine Ar.fall 42 rfl ?_
            obtain ⟨v445, hv445⟩ : ∃ v, eA g0 233 4 = v := ⟨_, rfl⟩
            have wv445 := HI.t4 hI0
            rw [hv445] at wv445
            have tv445 := congrArg Int32.toInt hv445
            obtain ⟨v446, hv446⟩ : ∃ v, eA g0 233 5 = v := ⟨_, rfl⟩
            have wv446 := HI.t5 hI0
            rw [hv446] at wv446
            have tv446 := congrArg Int32.toInt hv446
            obtain ⟨v447, hv447⟩ : ∃ v, eA g0 233 6 = v := ⟨_, rfl⟩
            have wv447 := HI.t6 hI0
            rw [hv447] at wv447
            have tv447 := congrArg Int32.toInt hv447
            have z_538 : (1 : Int32).toInt = 1 := rfl
            refine w_loopI (fun n_ l_ g_ => ∃ x521 : Int32, n_ = 3 - x521.toInt ∧ HI g_ ∧ Fr F_X11_swap_231 A_X11_swap_231 g0 g_ ∧ eA g_ 233 0 = v354 ∧ eA g_ 233 4 = v445 ∧ eA g_ 233 5 = v446 ∧ eA g_ 233 6 = v447 ∧ en_get 0 l_ = some (.ref 231) ∧ en_get 1 l_ = some (.int a1) ∧ en_get 2 l_ = some (.int a2) ∧ en_get 3 l_ = some (.int x521) ∧ (1 ≤ x521.toInt ∧ x521.toInt ≤ 3) ∧ (∀ i : Int, 10 ≤ i → i < 110 → (eA g_ 233 (i)).toInt = if 10 + 3 * a1.toInt + 1 ≤ i ∧ i < 10 + 3 * a1.toInt + x521.toInt then (eA g0 233 (i + 3 * a2.toInt - 3 * a1.toInt)).toInt else if 10 + 3 * a2.toInt + 1 ≤ i ∧ i < 10 + 3 * a2.toInt + x521.toInt then (eA g0 233 (i + 3 * a1.toInt - 3 * a2.toInt)).toInt else (eA g0 233 (i)).toInt)) ?_ (3 - 1) ⟨1, by first | rfl | omega, hI351, hF352, ((eA_c gA_sI).trans hv354), ((eA_c gA_sI).trans hv445), ((eA_c gA_sI).trans hv446), ((eA_c gA_sI).trans hv447), rfl, rfl, rfl, rfl, by decide, (by intro i i0 i1; refine Eq.trans ?_ (if_neg (show ¬ (10 + 3 * a1.toInt + 1 ≤ i ∧ i < 10 + 3 * a1.toInt + 1) from by omega)).symm; refine Eq.trans ?_ (if_neg (show ¬ (10 + 3 * a2.toInt + 1 ≤ i ∧ i < 10 + 3 * a2.toInt + 1) from by omega)).symm; refine (eA_ti ((gA_sI))).trans ?_; (first | rfl | exact eA_ix (by omega) | omega))⟩
            rintro n526 l525 g522 ⟨x521, hm539, hI523, hF524, e528, e529, e530, e531, e532, e533, e534, e535, r536, q537⟩ ih527
            have tv540 := congrArg Int32.toInt e528
            have tv541 := congrArg Int32.toInt e529
            have tv542 := congrArg Int32.toInt e530
            have tv543 := congrArg Int32.toInt e531
            refine At.enter rfl ?_
            refine r_iload_n e535 ?_
            refine r_iconst 3 rfl ?_
            refine r_ics 47 rfl (fun c544 => ?_) (fun c544 => ?_)
            · have c544_ : x521.toInt ≥ 3 := en_i_ge_t c544
              refine At.enter rfl ?_
              refine r_aload_n e532 ?_
              refine r_iconst 0 rfl ?_
              refine r_callV 114 rfl [.ref 231, .int 0] [] (Nat.le_of_ble_eq_true rfl) rfl (T_X11_tell_231 _ hI523 0 (by decide)) ?_
              rintro _ _ ⟨g545, rfl, hI546, hF547, v548, rfl, hr549⟩
              refine At.sti ?_
              have hF550 := Fr.tr hF524 hF547 rfl rfl
              have zv551 : (0 : Int32).toInt = 0 := rfl
              refine At.enter rfl ?_
              refine r_ireti ?_
              have x552 := HI.eqA hI546 (p := 233) (j := 0) (((eA_c (hF547.2.1 233 (by decide))).trans e528))
              have x553 := HI.eqA hI546 (p := 233) (j := 4) (((eA_c (hF547.2.1 233 (by decide))).trans e529))
              have x554 := HI.eqA hI546 (p := 233) (j := 5) (((eA_c (hF547.2.1 233 (by decide))).trans e530))
              have x555 := HI.eqA hI546 (p := 233) (j := 6) (((eA_c (hF547.2.1 233 (by decide))).trans e531))
              have x556 := HI.eqA hI0 (p := 233) (j := 0) (hv354)
              have x557 := HI.eqA hI0 (p := 233) (j := 0) (hv354)
              have x558 := HI.eqA hI0 (p := 233) (j := 4) (hv445)
              have x559 := HI.eqA hI0 (p := 233) (j := 5) (hv446)
              have x560 := HI.eqA hI0 (p := 233) (j := 6) (hv447)
              have x561 := HI.eqA hI0 (p := 233) (j := 0) (hv354)
              exact ⟨_, rfl, hI546, hF550, _, rfl, by omega, ⟨⟨by omega, by omega, by omega, by omega, by omega⟩, (by intro i i0 i1; exact (Decidable.em ((0 ≤ a1.toInt ∧ a1.toInt < (eA g0 233 0).toInt ∧ 0 ≤ a2.toInt ∧ a2.toInt < (eA g0 233 0).toInt ∧ a1.toInt ≠ a2.toInt) ∧ i = 10 + 3 * a1.toInt + 1)).elim (fun k131_ => by refine Eq.trans ?_ (if_pos k131_).symm; refine (eA_ti ((hF547.2.1 233 (by decide)))).trans ?_; refine ((q537 (i) (by omega) (by omega))).trans ?_; exact (Decidable.em (10 + 3 * a1.toInt + 1 ≤ (i) ∧ (i) < 10 + 3 * a1.toInt + x521.toInt)).elim (fun k132_ => by refine (if_pos k132_).trans ?_; (first | rfl | exact eA_ix (by omega) | omega)) (fun k132_ => by refine (if_neg k132_).trans ?_; exact (Decidable.em (10 + 3 * a2.toInt + 1 ≤ (i) ∧ (i) < 10 + 3 * a2.toInt + x521.toInt)).elim (fun k133_ => by refine (if_pos k133_).trans ?_; (first | rfl | exact eA_ix (by omega) | omega)) (fun k133_ => by refine (if_neg k133_).trans ?_; (first | rfl | exact eA_ix (by omega) | omega)))) (fun k131_ => by refine Eq.trans ?_ (if_neg k131_).symm; exact (Decidable.em ((0 ≤ a1.toInt ∧ a1.toInt < (eA g0 233 0).toInt ∧ 0 ≤ a2.toInt ∧ a2.toInt < (eA g0 233 0).toInt ∧ a1.toInt ≠ a2.toInt) ∧ i = 10 + 3 * a1.toInt + 2)).elim (fun k134_ => by refine Eq.trans ?_ (if_pos k134_).symm; refine (eA_ti ((hF547.2.1 233 (by decide)))).trans ?_; refine ((q537 (i) (by omega) (by omega))).trans ?_; exact (Decidable.em (10 + 3 * a1.toInt + 1 ≤ (i) ∧ (i) < 10 + 3 * a1.toInt + x521.toInt)).elim (fun k135_ => by refine (if_pos k135_).trans ?_; (first | rfl | exact eA_ix (by omega) | omega)) (fun k135_ => by refine (if_neg k135_).trans ?_; exact (Decidable.em (10 + 3 * a2.toInt + 1 ≤ (i) ∧ (i) < 10 + 3 * a2.toInt + x521.toInt)).elim (fun k136_ => by refine (if_pos k136_).trans ?_; (first | rfl | exact eA_ix (by omega) | omega)) (fun k136_ => by refine (if_neg k136_).trans ?_; (first | rfl | exact eA_ix (by omega) | omega)))) (fun k134_ => by refine Eq.trans ?_ (if_neg k134_).symm; exact (Decidable.em ((0 ≤ a1.toInt ∧ a1.toInt < (eA g0 233 0).toInt ∧ 0 ≤ a2.toInt ∧ a2.toInt < (eA g0 233 0).toInt ∧ a1.toInt ≠ a2.toInt) ∧ i = 10 + 3 * a2.toInt + 1)).elim (fun k137_ => by refine Eq.trans ?_ (if_pos k137_).symm; refine (eA_ti ((hF547.2.1 233 (by decide)))).trans ?_; refine ((q537 (i) (by omega) (by omega))).trans ?_; exact (Decidable.em (10 + 3 * a1.toInt + 1 ≤ (i) ∧ (i) < 10 + 3 * a1.toInt + x521.toInt)).elim (fun k138_ => by refine (if_pos k138_).trans ?_; (first | rfl | exact eA_ix (by omega) | omega)) (fun k138_ => by refine (if_neg k138_).trans ?_; exact (Decidable.em (10 + 3 * a2.toInt + 1 ≤ (i) ∧ (i) < 10 + 3 * a2.toInt + x521.toInt)).elim (fun k139_ => by refine (if_pos k139_).trans ?_; (first | rfl | exact eA_ix (by omega) | omega)) (fun k139_ => by refine (if_neg k139_).trans ?_; (first | rfl | exact eA_ix (by omega) | omega)))) (fun k137_ => by refine Eq.trans ?_ (if_neg k137_).symm; exact (Decidable.em ((0 ≤ a1.toInt ∧ a1.toInt < (eA g0 233 0).toInt ∧ 0 ≤ a2.toInt ∧ a2.toInt < (eA g0 233 0).toInt ∧ a1.toInt ≠ a2.toInt) ∧ i = 10 + 3 * a2.toInt + 2)).elim (fun k140_ => by refine Eq.trans ?_ (if_pos k140_).symm; refine (eA_ti ((hF547.2.1 233 (by decide)))).trans ?_; refine ((q537 (i) (by omega) (by omega))).trans ?_; exact (Decidable.em (10 + 3 * a1.toInt + 1 ≤ (i) ∧ (i) < 10 + 3 * a1.toInt + x521.toInt)).elim (fun k141_ => by refine (if_pos k141_).trans ?_; (first | rfl | exact eA_ix (by omega) | omega)) (fun k141_ => by refine (if_neg k141_).trans ?_; exact (Decidable.em (10 + 3 * a2.toInt + 1 ≤ (i) ∧ (i) < 10 + 3 * a2.toInt + x521.toInt)).elim (fun k142_ => by refine (if_pos k142_).trans ?_; (first | rfl | exact eA_ix (by omega) | omega)) (fun k142_ => by refine (if_neg k142_).trans ?_; (first | rfl | exact eA_ix (by omega) | omega)))) (fun k140_ => by refine Eq.trans ?_ (if_neg k140_).symm; refine (eA_ti ((hF547.2.1 233 (by decide)))).trans ?_; refine ((q537 (i) (by omega) (by omega))).trans ?_; exact (Decidable.em (10 + 3 * a1.toInt + 1 ≤ (i) ∧ (i) < 10 + 3 * a1.toInt + x521.toInt)).elim (fun k143_ => by refine (if_pos k143_).trans ?_; (first | rfl | exact eA_ix (by omega) | omega)) (fun k143_ => by refine (if_neg k143_).trans ?_; exact (Decidable.em (10 + 3 * a2.toInt + 1 ≤ (i) ∧ (i) < 10 + 3 * a2.toInt + x521.toInt)).elim (fun k144_ => by refine (if_pos k144_).trans ?_; (first | rfl | exact eA_ix (by omega) | omega)) (fun k144_ => by refine (if_neg k144_).trans ?_; (first | rfl | exact eA_ix (by omega) | omega))))))))⟩⟩
            · have c544_ : x521.toInt < 3 := en_i_ge_f c544
              refine At.enter rfl ?_
              refine r_aload_n e532 ?_
              refine q_getR (Sh.ref hI523.1 kx_231 rfl) ?_
              refine r_bipush 10 rfl ?_
              refine r_iconst 3 rfl ?_
              refine r_iload_n e533 ?_
              refine q_imul (3 * a1.toInt) rfl (by omega) (fun v562 hv562 => ?_)
              refine q_iadd (10 + v562.toInt) rfl (by omega) (fun v563 hv563 => ?_)
              refine r_iload_n e535 ?_
              refine q_iadd (v563.toInt + x521.toInt) rfl (by omega) (fun v564 hv564 => ?_)
              obtain ⟨v565, hv565⟩ : ∃ v, eA g522 233 (3 * a1.toInt + x521.toInt + 10) = v := ⟨_, rfl⟩
              have wv565 := HI.s12 hI523 (j := (3 * a1.toInt + x521.toInt + 10)) a1.toInt x521.toInt (by omega) (by omega) (by omega)
              rw [hv565] at wv565
              refine q_iald (Sh.arr hI523.1 ka_233) (3 * a1.toInt + x521.toInt + 10) (by omega) (by omega) v565 hv565 ?_
              refine r_istore _ rfl ?_
              refine r_aload_n (w_p1 (by decide) (Or.inr rfl) e532) ?_
              refine q_getR (Sh.ref hI523.1 kx_231 rfl) ?_
              refine r_bipush 10 rfl ?_
              refine r_iconst 3 rfl ?_
              refine r_iload_n (w_p1 (by decide) (Or.inr rfl) e533) ?_
              refine q_imul (3 * a1.toInt) rfl (by omega) (fun v566 hv566 => ?_)
              refine q_iadd (10 + v566.toInt) rfl (by omega) (fun v567 hv567 => ?_)
              refine r_iload_n (w_p1 (by decide) (Or.inr rfl) e535) ?_
              refine q_iadd (v567.toInt + x521.toInt) rfl (by omega) (fun v568 hv568 => ?_)
              refine r_aload_n (w_p1 (by decide) (Or.inr rfl) e532) ?_
              refine q_getR (Sh.ref hI523.1 kx_231 rfl) ?_
              refine r_bipush 10 rfl ?_
              refine r_iconst 3 rfl ?_
              refine r_iload_n (w_p1 (by decide) (Or.inr rfl) e534) ?_
              refine q_imul (3 * a2.toInt) rfl (by omega) (fun v569 hv569 => ?_)
              refine q_iadd (10 + v569.toInt) rfl (by omega) (fun v570 hv570 => ?_)
              refine r_iload_n (w_p1 (by decide) (Or.inr rfl) e535) ?_
              refine q_iadd (v570.toInt + x521.toInt) rfl (by omega) (fun v571 hv571 => ?_)
              obtain ⟨v572, hv572⟩ : ∃ v, eA g522 233 (3 * a2.toInt + x521.toInt + 10) = v := ⟨_, rfl⟩
              have wv572 := HI.s12 hI523 (j := (3 * a2.toInt + x521.toInt + 10)) a2.toInt x521.toInt (by omega) (by omega) (by omega)
              rw [hv572] at wv572
              refine q_iald (Sh.arr hI523.1 ka_233) (3 * a2.toInt + x521.toInt + 10) (by omega) (by omega) v572 hv572 ?_
              refine q_iast (Sh.arr hI523.1 ka_233) ((3 * a1.toInt + x521.toInt + 10)) (by omega) (by omega) ?_
              have hI573 := HI.ws hI523 (j := (3 * a1.toInt + x521.toInt + 10)) (v := v572) a1.toInt x521.toInt (by omega) (by omega) (by omega) (by omega)
              have hF574 := Fr.wA (p := 233) (j := (3 * a1.toInt + x521.toInt + 10)) (v := v572) hF524 rfl
              refine r_aload_n (w_p1 (by decide) (Or.inr rfl) e532) ?_
              refine q_getR (Sh.ref hI573.1 kx_231 rfl) ?_
              refine r_bipush 10 rfl ?_
              refine r_iconst 3 rfl ?_
              refine r_iload_n (w_p1 (by decide) (Or.inr rfl) e534) ?_
              refine q_imul (3 * a2.toInt) rfl (by omega) (fun v575 hv575 => ?_)
              refine q_iadd (10 + v575.toInt) rfl (by omega) (fun v576 hv576 => ?_)
              refine r_iload_n (w_p1 (by decide) (Or.inr rfl) e535) ?_
              refine q_iadd (v576.toInt + x521.toInt) rfl (by omega) (fun v577 hv577 => ?_)
              refine r_iload (w_e1 _ _ _) ?_
              refine q_iast (Sh.arr hI573.1 ka_233) ((3 * a2.toInt + x521.toInt + 10)) (by omega) (by omega) ?_
              have hI578 := HI.ws hI573 (j := (3 * a2.toInt + x521.toInt + 10)) (v := v565) a2.toInt x521.toInt (by omega) (by omega) (by omega) (by omega)
              have hF579 := Fr.wA (p := 233) (j := (3 * a2.toInt + x521.toInt + 10)) (v := v565) hF574 rfl
              refine q_iinc (w_p1 (by decide) (Or.inr rfl) e535) (x521.toInt + 1) rfl (by omega) (fun v580 hv580 => ?_)
              refine r_goto ?_
              exact ih527 (3 - v580.toInt) _ _ ⟨v580, by first | rfl | omega, hI578, hF579, (((eA_sA_ne hI573.1 ka_233 (by first | decide | omega) (by first | decide | omega) (by first | decide | omega)).trans (eA_sA_ne hI523.1 ka_233 (by first | decide | omega) (by first | decide | omega) (by first | decide | omega))).trans e528), (((eA_sA_ne hI573.1 ka_233 (by first | decide | omega) (by first | decide | omega) (by first | decide | omega)).trans (eA_sA_ne hI523.1 ka_233 (by first | decide | omega) (by first | decide | omega) (by first | decide | omega))).trans e529), (((eA_sA_ne hI573.1 ka_233 (by first | decide | omega) (by first | decide | omega) (by first | decide | omega)).trans (eA_sA_ne hI523.1 ka_233 (by first | decide | omega) (by first | decide | omega) (by first | decide | omega))).trans e530), (((eA_sA_ne hI573.1 ka_233 (by first | decide | omega) (by first | decide | omega) (by first | decide | omega)).trans (eA_sA_ne hI523.1 ka_233 (by first | decide | omega) (by first | decide | omega) (by first | decide | omega))).trans e531), (w_p1 (by decide) (Or.inr rfl) (w_p1 (by decide) (Or.inr rfl) e532)), (w_p1 (by decide) (Or.inr rfl) (w_p1 (by decide) (Or.inr rfl) e533)), (w_p1 (by decide) (Or.inr rfl) (w_p1 (by decide) (Or.inr rfl) e534)), (w_e1 _ _ _), by omega, (by intro i i0 i1; exact (Decidable.em (10 + 3 * a1.toInt + 1 ≤ i ∧ i < 10 + 3 * a1.toInt + v580.toInt)).elim (fun k145_ => by refine Eq.trans ?_ (if_pos k145_).symm; exact (Decidable.em (i = (3 * a2.toInt + x521.toInt + 10))).elim (fun k146_ => by refine (eA_eqT hI573.1 ka_233 k146_ (by first | decide | omega) (by first | decide | omega)).trans ?_; (first | (rfl) | (omega) | (refine (congrArg Int32.toInt hv565).symm.trans ?_; refine ((q537 ((3 * a1.toInt + x521.toInt + 10)) (by omega) (by omega))).trans ?_; exact (Decidable.em (10 + 3 * a1.toInt + 1 ≤ ((3 * a1.toInt + x521.toInt + 10)) ∧ ((3 * a1.toInt + x521.toInt + 10)) < 10 + 3 * a1.toInt + x521.toInt)).elim (fun k147_ => by refine (if_pos k147_).trans ?_; (first | rfl | exact eA_ix (by omega) | omega)) (fun k147_ => by refine (if_neg k147_).trans ?_; exact (Decidable.em (10 + 3 * a2.toInt + 1 ≤ ((3 * a1.toInt + x521.toInt + 10)) ∧ ((3 * a1.toInt + x521.toInt + 10)) < 10 + 3 * a2.toInt + x521.toInt)).elim (fun k148_ => by refine (if_pos k148_).trans ?_; (first | rfl | exact eA_ix (by omega) | omega)) (fun k148_ => by refine (if_neg k148_).trans ?_; (first | rfl | exact eA_ix (by omega) | omega)))))) (fun k146_ => by refine (eA_neT hI573.1 ka_233 k146_ (by first | decide | omega) (by omega)).trans ?_; exact (Decidable.em (i = (3 * a1.toInt + x521.toInt + 10))).elim (fun k149_ => by refine (eA_eqT hI523.1 ka_233 k149_ (by first | decide | omega) (by first | decide | omega)).trans ?_; (first | (rfl) | (omega) | (refine (congrArg Int32.toInt hv572).symm.trans ?_; refine ((q537 ((3 * a2.toInt + x521.toInt + 10)) (by omega) (by omega))).trans ?_; exact (Decidable.em (10 + 3 * a1.toInt + 1 ≤ ((3 * a2.toInt + x521.toInt + 10)) ∧ ((3 * a2.toInt + x521.toInt + 10)) < 10 + 3 * a1.toInt + x521.toInt)).elim (fun k150_ => by refine (if_pos k150_).trans ?_; (first | rfl | exact eA_ix (by omega) | omega)) (fun k150_ => by refine (if_neg k150_).trans ?_; exact (Decidable.em (10 + 3 * a2.toInt + 1 ≤ ((3 * a2.toInt + x521.toInt + 10)) ∧ ((3 * a2.toInt + x521.toInt + 10)) < 10 + 3 * a2.toInt + x521.toInt)).elim (fun k151_ => by refine (if_pos k151_).trans ?_; (first | rfl | exact eA_ix (by omega) | omega)) (fun k151_ => by refine (if_neg k151_).trans ?_; (first | rfl | exact eA_ix (by omega) | omega)))))) (fun k149_ => by refine (eA_neT hI523.1 ka_233 k149_ (by first | decide | omega) (by omega)).trans ?_; refine ((q537 (i) (by omega) (by omega))).trans ?_; exact (Decidable.em (10 + 3 * a1.toInt + 1 ≤ (i) ∧ (i) < 10 + 3 * a1.toInt + x521.toInt)).elim (fun k152_ => by refine (if_pos k152_).trans ?_; (first | rfl | exact eA_ix (by omega) | omega)) (fun k152_ => by refine (if_neg k152_).trans ?_; exact (Decidable.em (10 + 3 * a2.toInt + 1 ≤ (i) ∧ (i) < 10 + 3 * a2.toInt + x521.toInt)).elim (fun k153_ => by refine (if_pos k153_).trans ?_; (first | rfl | exact eA_ix (by omega) | omega)) (fun k153_ => by refine (if_neg k153_).trans ?_; (first | rfl | exact eA_ix (by omega) | omega)))))) (fun k145_ => by refine Eq.trans ?_ (if_neg k145_).symm; exact (Decidable.em (10 + 3 * a2.toInt + 1 ≤ i ∧ i < 10 + 3 * a2.toInt + v580.toInt)).elim (fun k154_ => by refine Eq.trans ?_ (if_pos k154_).symm; exact (Decidable.em (i = (3 * a2.toInt + x521.toInt + 10))).elim (fun k155_ => by refine (eA_eqT hI573.1 ka_233 k155_ (by first | decide | omega) (by first | decide | omega)).trans ?_; (first | (rfl) | (omega) | (refine (congrArg Int32.toInt hv565).symm.trans ?_; refine ((q537 ((3 * a1.toInt + x521.toInt + 10)) (by omega) (by omega))).trans ?_; exact (Decidable.em (10 + 3 * a1.toInt + 1 ≤ ((3 * a1.toInt + x521.toInt + 10)) ∧ ((3 * a1.toInt + x521.toInt + 10)) < 10 + 3 * a1.toInt + x521.toInt)).elim (fun k156_ => by refine (if_pos k156_).trans ?_; (first | rfl | exact eA_ix (by omega) | omega)) (fun k156_ => by refine (if_neg k156_).trans ?_; exact (Decidable.em (10 + 3 * a2.toInt + 1 ≤ ((3 * a1.toInt + x521.toInt + 10)) ∧ ((3 * a1.toInt + x521.toInt + 10)) < 10 + 3 * a2.toInt + x521.toInt)).elim (fun k157_ => by refine (if_pos k157_).trans ?_; (first | rfl | exact eA_ix (by omega) | omega)) (fun k157_ => by refine (if_neg k157_).trans ?_; (first | rfl | exact eA_ix (by omega) | omega)))))) (fun k155_ => by refine (eA_neT hI573.1 ka_233 k155_ (by first | decide | omega) (by omega)).trans ?_; exact (Decidable.em (i = (3 * a1.toInt + x521.toInt + 10))).elim (fun k158_ => by refine (eA_eqT hI523.1 ka_233 k158_ (by first | decide | omega) (by first | decide | omega)).trans ?_; (first | (rfl) | (omega) | (refine (congrArg Int32.toInt hv572).symm.trans ?_; refine ((q537 ((3 * a2.toInt + x521.toInt + 10)) (by omega) (by omega))).trans ?_; exact (Decidable.em (10 + 3 * a1.toInt + 1 ≤ ((3 * a2.toInt + x521.toInt + 10)) ∧ ((3 * a2.toInt + x521.toInt + 10)) < 10 + 3 * a1.toInt + x521.toInt)).elim (fun k159_ => by refine (if_pos k159_).trans ?_; (first | rfl | exact eA_ix (by omega) | omega)) (fun k159_ => by refine (if_neg k159_).trans ?_; exact (Decidable.em (10 + 3 * a2.toInt + 1 ≤ ((3 * a2.toInt + x521.toInt + 10)) ∧ ((3 * a2.toInt + x521.toInt + 10)) < 10 + 3 * a2.toInt + x521.toInt)).elim (fun k160_ => by refine (if_pos k160_).trans ?_; (first | rfl | exact eA_ix (by omega) | omega)) (fun k160_ => by refine (if_neg k160_).trans ?_; (first | rfl | exact eA_ix (by omega) | omega)))))) (fun k158_ => by refine (eA_neT hI523.1 ka_233 k158_ (by first | decide | omega) (by omega)).trans ?_; refine ((q537 (i) (by omega) (by omega))).trans ?_; exact (Decidable.em (10 + 3 * a1.toInt + 1 ≤ (i) ∧ (i) < 10 + 3 * a1.toInt + x521.toInt)).elim (fun k161_ => by refine (if_pos k161_).trans ?_; (first | rfl | exact eA_ix (by omega) | omega)) (fun k161_ => by refine (if_neg k161_).trans ?_; exact (Decidable.em (10 + 3 * a2.toInt + 1 ≤ (i) ∧ (i) < 10 + 3 * a2.toInt + x521.toInt)).elim (fun k162_ => by refine (if_pos k162_).trans ?_; (first | rfl | exact eA_ix (by omega) | omega)) (fun k162_ => by refine (if_neg k162_).trans ?_; (first | rfl | exact eA_ix (by omega) | omega)))))) (fun k154_ => by refine Eq.trans ?_ (if_neg k154_).symm; exact (Decidable.em (i = (3 * a2.toInt + x521.toInt + 10))).elim (fun k163_ => by refine (eA_eqT hI573.1 ka_233 k163_ (by first | decide | omega) (by first | decide | omega)).trans ?_; (first | (rfl) | (omega) | (refine (congrArg Int32.toInt hv565).symm.trans ?_; refine ((q537 ((3 * a1.toInt + x521.toInt + 10)) (by omega) (by omega))).trans ?_; exact (Decidable.em (10 + 3 * a1.toInt + 1 ≤ ((3 * a1.toInt + x521.toInt + 10)) ∧ ((3 * a1.toInt + x521.toInt + 10)) < 10 + 3 * a1.toInt + x521.toInt)).elim (fun k164_ => by refine (if_pos k164_).trans ?_; (first | rfl | exact eA_ix (by omega) | omega)) (fun k164_ => by refine (if_neg k164_).trans ?_; exact (Decidable.em (10 + 3 * a2.toInt + 1 ≤ ((3 * a1.toInt + x521.toInt + 10)) ∧ ((3 * a1.toInt + x521.toInt + 10)) < 10 + 3 * a2.toInt + x521.toInt)).elim (fun k165_ => by refine (if_pos k165_).trans ?_; (first | rfl | exact eA_ix (by omega) | omega)) (fun k165_ => by refine (if_neg k165_).trans ?_; (first | rfl | exact eA_ix (by omega) | omega)))))) (fun k163_ => by refine (eA_neT hI573.1 ka_233 k163_ (by first | decide | omega) (by omega)).trans ?_; exact (Decidable.em (i = (3 * a1.toInt + x521.toInt + 10))).elim (fun k166_ => by refine (eA_eqT hI523.1 ka_233 k166_ (by first | decide | omega) (by first | decide | omega)).trans ?_; (first | (rfl) | (omega) | (refine (congrArg Int32.toInt hv572).symm.trans ?_; refine ((q537 ((3 * a2.toInt + x521.toInt + 10)) (by omega) (by omega))).trans ?_; exact (Decidable.em (10 + 3 * a1.toInt + 1 ≤ ((3 * a2.toInt + x521.toInt + 10)) ∧ ((3 * a2.toInt + x521.toInt + 10)) < 10 + 3 * a1.toInt + x521.toInt)).elim (fun k167_ => by refine (if_pos k167_).trans ?_; (first | rfl | exact eA_ix (by omega) | omega)) (fun k167_ => by refine (if_neg k167_).trans ?_; exact (Decidable.em (10 + 3 * a2.toInt + 1 ≤ ((3 * a2.toInt + x521.toInt + 10)) ∧ ((3 * a2.toInt + x521.toInt + 10)) < 10 + 3 * a2.toInt + x521.toInt)).elim (fun k168_ => by refine (if_pos k168_).trans ?_; (first | rfl | exact eA_ix (by omega) | omega)) (fun k168_ => by refine (if_neg k168_).trans ?_; (first | rfl | exact eA_ix (by omega) | omega)))))) (fun k166_ => by refine (eA_neT hI523.1 ka_233 k166_ (by first | decide | omega) (by omega)).trans ?_; refine ((q537 (i) (by omega) (by omega))).trans ?_; exact (Decidable.em (10 + 3 * a1.toInt + 1 ≤ (i) ∧ (i) < 10 + 3 * a1.toInt + x521.toInt)).elim (fun k169_ => by refine (if_pos k169_).trans ?_; (first | rfl | exact eA_ix (by omega) | omega)) (fun k169_ => by refine (if_neg k169_).trans ?_; exact (Decidable.em (10 + 3 * a2.toInt + 1 ≤ (i) ∧ (i) < 10 + 3 * a2.toInt + x521.toInt)).elim (fun k170_ => by refine (if_pos k170_).trans ?_; (first | rfl | exact eA_ix (by omega) | omega)) (fun k170_ => by refine (if_neg k170_).trans ?_; (first | rfl | exact eA_ix (by omega) | omega))))))))⟩ ⟨by omega, by omega⟩
          · have c444_ : a1.toInt = a2.toInt := en_i_ne_f c444
            refine At.enter rfl ?_
            refine r_aload_n rfl ?_
            refine r_bipush (-3) rfl ?_
            refine r_callV 39 rfl [.ref 231, .int (-3)] [] (Nat.le_of_ble_eq_true rfl) rfl (T_X11_tell_231 _ hI351 (-3) (by decide)) ?_
            rintro _ _ ⟨g581, rfl, hI582, hF583, v584, rfl, hr585⟩
            refine At.sti ?_
            have hF586 := Fr.tr hF352 hF583 rfl rfl
            have zv587 : ((-3) : Int32).toInt = (-3) := rfl
            refine At.enter rfl ?_
            refine r_ireti ?_
            have x588 := HI.eqA hI582 (p := 233) (j := 0) ((((eA_c (hF583.2.1 233 (by decide))).trans (eA_c gA_sI)).trans hv354))
            obtain ⟨v589, hv589⟩ : ∃ v, eA g0 233 4 = v := ⟨_, rfl⟩
            have wv589 := HI.t4 hI0
            rw [hv589] at wv589
            have tv589 := congrArg Int32.toInt hv589
            have x590 := HI.eqA hI582 (p := 233) (j := 4) ((((eA_c (hF583.2.1 233 (by decide))).trans (eA_c gA_sI)).trans hv589))
            obtain ⟨v591, hv591⟩ : ∃ v, eA g0 233 5 = v := ⟨_, rfl⟩
            have wv591 := HI.t5 hI0
            rw [hv591] at wv591
            have tv591 := congrArg Int32.toInt hv591
            have x592 := HI.eqA hI582 (p := 233) (j := 5) ((((eA_c (hF583.2.1 233 (by decide))).trans (eA_c gA_sI)).trans hv591))
            obtain ⟨v593, hv593⟩ : ∃ v, eA g0 233 6 = v := ⟨_, rfl⟩
            have wv593 := HI.t6 hI0
            rw [hv593] at wv593
            have tv593 := congrArg Int32.toInt hv593
            have x594 := HI.eqA hI582 (p := 233) (j := 6) ((((eA_c (hF583.2.1 233 (by decide))).trans (eA_c gA_sI)).trans hv593))
            have x595 := HI.eqA hI0 (p := 233) (j := 0) (hv354)
            have x596 := HI.eqA hI0 (p := 233) (j := 0) (hv354)
            have x597 := HI.eqA hI0 (p := 233) (j := 4) (hv589)
            have x598 := HI.eqA hI0 (p := 233) (j := 5) (hv591)
            have x599 := HI.eqA hI0 (p := 233) (j := 6) (hv593)
            have x600 := HI.eqA hI0 (p := 233) (j := 0) (hv354)
            exact ⟨_, rfl, hI582, hF586, _, rfl, by omega, ⟨⟨by omega, by omega, by omega, by omega, by omega⟩, (by intro i i0 i1; refine Eq.trans ?_ (if_neg (show ¬ ((0 ≤ a1.toInt ∧ a1.toInt < (eA g0 233 0).toInt ∧ 0 ≤ a2.toInt ∧ a2.toInt < (eA g0 233 0).toInt ∧ a1.toInt ≠ a2.toInt) ∧ i = 10 + 3 * a1.toInt + 1) from by omega)).symm; refine Eq.trans ?_ (if_neg (show ¬ ((0 ≤ a1.toInt ∧ a1.toInt < (eA g0 233 0).toInt ∧ 0 ≤ a2.toInt ∧ a2.toInt < (eA g0 233 0).toInt ∧ a1.toInt ≠ a2.toInt) ∧ i = 10 + 3 * a1.toInt + 2) from by omega)).symm; refine Eq.trans ?_ (if_neg (show ¬ ((0 ≤ a1.toInt ∧ a1.toInt < (eA g0 233 0).toInt ∧ 0 ≤ a2.toInt ∧ a2.toInt < (eA g0 233 0).toInt ∧ a1.toInt ≠ a2.toInt) ∧ i = 10 + 3 * a2.toInt + 1) from by omega)).symm; refine Eq.trans ?_ (if_neg (show ¬ ((0 ≤ a1.toInt ∧ a1.toInt < (eA g0 233 0).toInt ∧ 0 ≤ a2.toInt ∧ a2.toInt < (eA g0 233 0).toInt ∧ a1.toInt ≠ a2.toInt) ∧ i = 10 + 3 * a2.toInt + 2) from by omega)).symm; refine (eA_ti (((hF583.2.1 233 (by decide)).trans (gA_sI)))).trans ?_; (first | rfl | exact eA_ix (by omega) | omega))⟩⟩
