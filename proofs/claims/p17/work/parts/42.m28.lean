def F_X11_swap_231 : List (Nat × Nat) := [(231, 0), (231, 1)]
def A_X11_swap_231 : List Nat := [232, 233]
set_option maxRecDepth 100000 in
set_option maxHeartbeats 4000000 in
theorem T_X11_swap_231 (d : Nat) {N : Nat} {g0 : List en_E} (hI0 : HI g0) (a1 : Int32) (a2 : Int32) : Ev (d + 3) 240 [.ref 231, .int a1, .int a2] (g0, N) (fun w h' => ∃ g', h' = (g', N) ∧ HI g' ∧ Fr F_X11_swap_231 A_X11_swap_231 g0 g' ∧ ∃ r : Int32, w = some (.int r) ∧ ((-3) ≤ r.toInt ∧ r.toInt ≤ 0) ∧ ((((¬ (0 ≤ a1.toInt ∧ a1.toInt < (eA g0 233 0).toInt ∧ 0 ≤ a2.toInt ∧ a2.toInt < (eA g0 233 0).toInt) → r.toInt = -2) ∧ ((0 ≤ a1.toInt ∧ a1.toInt < (eA g0 233 0).toInt ∧ 0 ≤ a2.toInt ∧ a2.toInt < (eA g0 233 0).toInt) ∧ a1.toInt = a2.toInt → r.toInt = -3) ∧ ((0 ≤ a1.toInt ∧ a1.toInt < (eA g0 233 0).toInt ∧ 0 ≤ a2.toInt ∧ a2.toInt < (eA g0 233 0).toInt) ∧ a1.toInt ≠ a2.toInt → r.toInt = 0)) ∧ (eA g' 233 0).toInt = (eA g0 233 0).toInt ∧ (eA g' 233 4).toInt = (eA g0 233 4).toInt ∧ (eA g' 233 5).toInt = (eA g0 233 5).toInt ∧ (eA g' 233 6).toInt = (eA g0 233 6).toInt ∧ (eA g' 233 1).toInt = (eA g0 233 1).toInt) ∧ (∀ i : Int, 10 ≤ i → i < 110 → (eA g' 233 (i)).toInt = if (0 ≤ a1.toInt ∧ a1.toInt < (eA g0 233 0).toInt ∧ 0 ≤ a2.toInt ∧ a2.toInt < (eA g0 233 0).toInt ∧ a1.toInt ≠ a2.toInt) ∧ i = 10 + 3 * a1.toInt + 1 then (eA g0 233 (10 + 3 * a2.toInt + 1)).toInt else if (0 ≤ a1.toInt ∧ a1.toInt < (eA g0 233 0).toInt ∧ 0 ≤ a2.toInt ∧ a2.toInt < (eA g0 233 0).toInt ∧ a1.toInt ≠ a2.toInt) ∧ i = 10 + 3 * a1.toInt + 2 then (eA g0 233 (10 + 3 * a2.toInt + 2)).toInt else if (0 ≤ a1.toInt ∧ a1.toInt < (eA g0 233 0).toInt ∧ 0 ≤ a2.toInt ∧ a2.toInt < (eA g0 233 0).toInt ∧ a1.toInt ≠ a2.toInt) ∧ i = 10 + 3 * a2.toInt + 1 then (eA g0 233 (10 + 3 * a1.toInt + 1)).toInt else if (0 ≤ a1.toInt ∧ a1.toInt < (eA g0 233 0).toInt ∧ 0 ≤ a2.toInt ∧ a2.toInt < (eA g0 233 0).toInt ∧ a1.toInt ≠ a2.toInt) ∧ i = 10 + 3 * a2.toInt + 2 then (eA g0 233 (10 + 3 * a1.toInt + 2)).toInt else (eA g0 233 (i)).toInt))) := by
  have hF0 : Fr F_X11_swap_231 A_X11_swap_231 g0 g0 := Fr.rf
  refine Ev.mk rfl rfl ⟨Nat.le_of_ble_eq_true rfl, Or.inr (q_rc hI0.1 kx_231 rfl)⟩ ?_
  show At _ none _ _ (0, [(0, .ref 231), (1, .int a1), (2, .int a2)], [], (_, _)) _
  refine At.enter rfl ?_
  refine r_aload_n rfl ?_
  refine r_iconst 0 rfl ?_
  refine q_putI (Sh.int hI0.1 kx_231 rfl) rfl ?_
  have hI357 := HI.wI0 hI0 kx_231 rfl (p := 231) (b := 0) (v := 0) rfl
  have hF358 := Fr.wI (p := 231) (b := 0) (v := 0) hF0 rfl
  refine r_aload_n rfl ?_
  refine r_iload_n rfl ?_
  refine q_inlV 10 rfl [.ref 231, .int a1] [] (Nat.le_of_ble_eq_true rfl) rfl ?_
  refine Ev.mk rfl rfl ⟨Nat.le_of_ble_eq_true rfl, Or.inr (q_rc hI357.1 kx_231 rfl)⟩ ?_
  show At _ none _ _ (0, [(0, .ref 231), (1, .int a1)], [], (_, _)) _
  refine At.enter rfl ?_
  refine r_iload_n rfl ?_
  refine q_i2l (fun v359 hv359 => ?_)
  refine r_lconst 0 rfl ?_
  refine r_aload_n rfl ?_
  refine q_getR (Sh.ref hI357.1 kx_231 rfl) ?_
  refine r_iconst 0 rfl ?_
  obtain ⟨v360, hv360⟩ : ∃ v, eA g0 233 0 = v := ⟨_, rfl⟩
  have tv360 := congrArg Int32.toInt hv360
  have wv360 := HI.t0 hI0
  rw [hv360] at wv360
  refine q_iald (Sh.arr hI357.1 ka_233) 0 rfl (by decide) v360 ((eA_c (gA_sI)).trans hv360) ?_
  refine q_i2l (fun v361 hv361 => ?_)
  refine r_lconst 1 rfl ?_
  refine q_lsub (v361.toInt - 1) rfl (by omega) (fun v362 hv362 => ?_)
  refine q_inlS 15 rfl [.long v359, .long 0, .long v362] [] (Nat.le_of_ble_eq_true rfl) rfl ?_
  refine Ev.mk rfl rfl ⟨Nat.le_of_ble_eq_true rfl, Or.inl rfl⟩ ?_
  show At _ none _ _ (0, [(0, .long v359), (2, .long 0), (4, .long v362)], [], (_, _)) _
  refine At.enter rfl ?_
  refine r_lload_n rfl ?_
  refine r_lload_n rfl ?_
  refine r_lcmp _ rfl ?_
  refine r_ifs 6 rfl (fun c363 => ?_) (fun c363 => ?_)
  · have c363_ : v359.toInt < 0 := en_j_lt_t c363
    refine At.enter rfl ?_
    refine r_iconst 0 rfl ?_
    refine Ar.fall 18 rfl ?_
    refine At.enter rfl ?_
    refine q_iretz (by decide) ?_
    refine At.enter rfl ?_
    refine q_iretz (by decide) ?_
    refine At.enter rfl ?_
    refine r_ift (by decide) ?_
    refine At.enter rfl ?_
    refine r_aload_n rfl ?_
    refine r_bipush (-2) rfl ?_
    refine r_callV 27 rfl [.ref 231, .int (-2)] [] (Nat.le_of_ble_eq_true rfl) rfl (T_X11_tell_231 _ hI357 (-2) (by decide)) ?_
    rintro _ _ ⟨g364, rfl, hI365, hF366, v367, rfl, hr368⟩
    refine At.sti ?_
    have hF369 := Fr.tr hF358 hF366 rfl rfl
    have zv370 : ((-2) : Int32).toInt = (-2) := rfl
    refine At.enter rfl ?_
    refine r_ireti ?_
    have x371 := HI.eqA hI365 (p := 233) (j := 0) ((((eA_c (hF366.2.1 233 (by decide))).trans (eA_c gA_sI)).trans hv360))
    obtain ⟨v372, hv372⟩ : ∃ v, eA g0 233 4 = v := ⟨_, rfl⟩
    have wv372 := HI.t4 hI0
    rw [hv372] at wv372
    have tv372 := congrArg Int32.toInt hv372
    have x373 := HI.eqA hI365 (p := 233) (j := 4) ((((eA_c (hF366.2.1 233 (by decide))).trans (eA_c gA_sI)).trans hv372))
    obtain ⟨v374, hv374⟩ : ∃ v, eA g0 233 5 = v := ⟨_, rfl⟩
    have wv374 := HI.t5 hI0
    rw [hv374] at wv374
    have tv374 := congrArg Int32.toInt hv374
    have x375 := HI.eqA hI365 (p := 233) (j := 5) ((((eA_c (hF366.2.1 233 (by decide))).trans (eA_c gA_sI)).trans hv374))
    obtain ⟨v376, hv376⟩ : ∃ v, eA g0 233 6 = v := ⟨_, rfl⟩
    have wv376 := HI.t6 hI0
    rw [hv376] at wv376
    have tv376 := congrArg Int32.toInt hv376
    have x377 := HI.eqA hI365 (p := 233) (j := 6) ((((eA_c (hF366.2.1 233 (by decide))).trans (eA_c gA_sI)).trans hv376))
    obtain ⟨v378, hv378⟩ : ∃ v, eA g0 233 1 = v := ⟨_, rfl⟩
    have tv378 := congrArg Int32.toInt hv378
    have wv378 := HI.t1 hI0
    rw [hv378] at wv378
    have tv378 := congrArg Int32.toInt hv378
    have x379 := HI.eqA hI365 (p := 233) (j := 1) ((((eA_c (hF366.2.1 233 (by decide))).trans (eA_c gA_sI)).trans hv378))
    have x380 := HI.eqA hI0 (p := 233) (j := 0) (hv360)
    have x381 := HI.eqA hI0 (p := 233) (j := 0) (hv360)
    have x382 := HI.eqA hI0 (p := 233) (j := 4) (hv372)
    have x383 := HI.eqA hI0 (p := 233) (j := 5) (hv374)
    have x384 := HI.eqA hI0 (p := 233) (j := 6) (hv376)
    have x385 := HI.eqA hI0 (p := 233) (j := 1) (hv378)
    have x386 := HI.eqA hI0 (p := 233) (j := 0) (hv360)
    exact ⟨_, rfl, hI365, hF369, _, rfl, by omega, ⟨⟨by omega, by omega, by omega, by omega, by omega, by omega⟩, (by intro i i0 i1; refine Eq.trans ?_ (if_neg (show ¬ ((0 ≤ a1.toInt ∧ a1.toInt < (eA g0 233 0).toInt ∧ 0 ≤ a2.toInt ∧ a2.toInt < (eA g0 233 0).toInt ∧ a1.toInt ≠ a2.toInt) ∧ i = 10 + 3 * a1.toInt + 1) from by omega)).symm; refine Eq.trans ?_ (if_neg (show ¬ ((0 ≤ a1.toInt ∧ a1.toInt < (eA g0 233 0).toInt ∧ 0 ≤ a2.toInt ∧ a2.toInt < (eA g0 233 0).toInt ∧ a1.toInt ≠ a2.toInt) ∧ i = 10 + 3 * a1.toInt + 2) from by omega)).symm; refine Eq.trans ?_ (if_neg (show ¬ ((0 ≤ a1.toInt ∧ a1.toInt < (eA g0 233 0).toInt ∧ 0 ≤ a2.toInt ∧ a2.toInt < (eA g0 233 0).toInt ∧ a1.toInt ≠ a2.toInt) ∧ i = 10 + 3 * a2.toInt + 1) from by omega)).symm; refine Eq.trans ?_ (if_neg (show ¬ ((0 ≤ a1.toInt ∧ a1.toInt < (eA g0 233 0).toInt ∧ 0 ≤ a2.toInt ∧ a2.toInt < (eA g0 233 0).toInt ∧ a1.toInt ≠ a2.toInt) ∧ i = 10 + 3 * a2.toInt + 2) from by omega)).symm; refine (eA_ti (((hF366.2.1 233 (by decide)).trans (gA_sI)))).trans ?_; (first | rfl | exact eA_ix (by omega) | omega))⟩⟩
  · have c363_ : v359.toInt ≥ 0 := en_j_lt_f c363
    refine At.enter rfl ?_
    refine r_lload_n rfl ?_
    refine r_lload rfl ?_
    refine r_lcmp _ rfl ?_
    refine r_ifs 13 rfl (fun c387 => ?_) (fun c387 => ?_)
    · have c387_ : v359.toInt > v362.toInt := en_j_gt_t c387
      refine At.enter rfl ?_
      refine r_iconst 0 rfl ?_
      refine Ar.fall 18 rfl ?_
      refine At.enter rfl ?_
      refine q_iretz (by decide) ?_
      refine At.enter rfl ?_
      refine q_iretz (by decide) ?_
      refine At.enter rfl ?_
      refine r_ift (by decide) ?_
      refine At.enter rfl ?_
      refine r_aload_n rfl ?_
      refine r_bipush (-2) rfl ?_
      refine r_callV 27 rfl [.ref 231, .int (-2)] [] (Nat.le_of_ble_eq_true rfl) rfl (T_X11_tell_231 _ hI357 (-2) (by decide)) ?_
      rintro _ _ ⟨g388, rfl, hI389, hF390, v391, rfl, hr392⟩
      refine At.sti ?_
      have hF393 := Fr.tr hF358 hF390 rfl rfl
      have zv394 : ((-2) : Int32).toInt = (-2) := rfl
      refine At.enter rfl ?_
      refine r_ireti ?_
      have x395 := HI.eqA hI389 (p := 233) (j := 0) ((((eA_c (hF390.2.1 233 (by decide))).trans (eA_c gA_sI)).trans hv360))
      obtain ⟨v396, hv396⟩ : ∃ v, eA g0 233 4 = v := ⟨_, rfl⟩
      have wv396 := HI.t4 hI0
      rw [hv396] at wv396
      have tv396 := congrArg Int32.toInt hv396
      have x397 := HI.eqA hI389 (p := 233) (j := 4) ((((eA_c (hF390.2.1 233 (by decide))).trans (eA_c gA_sI)).trans hv396))
      obtain ⟨v398, hv398⟩ : ∃ v, eA g0 233 5 = v := ⟨_, rfl⟩
      have wv398 := HI.t5 hI0
      rw [hv398] at wv398
      have tv398 := congrArg Int32.toInt hv398
      have x399 := HI.eqA hI389 (p := 233) (j := 5) ((((eA_c (hF390.2.1 233 (by decide))).trans (eA_c gA_sI)).trans hv398))
      obtain ⟨v400, hv400⟩ : ∃ v, eA g0 233 6 = v := ⟨_, rfl⟩
      have wv400 := HI.t6 hI0
      rw [hv400] at wv400
      have tv400 := congrArg Int32.toInt hv400
      have x401 := HI.eqA hI389 (p := 233) (j := 6) ((((eA_c (hF390.2.1 233 (by decide))).trans (eA_c gA_sI)).trans hv400))
      obtain ⟨v402, hv402⟩ : ∃ v, eA g0 233 1 = v := ⟨_, rfl⟩
      have tv402 := congrArg Int32.toInt hv402
      have wv402 := HI.t1 hI0
      rw [hv402] at wv402
      have tv402 := congrArg Int32.toInt hv402
      have x403 := HI.eqA hI389 (p := 233) (j := 1) ((((eA_c (hF390.2.1 233 (by decide))).trans (eA_c gA_sI)).trans hv402))
      have x404 := HI.eqA hI0 (p := 233) (j := 0) (hv360)
      have x405 := HI.eqA hI0 (p := 233) (j := 0) (hv360)
      have x406 := HI.eqA hI0 (p := 233) (j := 4) (hv396)
      have x407 := HI.eqA hI0 (p := 233) (j := 5) (hv398)
      have x408 := HI.eqA hI0 (p := 233) (j := 6) (hv400)
      have x409 := HI.eqA hI0 (p := 233) (j := 1) (hv402)
      have x410 := HI.eqA hI0 (p := 233) (j := 0) (hv360)
      exact ⟨_, rfl, hI389, hF393, _, rfl, by omega, ⟨⟨by omega, by omega, by omega, by omega, by omega, by omega⟩, (by intro i i0 i1; refine Eq.trans ?_ (if_neg (show ¬ ((0 ≤ a1.toInt ∧ a1.toInt < (eA g0 233 0).toInt ∧ 0 ≤ a2.toInt ∧ a2.toInt < (eA g0 233 0).toInt ∧ a1.toInt ≠ a2.toInt) ∧ i = 10 + 3 * a1.toInt + 1) from by omega)).symm; refine Eq.trans ?_ (if_neg (show ¬ ((0 ≤ a1.toInt ∧ a1.toInt < (eA g0 233 0).toInt ∧ 0 ≤ a2.toInt ∧ a2.toInt < (eA g0 233 0).toInt ∧ a1.toInt ≠ a2.toInt) ∧ i = 10 + 3 * a1.toInt + 2) from by omega)).symm; refine Eq.trans ?_ (if_neg (show ¬ ((0 ≤ a1.toInt ∧ a1.toInt < (eA g0 233 0).toInt ∧ 0 ≤ a2.toInt ∧ a2.toInt < (eA g0 233 0).toInt ∧ a1.toInt ≠ a2.toInt) ∧ i = 10 + 3 * a2.toInt + 1) from by omega)).symm; refine Eq.trans ?_ (if_neg (show ¬ ((0 ≤ a1.toInt ∧ a1.toInt < (eA g0 233 0).toInt ∧ 0 ≤ a2.toInt ∧ a2.toInt < (eA g0 233 0).toInt ∧ a1.toInt ≠ a2.toInt) ∧ i = 10 + 3 * a2.toInt + 2) from by omega)).symm; refine (eA_ti (((hF390.2.1 233 (by decide)).trans (gA_sI)))).trans ?_; (first | rfl | exact eA_ix (by omega) | omega))⟩⟩
    · have c387_ : v359.toInt ≤ v362.toInt := en_j_gt_f c387
      refine At.enter rfl ?_
      refine r_iconst 1 rfl ?_
      refine r_goto ?_
      refine At.enter rfl ?_
      refine q_iretz (by decide) ?_
      refine At.enter rfl ?_
      refine q_iretz (by decide) ?_
      refine At.enter rfl ?_
      refine r_iff 13 rfl (by decide) ?_
      refine At.enter rfl ?_
      refine r_aload_n rfl ?_
      refine r_iload_n rfl ?_
      refine q_inlV 18 rfl [.ref 231, .int a2] [] (Nat.le_of_ble_eq_true rfl) rfl ?_
      refine Ev.mk rfl rfl ⟨Nat.le_of_ble_eq_true rfl, Or.inr (q_rc hI357.1 kx_231 rfl)⟩ ?_
      show At _ none _ _ (0, [(0, .ref 231), (1, .int a2)], [], (_, _)) _
      refine At.enter rfl ?_
      refine r_iload_n rfl ?_
      refine q_i2l (fun v411 hv411 => ?_)
      refine r_lconst 0 rfl ?_
      refine r_aload_n rfl ?_
      refine q_getR (Sh.ref hI357.1 kx_231 rfl) ?_
      refine r_iconst 0 rfl ?_
      refine q_iald (Sh.arr hI357.1 ka_233) 0 rfl (by decide) v360 ((eA_c (gA_sI)).trans hv360) ?_
      refine q_i2l (fun v412 hv412 => ?_)
      refine r_lconst 1 rfl ?_
      refine q_lsub (v412.toInt - 1) rfl (by omega) (fun v413 hv413 => ?_)
      refine q_inlS 15 rfl [.long v411, .long 0, .long v413] [] (Nat.le_of_ble_eq_true rfl) rfl ?_
      refine Ev.mk rfl rfl ⟨Nat.le_of_ble_eq_true rfl, Or.inl rfl⟩ ?_
      show At _ none _ _ (0, [(0, .long v411), (2, .long 0), (4, .long v413)], [], (_, _)) _
      refine At.enter rfl ?_
      refine r_lload_n rfl ?_
      refine r_lload_n rfl ?_
      refine r_lcmp _ rfl ?_
      refine r_ifs 6 rfl (fun c414 => ?_) (fun c414 => ?_)
      · have c414_ : v411.toInt < 0 := en_j_lt_t c414
        refine At.enter rfl ?_
        refine r_iconst 0 rfl ?_
        refine Ar.fall 18 rfl ?_
        refine At.enter rfl ?_
        refine q_iretz (by decide) ?_
        refine At.enter rfl ?_
        refine q_iretz (by decide) ?_
        refine At.enter rfl ?_
        refine r_iff 21 rfl (by decide) ?_
        refine At.enter rfl ?_
        refine r_aload_n rfl ?_
        refine r_bipush (-2) rfl ?_
        refine r_callV 27 rfl [.ref 231, .int (-2)] [] (Nat.le_of_ble_eq_true rfl) rfl (T_X11_tell_231 _ hI357 (-2) (by decide)) ?_
        rintro _ _ ⟨g415, rfl, hI416, hF417, v418, rfl, hr419⟩
        refine At.sti ?_
        have hF420 := Fr.tr hF358 hF417 rfl rfl
        have zv421 : ((-2) : Int32).toInt = (-2) := rfl
        refine At.enter rfl ?_
        refine r_ireti ?_
        have x422 := HI.eqA hI416 (p := 233) (j := 0) ((((eA_c (hF417.2.1 233 (by decide))).trans (eA_c gA_sI)).trans hv360))
        obtain ⟨v423, hv423⟩ : ∃ v, eA g0 233 4 = v := ⟨_, rfl⟩
        have wv423 := HI.t4 hI0
        rw [hv423] at wv423
        have tv423 := congrArg Int32.toInt hv423
        have x424 := HI.eqA hI416 (p := 233) (j := 4) ((((eA_c (hF417.2.1 233 (by decide))).trans (eA_c gA_sI)).trans hv423))
        obtain ⟨v425, hv425⟩ : ∃ v, eA g0 233 5 = v := ⟨_, rfl⟩
        have wv425 := HI.t5 hI0
        rw [hv425] at wv425
        have tv425 := congrArg Int32.toInt hv425
        have x426 := HI.eqA hI416 (p := 233) (j := 5) ((((eA_c (hF417.2.1 233 (by decide))).trans (eA_c gA_sI)).trans hv425))
        obtain ⟨v427, hv427⟩ : ∃ v, eA g0 233 6 = v := ⟨_, rfl⟩
        have wv427 := HI.t6 hI0
        rw [hv427] at wv427
        have tv427 := congrArg Int32.toInt hv427
        have x428 := HI.eqA hI416 (p := 233) (j := 6) ((((eA_c (hF417.2.1 233 (by decide))).trans (eA_c gA_sI)).trans hv427))
        obtain ⟨v429, hv429⟩ : ∃ v, eA g0 233 1 = v := ⟨_, rfl⟩
        have tv429 := congrArg Int32.toInt hv429
        have wv429 := HI.t1 hI0
        rw [hv429] at wv429
        have tv429 := congrArg Int32.toInt hv429
        have x430 := HI.eqA hI416 (p := 233) (j := 1) ((((eA_c (hF417.2.1 233 (by decide))).trans (eA_c gA_sI)).trans hv429))
        have x431 := HI.eqA hI0 (p := 233) (j := 0) (hv360)
        have x432 := HI.eqA hI0 (p := 233) (j := 0) (hv360)
        have x433 := HI.eqA hI0 (p := 233) (j := 4) (hv423)
        have x434 := HI.eqA hI0 (p := 233) (j := 5) (hv425)
        have x435 := HI.eqA hI0 (p := 233) (j := 6) (hv427)
        have x436 := HI.eqA hI0 (p := 233) (j := 1) (hv429)
        have x437 := HI.eqA hI0 (p := 233) (j := 0) (hv360)
        exact ⟨_, rfl, hI416, hF420, _, rfl, by omega, ⟨⟨by omega, by omega, by omega, by omega, by omega, by omega⟩, (by intro i i0 i1; refine Eq.trans ?_ (if_neg (show ¬ ((0 ≤ a1.toInt ∧ a1.toInt < (eA g0 233 0).toInt ∧ 0 ≤ a2.toInt ∧ a2.toInt < (eA g0 233 0).toInt ∧ a1.toInt ≠ a2.toInt) ∧ i = 10 + 3 * a1.toInt + 1) from by omega)).symm; refine Eq.trans ?_ (if_neg (show ¬ ((0 ≤ a1.toInt ∧ a1.toInt < (eA g0 233 0).toInt ∧ 0 ≤ a2.toInt ∧ a2.toInt < (eA g0 233 0).toInt ∧ a1.toInt ≠ a2.toInt) ∧ i = 10 + 3 * a1.toInt + 2) from by omega)).symm; refine Eq.trans ?_ (if_neg (show ¬ ((0 ≤ a1.toInt ∧ a1.toInt < (eA g0 233 0).toInt ∧ 0 ≤ a2.toInt ∧ a2.toInt < (eA g0 233 0).toInt ∧ a1.toInt ≠ a2.toInt) ∧ i = 10 + 3 * a2.toInt + 1) from by omega)).symm; refine Eq.trans ?_ (if_neg (show ¬ ((0 ≤ a1.toInt ∧ a1.toInt < (eA g0 233 0).toInt ∧ 0 ≤ a2.toInt ∧ a2.toInt < (eA g0 233 0).toInt ∧ a1.toInt ≠ a2.toInt) ∧ i = 10 + 3 * a2.toInt + 2) from by omega)).symm; refine (eA_ti (((hF417.2.1 233 (by decide)).trans (gA_sI)))).trans ?_; (first | rfl | exact eA_ix (by omega) | omega))⟩⟩
      · have c414_ : v411.toInt ≥ 0 := en_j_lt_f c414
        refine At.enter rfl ?_
        refine r_lload_n rfl ?_
        refine r_lload rfl ?_
        refine r_lcmp _ rfl ?_
        refine r_ifs 13 rfl (fun c438 => ?_) (fun c438 => ?_)
        · have c438_ : v411.toInt > v413.toInt := en_j_gt_t c438
          refine At.enter rfl ?_
          refine r_iconst 0 rfl ?_
          refine Ar.fall 18 rfl ?_
          refine At.enter rfl ?_
          refine q_iretz (by decide) ?_
          refine At.enter rfl ?_
          refine q_iretz (by decide) ?_
          refine At.enter rfl ?_
          refine r_iff 21 rfl (by decide) ?_
          refine At.enter rfl ?_
          refine r_aload_n rfl ?_
          refine r_bipush (-2) rfl ?_
          refine r_callV 27 rfl [.ref 231, .int (-2)] [] (Nat.le_of_ble_eq_true rfl) rfl (T_X11_tell_231 _ hI357 (-2) (by decide)) ?_
          rintro _ _ ⟨g439, rfl, hI440, hF441, v442, rfl, hr443⟩
          refine At.sti ?_
          have hF444 := Fr.tr hF358 hF441 rfl rfl
          have zv445 : ((-2) : Int32).toInt = (-2) := rfl
          refine At.enter rfl ?_
          refine r_ireti ?_
          have x446 := HI.eqA hI440 (p := 233) (j := 0) ((((eA_c (hF441.2.1 233 (by decide))).trans (eA_c gA_sI)).trans hv360))
          obtain ⟨v447, hv447⟩ : ∃ v, eA g0 233 4 = v := ⟨_, rfl⟩
          have wv447 := HI.t4 hI0
          rw [hv447] at wv447
          have tv447 := congrArg Int32.toInt hv447
          have x448 := HI.eqA hI440 (p := 233) (j := 4) ((((eA_c (hF441.2.1 233 (by decide))).trans (eA_c gA_sI)).trans hv447))
          obtain ⟨v449, hv449⟩ : ∃ v, eA g0 233 5 = v := ⟨_, rfl⟩
          have wv449 := HI.t5 hI0
          rw [hv449] at wv449
          have tv449 := congrArg Int32.toInt hv449
          have x450 := HI.eqA hI440 (p := 233) (j := 5) ((((eA_c (hF441.2.1 233 (by decide))).trans (eA_c gA_sI)).trans hv449))
          obtain ⟨v451, hv451⟩ : ∃ v, eA g0 233 6 = v := ⟨_, rfl⟩
          have wv451 := HI.t6 hI0
          rw [hv451] at wv451
          have tv451 := congrArg Int32.toInt hv451
          have x452 := HI.eqA hI440 (p := 233) (j := 6) ((((eA_c (hF441.2.1 233 (by decide))).trans (eA_c gA_sI)).trans hv451))
          obtain ⟨v453, hv453⟩ : ∃ v, eA g0 233 1 = v := ⟨_, rfl⟩
          have tv453 := congrArg Int32.toInt hv453
          have wv453 := HI.t1 hI0
          rw [hv453] at wv453
          have tv453 := congrArg Int32.toInt hv453
          have x454 := HI.eqA hI440 (p := 233) (j := 1) ((((eA_c (hF441.2.1 233 (by decide))).trans (eA_c gA_sI)).trans hv453))
          have x455 := HI.eqA hI0 (p := 233) (j := 0) (hv360)
          have x456 := HI.eqA hI0 (p := 233) (j := 0) (hv360)
          have x457 := HI.eqA hI0 (p := 233) (j := 4) (hv447)
          have x458 := HI.eqA hI0 (p := 233) (j := 5) (hv449)
          have x459 := HI.eqA hI0 (p := 233) (j := 6) (hv451)
          have x460 := HI.eqA hI0 (p := 233) (j := 1) (hv453)
          have x461 := HI.eqA hI0 (p := 233) (j := 0) (hv360)
          exact ⟨_, rfl, hI440, hF444, _, rfl, by omega, ⟨⟨by omega, by omega, by omega, by omega, by omega, by omega⟩, (by intro i i0 i1; refine Eq.trans ?_ (if_neg (show ¬ ((0 ≤ a1.toInt ∧ a1.toInt < (eA g0 233 0).toInt ∧ 0 ≤ a2.toInt ∧ a2.toInt < (eA g0 233 0).toInt ∧ a1.toInt ≠ a2.toInt) ∧ i = 10 + 3 * a1.toInt + 1) from by omega)).symm; refine Eq.trans ?_ (if_neg (show ¬ ((0 ≤ a1.toInt ∧ a1.toInt < (eA g0 233 0).toInt ∧ 0 ≤ a2.toInt ∧ a2.toInt < (eA g0 233 0).toInt ∧ a1.toInt ≠ a2.toInt) ∧ i = 10 + 3 * a1.toInt + 2) from by omega)).symm; refine Eq.trans ?_ (if_neg (show ¬ ((0 ≤ a1.toInt ∧ a1.toInt < (eA g0 233 0).toInt ∧ 0 ≤ a2.toInt ∧ a2.toInt < (eA g0 233 0).toInt ∧ a1.toInt ≠ a2.toInt) ∧ i = 10 + 3 * a2.toInt + 1) from by omega)).symm; refine Eq.trans ?_ (if_neg (show ¬ ((0 ≤ a1.toInt ∧ a1.toInt < (eA g0 233 0).toInt ∧ 0 ≤ a2.toInt ∧ a2.toInt < (eA g0 233 0).toInt ∧ a1.toInt ≠ a2.toInt) ∧ i = 10 + 3 * a2.toInt + 2) from by omega)).symm; refine (eA_ti (((hF441.2.1 233 (by decide)).trans (gA_sI)))).trans ?_; (first | rfl | exact eA_ix (by omega) | omega))⟩⟩
        · have c438_ : v411.toInt ≤ v413.toInt := en_j_gt_f c438
          refine At.enter rfl ?_
          refine r_iconst 1 rfl ?_
          refine r_goto ?_
          refine At.enter rfl ?_
          refine q_iretz (by decide) ?_
          refine At.enter rfl ?_
          refine q_iretz (by decide) ?_
          refine At.enter rfl ?_
          refine r_ift (by decide) ?_
          refine At.enter rfl ?_
          refine r_iload_n rfl ?_
          refine r_iload_n rfl ?_
          refine r_ics 33 rfl (fun c462 => ?_) (fun c462 => ?_)
          · have c462_ : a1.toInt ≠ a2.toInt := en_i_ne_t c462
            refine At.enter rfl ?_
            refine r_iconst 1 rfl ?_
            refine r_istore_n ([(3, .int 1), (0, .ref 231), (1, .int a1), (2, .int a2)]) rfl ?_
            refine Ar.fall 42 rfl ?_
            obtain ⟨v463, hv463⟩ : ∃ v, eA g0 233 4 = v := ⟨_, rfl⟩
            have wv463 := HI.t4 hI0
            rw [hv463] at wv463
            have tv463 := congrArg Int32.toInt hv463
            obtain ⟨v464, hv464⟩ : ∃ v, eA g0 233 5 = v := ⟨_, rfl⟩
            have wv464 := HI.t5 hI0
            rw [hv464] at wv464
            have tv464 := congrArg Int32.toInt hv464
            obtain ⟨v465, hv465⟩ : ∃ v, eA g0 233 6 = v := ⟨_, rfl⟩
            have wv465 := HI.t6 hI0
            rw [hv465] at wv465
            have tv465 := congrArg Int32.toInt hv465
            obtain ⟨v466, hv466⟩ : ∃ v, eA g0 233 1 = v := ⟨_, rfl⟩
            have tv466 := congrArg Int32.toInt hv466
            have wv466 := HI.t1 hI0
            rw [hv466] at wv466
            have tv466 := congrArg Int32.toInt hv466
            have z_558 : (1 : Int32).toInt = 1 := rfl
            refine w_loopI (fun n_ l_ g_ => ∃ x540 : Int32, n_ = 3 - x540.toInt ∧ HI g_ ∧ Fr F_X11_swap_231 A_X11_swap_231 g0 g_ ∧ eA g_ 233 0 = v360 ∧ eA g_ 233 4 = v463 ∧ eA g_ 233 5 = v464 ∧ eA g_ 233 6 = v465 ∧ eA g_ 233 1 = v466 ∧ en_get 0 l_ = some (.ref 231) ∧ en_get 1 l_ = some (.int a1) ∧ en_get 2 l_ = some (.int a2) ∧ en_get 3 l_ = some (.int x540) ∧ (1 ≤ x540.toInt ∧ x540.toInt ≤ 3) ∧ (∀ i : Int, 10 ≤ i → i < 110 → (eA g_ 233 (i)).toInt = if 10 + 3 * a1.toInt + 1 ≤ i ∧ i < 10 + 3 * a1.toInt + x540.toInt then (eA g0 233 (i + 3 * a2.toInt - 3 * a1.toInt)).toInt else if 10 + 3 * a2.toInt + 1 ≤ i ∧ i < 10 + 3 * a2.toInt + x540.toInt then (eA g0 233 (i + 3 * a1.toInt - 3 * a2.toInt)).toInt else (eA g0 233 (i)).toInt)) ?_ (3 - 1) ⟨1, by first | rfl | omega, hI357, hF358, ((eA_c gA_sI).trans hv360), ((eA_c gA_sI).trans hv463), ((eA_c gA_sI).trans hv464), ((eA_c gA_sI).trans hv465), ((eA_c gA_sI).trans hv466), rfl, rfl, rfl, rfl, by decide, (by intro i i0 i1; refine Eq.trans ?_ (if_neg (show ¬ (10 + 3 * a1.toInt + 1 ≤ i ∧ i < 10 + 3 * a1.toInt + 1) from by omega)).symm; refine Eq.trans ?_ (if_neg (show ¬ (10 + 3 * a2.toInt + 1 ≤ i ∧ i < 10 + 3 * a2.toInt + 1) from by omega)).symm; refine (eA_ti ((gA_sI))).trans ?_; (first | rfl | exact eA_ix (by omega) | omega))⟩
            rintro n545 l544 g541 ⟨x540, hm559, hI542, hF543, e547, e548, e549, e550, e551, e552, e553, e554, e555, r556, q557⟩ ih546
            have tv560 := congrArg Int32.toInt e547
            have tv561 := congrArg Int32.toInt e548
            have tv562 := congrArg Int32.toInt e549
            have tv563 := congrArg Int32.toInt e550
            have tv564 := congrArg Int32.toInt e551
            refine At.enter rfl ?_
            refine r_iload_n e555 ?_
            refine r_iconst 3 rfl ?_
            refine r_ics 47 rfl (fun c565 => ?_) (fun c565 => ?_)
            · have c565_ : x540.toInt ≥ 3 := en_i_ge_t c565
              refine At.enter rfl ?_
              refine r_aload_n e552 ?_
              refine r_iconst 0 rfl ?_
              refine r_callV 114 rfl [.ref 231, .int 0] [] (Nat.le_of_ble_eq_true rfl) rfl (T_X11_tell_231 _ hI542 0 (by decide)) ?_
              rintro _ _ ⟨g566, rfl, hI567, hF568, v569, rfl, hr570⟩
              refine At.sti ?_
              have hF571 := Fr.tr hF543 hF568 rfl rfl
              have zv572 : (0 : Int32).toInt = 0 := rfl
              refine At.enter rfl ?_
              refine r_ireti ?_
              have x573 := HI.eqA hI567 (p := 233) (j := 0) (((eA_c (hF568.2.1 233 (by decide))).trans e547))
              have x574 := HI.eqA hI567 (p := 233) (j := 4) (((eA_c (hF568.2.1 233 (by decide))).trans e548))
              have x575 := HI.eqA hI567 (p := 233) (j := 5) (((eA_c (hF568.2.1 233 (by decide))).trans e549))
              have x576 := HI.eqA hI567 (p := 233) (j := 6) (((eA_c (hF568.2.1 233 (by decide))).trans e550))
              have x577 := HI.eqA hI567 (p := 233) (j := 1) (((eA_c (hF568.2.1 233 (by decide))).trans e551))
              have x578 := HI.eqA hI0 (p := 233) (j := 0) (hv360)
              have x579 := HI.eqA hI0 (p := 233) (j := 0) (hv360)
              have x580 := HI.eqA hI0 (p := 233) (j := 4) (hv463)
              have x581 := HI.eqA hI0 (p := 233) (j := 5) (hv464)
              have x582 := HI.eqA hI0 (p := 233) (j := 6) (hv465)
              have x583 := HI.eqA hI0 (p := 233) (j := 1) (hv466)
              have x584 := HI.eqA hI0 (p := 233) (j := 0) (hv360)
              exact ⟨_, rfl, hI567, hF571, _, rfl, by omega, ⟨⟨by omega, by omega, by omega, by omega, by omega, by omega⟩, (by intro i i0 i1; exact (Decidable.em ((0 ≤ a1.toInt ∧ a1.toInt < (eA g0 233 0).toInt ∧ 0 ≤ a2.toInt ∧ a2.toInt < (eA g0 233 0).toInt ∧ a1.toInt ≠ a2.toInt) ∧ i = 10 + 3 * a1.toInt + 1)).elim (fun k353_ => by refine Eq.trans ?_ (if_pos k353_).symm; refine (eA_ti ((hF568.2.1 233 (by decide)))).trans ?_; refine ((q557 (i) (by omega) (by omega))).trans ?_; exact (Decidable.em (10 + 3 * a1.toInt + 1 ≤ (i) ∧ (i) < 10 + 3 * a1.toInt + x540.toInt)).elim (fun k354_ => by refine (if_pos k354_).trans ?_; (first | rfl | exact eA_ix (by omega) | omega)) (fun k354_ => by refine (if_neg k354_).trans ?_; exact (Decidable.em (10 + 3 * a2.toInt + 1 ≤ (i) ∧ (i) < 10 + 3 * a2.toInt + x540.toInt)).elim (fun k355_ => by refine (if_pos k355_).trans ?_; (first | rfl | exact eA_ix (by omega) | omega)) (fun k355_ => by refine (if_neg k355_).trans ?_; (first | rfl | exact eA_ix (by omega) | omega)))) (fun k353_ => by refine Eq.trans ?_ (if_neg k353_).symm; exact (Decidable.em ((0 ≤ a1.toInt ∧ a1.toInt < (eA g0 233 0).toInt ∧ 0 ≤ a2.toInt ∧ a2.toInt < (eA g0 233 0).toInt ∧ a1.toInt ≠ a2.toInt) ∧ i = 10 + 3 * a1.toInt + 2)).elim (fun k356_ => by refine Eq.trans ?_ (if_pos k356_).symm; refine (eA_ti ((hF568.2.1 233 (by decide)))).trans ?_; refine ((q557 (i) (by omega) (by omega))).trans ?_; exact (Decidable.em (10 + 3 * a1.toInt + 1 ≤ (i) ∧ (i) < 10 + 3 * a1.toInt + x540.toInt)).elim (fun k357_ => by refine (if_pos k357_).trans ?_; (first | rfl | exact eA_ix (by omega) | omega)) (fun k357_ => by refine (if_neg k357_).trans ?_; exact (Decidable.em (10 + 3 * a2.toInt + 1 ≤ (i) ∧ (i) < 10 + 3 * a2.toInt + x540.toInt)).elim (fun k358_ => by refine (if_pos k358_).trans ?_; (first | rfl | exact eA_ix (by omega) | omega)) (fun k358_ => by refine (if_neg k358_).trans ?_; (first | rfl | exact eA_ix (by omega) | omega)))) (fun k356_ => by refine Eq.trans ?_ (if_neg k356_).symm; exact (Decidable.em ((0 ≤ a1.toInt ∧ a1.toInt < (eA g0 233 0).toInt ∧ 0 ≤ a2.toInt ∧ a2.toInt < (eA g0 233 0).toInt ∧ a1.toInt ≠ a2.toInt) ∧ i = 10 + 3 * a2.toInt + 1)).elim (fun k359_ => by refine Eq.trans ?_ (if_pos k359_).symm; refine (eA_ti ((hF568.2.1 233 (by decide)))).trans ?_; refine ((q557 (i) (by omega) (by omega))).trans ?_; exact (Decidable.em (10 + 3 * a1.toInt + 1 ≤ (i) ∧ (i) < 10 + 3 * a1.toInt + x540.toInt)).elim (fun k360_ => by refine (if_pos k360_).trans ?_; (first | rfl | exact eA_ix (by omega) | omega)) (fun k360_ => by refine (if_neg k360_).trans ?_; exact (Decidable.em (10 + 3 * a2.toInt + 1 ≤ (i) ∧ (i) < 10 + 3 * a2.toInt + x540.toInt)).elim (fun k361_ => by refine (if_pos k361_).trans ?_; (first | rfl | exact eA_ix (by omega) | omega)) (fun k361_ => by refine (if_neg k361_).trans ?_; (first | rfl | exact eA_ix (by omega) | omega)))) (fun k359_ => by refine Eq.trans ?_ (if_neg k359_).symm; exact (Decidable.em ((0 ≤ a1.toInt ∧ a1.toInt < (eA g0 233 0).toInt ∧ 0 ≤ a2.toInt ∧ a2.toInt < (eA g0 233 0).toInt ∧ a1.toInt ≠ a2.toInt) ∧ i = 10 + 3 * a2.toInt + 2)).elim (fun k362_ => by refine Eq.trans ?_ (if_pos k362_).symm; refine (eA_ti ((hF568.2.1 233 (by decide)))).trans ?_; refine ((q557 (i) (by omega) (by omega))).trans ?_; exact (Decidable.em (10 + 3 * a1.toInt + 1 ≤ (i) ∧ (i) < 10 + 3 * a1.toInt + x540.toInt)).elim (fun k363_ => by refine (if_pos k363_).trans ?_; (first | rfl | exact eA_ix (by omega) | omega)) (fun k363_ => by refine (if_neg k363_).trans ?_; exact (Decidable.em (10 + 3 * a2.toInt + 1 ≤ (i) ∧ (i) < 10 + 3 * a2.toInt + x540.toInt)).elim (fun k364_ => by refine (if_pos k364_).trans ?_; (first | rfl | exact eA_ix (by omega) | omega)) (fun k364_ => by refine (if_neg k364_).trans ?_; (first | rfl | exact eA_ix (by omega) | omega)))) (fun k362_ => by refine Eq.trans ?_ (if_neg k362_).symm; refine (eA_ti ((hF568.2.1 233 (by decide)))).trans ?_; refine ((q557 (i) (by omega) (by omega))).trans ?_; exact (Decidable.em (10 + 3 * a1.toInt + 1 ≤ (i) ∧ (i) < 10 + 3 * a1.toInt + x540.toInt)).elim (fun k365_ => by refine (if_pos k365_).trans ?_; (first | rfl | exact eA_ix (by omega) | omega)) (fun k365_ => by refine (if_neg k365_).trans ?_; exact (Decidable.em (10 + 3 * a2.toInt + 1 ≤ (i) ∧ (i) < 10 + 3 * a2.toInt + x540.toInt)).elim (fun k366_ => by refine (if_pos k366_).trans ?_; (first | rfl | exact eA_ix (by omega) | omega)) (fun k366_ => by refine (if_neg k366_).trans ?_; (first | rfl | exact eA_ix (by omega) | omega))))))))⟩⟩
            · have c565_ : x540.toInt < 3 := en_i_ge_f c565
              refine At.enter rfl ?_
              refine r_aload_n e552 ?_
              refine q_getR (Sh.ref hI542.1 kx_231 rfl) ?_
              refine r_bipush 10 rfl ?_
              refine r_iconst 3 rfl ?_
              refine r_iload_n e553 ?_
              refine q_imul (3 * a1.toInt) rfl (by omega) (fun v585 hv585 => ?_)
              refine q_iadd (10 + v585.toInt) rfl (by omega) (fun v586 hv586 => ?_)
              refine r_iload_n e555 ?_
              refine q_iadd (v586.toInt + x540.toInt) rfl (by omega) (fun v587 hv587 => ?_)
              obtain ⟨v588, hv588⟩ : ∃ v, eA g541 233 (3 * a1.toInt + x540.toInt + 10) = v := ⟨_, rfl⟩
              have wv588 := HI.s12 hI542 (j := (3 * a1.toInt + x540.toInt + 10)) a1.toInt x540.toInt (by omega) (by omega) (by omega)
              rw [hv588] at wv588
              refine q_iald (Sh.arr hI542.1 ka_233) (3 * a1.toInt + x540.toInt + 10) (by omega) (by omega) v588 hv588 ?_
              refine r_istore _ rfl ?_
              refine r_aload_n (w_p1 (by decide) (Or.inr rfl) e552) ?_
              refine q_getR (Sh.ref hI542.1 kx_231 rfl) ?_
              refine r_bipush 10 rfl ?_
              refine r_iconst 3 rfl ?_
              refine r_iload_n (w_p1 (by decide) (Or.inr rfl) e553) ?_
              refine q_imul (3 * a1.toInt) rfl (by omega) (fun v589 hv589 => ?_)
              refine q_iadd (10 + v589.toInt) rfl (by omega) (fun v590 hv590 => ?_)
              refine r_iload_n (w_p1 (by decide) (Or.inr rfl) e555) ?_
              refine q_iadd (v590.toInt + x540.toInt) rfl (by omega) (fun v591 hv591 => ?_)
              refine r_aload_n (w_p1 (by decide) (Or.inr rfl) e552) ?_
              refine q_getR (Sh.ref hI542.1 kx_231 rfl) ?_
              refine r_bipush 10 rfl ?_
              refine r_iconst 3 rfl ?_
              refine r_iload_n (w_p1 (by decide) (Or.inr rfl) e554) ?_
              refine q_imul (3 * a2.toInt) rfl (by omega) (fun v592 hv592 => ?_)
              refine q_iadd (10 + v592.toInt) rfl (by omega) (fun v593 hv593 => ?_)
              refine r_iload_n (w_p1 (by decide) (Or.inr rfl) e555) ?_
              refine q_iadd (v593.toInt + x540.toInt) rfl (by omega) (fun v594 hv594 => ?_)
              obtain ⟨v595, hv595⟩ : ∃ v, eA g541 233 (3 * a2.toInt + x540.toInt + 10) = v := ⟨_, rfl⟩
              have wv595 := HI.s12 hI542 (j := (3 * a2.toInt + x540.toInt + 10)) a2.toInt x540.toInt (by omega) (by omega) (by omega)
              rw [hv595] at wv595
              refine q_iald (Sh.arr hI542.1 ka_233) (3 * a2.toInt + x540.toInt + 10) (by omega) (by omega) v595 hv595 ?_
              refine q_iast (Sh.arr hI542.1 ka_233) ((3 * a1.toInt + x540.toInt + 10)) (by omega) (by omega) ?_
              have hI596 := HI.ws hI542 (j := (3 * a1.toInt + x540.toInt + 10)) (v := v595) a1.toInt x540.toInt (by omega) (by omega) (by omega) (by omega)
              have hF597 := Fr.wA (p := 233) (j := (3 * a1.toInt + x540.toInt + 10)) (v := v595) hF543 rfl
              refine r_aload_n (w_p1 (by decide) (Or.inr rfl) e552) ?_
              refine q_getR (Sh.ref hI596.1 kx_231 rfl) ?_
              refine r_bipush 10 rfl ?_
              refine r_iconst 3 rfl ?_
              refine r_iload_n (w_p1 (by decide) (Or.inr rfl) e554) ?_
              refine q_imul (3 * a2.toInt) rfl (by omega) (fun v598 hv598 => ?_)
              refine q_iadd (10 + v598.toInt) rfl (by omega) (fun v599 hv599 => ?_)
              refine r_iload_n (w_p1 (by decide) (Or.inr rfl) e555) ?_
              refine q_iadd (v599.toInt + x540.toInt) rfl (by omega) (fun v600 hv600 => ?_)
              refine r_iload (w_e1 _ _ _) ?_
              refine q_iast (Sh.arr hI596.1 ka_233) ((3 * a2.toInt + x540.toInt + 10)) (by omega) (by omega) ?_
              have hI601 := HI.ws hI596 (j := (3 * a2.toInt + x540.toInt + 10)) (v := v588) a2.toInt x540.toInt (by omega) (by omega) (by omega) (by omega)
              have hF602 := Fr.wA (p := 233) (j := (3 * a2.toInt + x540.toInt + 10)) (v := v588) hF597 rfl
              refine q_iinc (w_p1 (by decide) (Or.inr rfl) e555) (x540.toInt + 1) rfl (by omega) (fun v603 hv603 => ?_)
              refine r_goto ?_
              exact ih546 (3 - v603.toInt) _ _ ⟨v603, by first | rfl | omega, hI601, hF602, (((eA_sA_ne hI596.1 ka_233 (by first | decide | omega) (by first | decide | omega) (by first | decide | omega)).trans (eA_sA_ne hI542.1 ka_233 (by first | decide | omega) (by first | decide | omega) (by first | decide | omega))).trans e547), (((eA_sA_ne hI596.1 ka_233 (by first | decide | omega) (by first | decide | omega) (by first | decide | omega)).trans (eA_sA_ne hI542.1 ka_233 (by first | decide | omega) (by first | decide | omega) (by first | decide | omega))).trans e548), (((eA_sA_ne hI596.1 ka_233 (by first | decide | omega) (by first | decide | omega) (by first | decide | omega)).trans (eA_sA_ne hI542.1 ka_233 (by first | decide | omega) (by first | decide | omega) (by first | decide | omega))).trans e549), (((eA_sA_ne hI596.1 ka_233 (by first | decide | omega) (by first | decide | omega) (by first | decide | omega)).trans (eA_sA_ne hI542.1 ka_233 (by first | decide | omega) (by first | decide | omega) (by first | decide | omega))).trans e550), (((eA_sA_ne hI596.1 ka_233 (by first | decide | omega) (by first | decide | omega) (by first | decide | omega)).trans (eA_sA_ne hI542.1 ka_233 (by first | decide | omega) (by first | decide | omega) (by first | decide | omega))).trans e551), (w_p1 (by decide) (Or.inr rfl) (w_p1 (by decide) (Or.inr rfl) e552)), (w_p1 (by decide) (Or.inr rfl) (w_p1 (by decide) (Or.inr rfl) e553)), (w_p1 (by decide) (Or.inr rfl) (w_p1 (by decide) (Or.inr rfl) e554)), (w_e1 _ _ _), by omega, (by intro i i0 i1; exact (Decidable.em (10 + 3 * a1.toInt + 1 ≤ i ∧ i < 10 + 3 * a1.toInt + v603.toInt)).elim (fun k367_ => by refine Eq.trans ?_ (if_pos k367_).symm; exact (Decidable.em (i = (3 * a2.toInt + x540.toInt + 10))).elim (fun k368_ => by refine (eA_eqT hI596.1 ka_233 k368_ (by first | decide | omega) (by first | decide | omega)).trans ?_; (first | (rfl) | (omega) | (refine (congrArg Int32.toInt hv588).symm.trans ?_; refine ((q557 ((3 * a1.toInt + x540.toInt + 10)) (by omega) (by omega))).trans ?_; exact (Decidable.em (10 + 3 * a1.toInt + 1 ≤ ((3 * a1.toInt + x540.toInt + 10)) ∧ ((3 * a1.toInt + x540.toInt + 10)) < 10 + 3 * a1.toInt + x540.toInt)).elim (fun k369_ => by refine (if_pos k369_).trans ?_; (first | rfl | exact eA_ix (by omega) | omega)) (fun k369_ => by refine (if_neg k369_).trans ?_; exact (Decidable.em (10 + 3 * a2.toInt + 1 ≤ ((3 * a1.toInt + x540.toInt + 10)) ∧ ((3 * a1.toInt + x540.toInt + 10)) < 10 + 3 * a2.toInt + x540.toInt)).elim (fun k370_ => by refine (if_pos k370_).trans ?_; (first | rfl | exact eA_ix (by omega) | omega)) (fun k370_ => by refine (if_neg k370_).trans ?_; (first | rfl | exact eA_ix (by omega) | omega)))))) (fun k368_ => by refine (eA_neT hI596.1 ka_233 k368_ (by first | decide | omega) (by omega)).trans ?_; exact (Decidable.em (i = (3 * a1.toInt + x540.toInt + 10))).elim (fun k371_ => by refine (eA_eqT hI542.1 ka_233 k371_ (by first | decide | omega) (by first | decide | omega)).trans ?_; (first | (rfl) | (omega) | (refine (congrArg Int32.toInt hv595).symm.trans ?_; refine ((q557 ((3 * a2.toInt + x540.toInt + 10)) (by omega) (by omega))).trans ?_; exact (Decidable.em (10 + 3 * a1.toInt + 1 ≤ ((3 * a2.toInt + x540.toInt + 10)) ∧ ((3 * a2.toInt + x540.toInt + 10)) < 10 + 3 * a1.toInt + x540.toInt)).elim (fun k372_ => by refine (if_pos k372_).trans ?_; (first | rfl | exact eA_ix (by omega) | omega)) (fun k372_ => by refine (if_neg k372_).trans ?_; exact (Decidable.em (10 + 3 * a2.toInt + 1 ≤ ((3 * a2.toInt + x540.toInt + 10)) ∧ ((3 * a2.toInt + x540.toInt + 10)) < 10 + 3 * a2.toInt + x540.toInt)).elim (fun k373_ => by refine (if_pos k373_).trans ?_; (first | rfl | exact eA_ix (by omega) | omega)) (fun k373_ => by refine (if_neg k373_).trans ?_; (first | rfl | exact eA_ix (by omega) | omega)))))) (fun k371_ => by refine (eA_neT hI542.1 ka_233 k371_ (by first | decide | omega) (by omega)).trans ?_; refine ((q557 (i) (by omega) (by omega))).trans ?_; exact (Decidable.em (10 + 3 * a1.toInt + 1 ≤ (i) ∧ (i) < 10 + 3 * a1.toInt + x540.toInt)).elim (fun k374_ => by refine (if_pos k374_).trans ?_; (first | rfl | exact eA_ix (by omega) | omega)) (fun k374_ => by refine (if_neg k374_).trans ?_; exact (Decidable.em (10 + 3 * a2.toInt + 1 ≤ (i) ∧ (i) < 10 + 3 * a2.toInt + x540.toInt)).elim (fun k375_ => by refine (if_pos k375_).trans ?_; (first | rfl | exact eA_ix (by omega) | omega)) (fun k375_ => by refine (if_neg k375_).trans ?_; (first | rfl | exact eA_ix (by omega) | omega)))))) (fun k367_ => by refine Eq.trans ?_ (if_neg k367_).symm; exact (Decidable.em (10 + 3 * a2.toInt + 1 ≤ i ∧ i < 10 + 3 * a2.toInt + v603.toInt)).elim (fun k376_ => by refine Eq.trans ?_ (if_pos k376_).symm; exact (Decidable.em (i = (3 * a2.toInt + x540.toInt + 10))).elim (fun k377_ => by refine (eA_eqT hI596.1 ka_233 k377_ (by first | decide | omega) (by first | decide | omega)).trans ?_; (first | (rfl) | (omega) | (refine (congrArg Int32.toInt hv588).symm.trans ?_; refine ((q557 ((3 * a1.toInt + x540.toInt + 10)) (by omega) (by omega))).trans ?_; exact (Decidable.em (10 + 3 * a1.toInt + 1 ≤ ((3 * a1.toInt + x540.toInt + 10)) ∧ ((3 * a1.toInt + x540.toInt + 10)) < 10 + 3 * a1.toInt + x540.toInt)).elim (fun k378_ => by refine (if_pos k378_).trans ?_; (first | rfl | exact eA_ix (by omega) | omega)) (fun k378_ => by refine (if_neg k378_).trans ?_; exact (Decidable.em (10 + 3 * a2.toInt + 1 ≤ ((3 * a1.toInt + x540.toInt + 10)) ∧ ((3 * a1.toInt + x540.toInt + 10)) < 10 + 3 * a2.toInt + x540.toInt)).elim (fun k379_ => by refine (if_pos k379_).trans ?_; (first | rfl | exact eA_ix (by omega) | omega)) (fun k379_ => by refine (if_neg k379_).trans ?_; (first | rfl | exact eA_ix (by omega) | omega)))))) (fun k377_ => by refine (eA_neT hI596.1 ka_233 k377_ (by first | decide | omega) (by omega)).trans ?_; exact (Decidable.em (i = (3 * a1.toInt + x540.toInt + 10))).elim (fun k380_ => by refine (eA_eqT hI542.1 ka_233 k380_ (by first | decide | omega) (by first | decide | omega)).trans ?_; (first | (rfl) | (omega) | (refine (congrArg Int32.toInt hv595).symm.trans ?_; refine ((q557 ((3 * a2.toInt + x540.toInt + 10)) (by omega) (by omega))).trans ?_; exact (Decidable.em (10 + 3 * a1.toInt + 1 ≤ ((3 * a2.toInt + x540.toInt + 10)) ∧ ((3 * a2.toInt + x540.toInt + 10)) < 10 + 3 * a1.toInt + x540.toInt)).elim (fun k381_ => by refine (if_pos k381_).trans ?_; (first | rfl | exact eA_ix (by omega) | omega)) (fun k381_ => by refine (if_neg k381_).trans ?_; exact (Decidable.em (10 + 3 * a2.toInt + 1 ≤ ((3 * a2.toInt + x540.toInt + 10)) ∧ ((3 * a2.toInt + x540.toInt + 10)) < 10 + 3 * a2.toInt + x540.toInt)).elim (fun k382_ => by refine (if_pos k382_).trans ?_; (first | rfl | exact eA_ix (by omega) | omega)) (fun k382_ => by refine (if_neg k382_).trans ?_; (first | rfl | exact eA_ix (by omega) | omega)))))) (fun k380_ => by refine (eA_neT hI542.1 ka_233 k380_ (by first | decide | omega) (by omega)).trans ?_; refine ((q557 (i) (by omega) (by omega))).trans ?_; exact (Decidable.em (10 + 3 * a1.toInt + 1 ≤ (i) ∧ (i) < 10 + 3 * a1.toInt + x540.toInt)).elim (fun k383_ => by refine (if_pos k383_).trans ?_; (first | rfl | exact eA_ix (by omega) | omega)) (fun k383_ => by refine (if_neg k383_).trans ?_; exact (Decidable.em (10 + 3 * a2.toInt + 1 ≤ (i) ∧ (i) < 10 + 3 * a2.toInt + x540.toInt)).elim (fun k384_ => by refine (if_pos k384_).trans ?_; (first | rfl | exact eA_ix (by omega) | omega)) (fun k384_ => by refine (if_neg k384_).trans ?_; (first | rfl | exact eA_ix (by omega) | omega)))))) (fun k376_ => by refine Eq.trans ?_ (if_neg k376_).symm; exact (Decidable.em (i = (3 * a2.toInt + x540.toInt + 10))).elim (fun k385_ => by refine (eA_eqT hI596.1 ka_233 k385_ (by first | decide | omega) (by first | decide | omega)).trans ?_; (first | (rfl) | (omega) | (refine (congrArg Int32.toInt hv588).symm.trans ?_; refine ((q557 ((3 * a1.toInt + x540.toInt + 10)) (by omega) (by omega))).trans ?_; exact (Decidable.em (10 + 3 * a1.toInt + 1 ≤ ((3 * a1.toInt + x540.toInt + 10)) ∧ ((3 * a1.toInt + x540.toInt + 10)) < 10 + 3 * a1.toInt + x540.toInt)).elim (fun k386_ => by refine (if_pos k386_).trans ?_; (first | rfl | exact eA_ix (by omega) | omega)) (fun k386_ => by refine (if_neg k386_).trans ?_; exact (Decidable.em (10 + 3 * a2.toInt + 1 ≤ ((3 * a1.toInt + x540.toInt + 10)) ∧ ((3 * a1.toInt + x540.toInt + 10)) < 10 + 3 * a2.toInt + x540.toInt)).elim (fun k387_ => by refine (if_pos k387_).trans ?_; (first | rfl | exact eA_ix (by omega) | omega)) (fun k387_ => by refine (if_neg k387_).trans ?_; (first | rfl | exact eA_ix (by omega) | omega)))))) (fun k385_ => by refine (eA_neT hI596.1 ka_233 k385_ (by first | decide | omega) (by omega)).trans ?_; exact (Decidable.em (i = (3 * a1.toInt + x540.toInt + 10))).elim (fun k388_ => by refine (eA_eqT hI542.1 ka_233 k388_ (by first | decide | omega) (by first | decide | omega)).trans ?_; (first | (rfl) | (omega) | (refine (congrArg Int32.toInt hv595).symm.trans ?_; refine ((q557 ((3 * a2.toInt + x540.toInt + 10)) (by omega) (by omega))).trans ?_; exact (Decidable.em (10 + 3 * a1.toInt + 1 ≤ ((3 * a2.toInt + x540.toInt + 10)) ∧ ((3 * a2.toInt + x540.toInt + 10)) < 10 + 3 * a1.toInt + x540.toInt)).elim (fun k389_ => by refine (if_pos k389_).trans ?_; (first | rfl | exact eA_ix (by omega) | omega)) (fun k389_ => by refine (if_neg k389_).trans ?_; exact (Decidable.em (10 + 3 * a2.toInt + 1 ≤ ((3 * a2.toInt + x540.toInt + 10)) ∧ ((3 * a2.toInt + x540.toInt + 10)) < 10 + 3 * a2.toInt + x540.toInt)).elim (fun k390_ => by refine (if_pos k390_).trans ?_; (first | rfl | exact eA_ix (by omega) | omega)) (fun k390_ => by refine (if_neg k390_).trans ?_; (first | rfl | exact eA_ix (by omega) | omega)))))) (fun k388_ => by refine (eA_neT hI542.1 ka_233 k388_ (by first | decide | omega) (by omega)).trans ?_; refine ((q557 (i) (by omega) (by omega))).trans ?_; exact (Decidable.em (10 + 3 * a1.toInt + 1 ≤ (i) ∧ (i) < 10 + 3 * a1.toInt + x540.toInt)).elim (fun k391_ => by refine (if_pos k391_).trans ?_; (first | rfl | exact eA_ix (by omega) | omega)) (fun k391_ => by refine (if_neg k391_).trans ?_; exact (Decidable.em (10 + 3 * a2.toInt + 1 ≤ (i) ∧ (i) < 10 + 3 * a2.toInt + x540.toInt)).elim (fun k392_ => by refine (if_pos k392_).trans ?_; (first | rfl | exact eA_ix (by omega) | omega)) (fun k392_ => by refine (if_neg k392_).trans ?_; (first | rfl | exact eA_ix (by omega) | omega))))))))⟩ ⟨by omega, by omega⟩
          · have c462_ : a1.toInt = a2.toInt := en_i_ne_f c462
            refine At.enter rfl ?_
            refine r_aload_n rfl ?_
            refine r_bipush (-3) rfl ?_
            refine r_callV 39 rfl [.ref 231, .int (-3)] [] (Nat.le_of_ble_eq_true rfl) rfl (T_X11_tell_231 _ hI357 (-3) (by decide)) ?_
            rintro _ _ ⟨g604, rfl, hI605, hF606, v607, rfl, hr608⟩
            refine At.sti ?_
            have hF609 := Fr.tr hF358 hF606 rfl rfl
            have zv610 : ((-3) : Int32).toInt = (-3) := rfl
            refine At.enter rfl ?_
            refine r_ireti ?_
            have x611 := HI.eqA hI605 (p := 233) (j := 0) ((((eA_c (hF606.2.1 233 (by decide))).trans (eA_c gA_sI)).trans hv360))
            obtain ⟨v612, hv612⟩ : ∃ v, eA g0 233 4 = v := ⟨_, rfl⟩
            have wv612 := HI.t4 hI0
            rw [hv612] at wv612
            have tv612 := congrArg Int32.toInt hv612
            have x613 := HI.eqA hI605 (p := 233) (j := 4) ((((eA_c (hF606.2.1 233 (by decide))).trans (eA_c gA_sI)).trans hv612))
            obtain ⟨v614, hv614⟩ : ∃ v, eA g0 233 5 = v := ⟨_, rfl⟩
            have wv614 := HI.t5 hI0
            rw [hv614] at wv614
            have tv614 := congrArg Int32.toInt hv614
            have x615 := HI.eqA hI605 (p := 233) (j := 5) ((((eA_c (hF606.2.1 233 (by decide))).trans (eA_c gA_sI)).trans hv614))
            obtain ⟨v616, hv616⟩ : ∃ v, eA g0 233 6 = v := ⟨_, rfl⟩
            have wv616 := HI.t6 hI0
            rw [hv616] at wv616
            have tv616 := congrArg Int32.toInt hv616
            have x617 := HI.eqA hI605 (p := 233) (j := 6) ((((eA_c (hF606.2.1 233 (by decide))).trans (eA_c gA_sI)).trans hv616))
            obtain ⟨v618, hv618⟩ : ∃ v, eA g0 233 1 = v := ⟨_, rfl⟩
            have tv618 := congrArg Int32.toInt hv618
            have wv618 := HI.t1 hI0
            rw [hv618] at wv618
            have tv618 := congrArg Int32.toInt hv618
            have x619 := HI.eqA hI605 (p := 233) (j := 1) ((((eA_c (hF606.2.1 233 (by decide))).trans (eA_c gA_sI)).trans hv618))
            have x620 := HI.eqA hI0 (p := 233) (j := 0) (hv360)
            have x621 := HI.eqA hI0 (p := 233) (j := 0) (hv360)
            have x622 := HI.eqA hI0 (p := 233) (j := 4) (hv612)
            have x623 := HI.eqA hI0 (p := 233) (j := 5) (hv614)
            have x624 := HI.eqA hI0 (p := 233) (j := 6) (hv616)
            have x625 := HI.eqA hI0 (p := 233) (j := 1) (hv618)
            have x626 := HI.eqA hI0 (p := 233) (j := 0) (hv360)
            exact ⟨_, rfl, hI605, hF609, _, rfl, by omega, ⟨⟨by omega, by omega, by omega, by omega, by omega, by omega⟩, (by intro i i0 i1; refine Eq.trans ?_ (if_neg (show ¬ ((0 ≤ a1.toInt ∧ a1.toInt < (eA g0 233 0).toInt ∧ 0 ≤ a2.toInt ∧ a2.toInt < (eA g0 233 0).toInt ∧ a1.toInt ≠ a2.toInt) ∧ i = 10 + 3 * a1.toInt + 1) from by omega)).symm; refine Eq.trans ?_ (if_neg (show ¬ ((0 ≤ a1.toInt ∧ a1.toInt < (eA g0 233 0).toInt ∧ 0 ≤ a2.toInt ∧ a2.toInt < (eA g0 233 0).toInt ∧ a1.toInt ≠ a2.toInt) ∧ i = 10 + 3 * a1.toInt + 2) from by omega)).symm; refine Eq.trans ?_ (if_neg (show ¬ ((0 ≤ a1.toInt ∧ a1.toInt < (eA g0 233 0).toInt ∧ 0 ≤ a2.toInt ∧ a2.toInt < (eA g0 233 0).toInt ∧ a1.toInt ≠ a2.toInt) ∧ i = 10 + 3 * a2.toInt + 1) from by omega)).symm; refine Eq.trans ?_ (if_neg (show ¬ ((0 ≤ a1.toInt ∧ a1.toInt < (eA g0 233 0).toInt ∧ 0 ≤ a2.toInt ∧ a2.toInt < (eA g0 233 0).toInt ∧ a1.toInt ≠ a2.toInt) ∧ i = 10 + 3 * a2.toInt + 2) from by omega)).symm; refine (eA_ti (((hF606.2.1 233 (by decide)).trans (gA_sI)))).trans ?_; (first | rfl | exact eA_ix (by omega) | omega))⟩⟩
