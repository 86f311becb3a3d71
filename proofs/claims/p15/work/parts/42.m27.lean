def F_X11_swap_231 : List (Nat × Nat) := [(231, 0), (231, 1)]
def A_X11_swap_231 : List Nat := [232, 233]
set_option maxRecDepth 100000 in
set_option maxHeartbeats 4000000 in
theorem T_X11_swap_231 (d : Nat) {N : Nat} {g0 : List en_E} (hI0 : HI g0) (a1 : Int32) (a2 : Int32) : Ev (d + 3) 240 [.ref 231, .int a1, .int a2] (g0, N) (fun w h' => ∃ g', h' = (g', N) ∧ HI g' ∧ Fr F_X11_swap_231 A_X11_swap_231 g0 g' ∧ ∃ r : Int32, w = some (.int r) ∧ ((-3) ≤ r.toInt ∧ r.toInt ≤ 0) ∧ (((¬ (0 ≤ a1.toInt ∧ a1.toInt < (eA g0 233 0).toInt ∧ 0 ≤ a2.toInt ∧ a2.toInt < (eA g0 233 0).toInt) → r.toInt = -2) ∧ ((0 ≤ a1.toInt ∧ a1.toInt < (eA g0 233 0).toInt ∧ 0 ≤ a2.toInt ∧ a2.toInt < (eA g0 233 0).toInt) ∧ a1.toInt = a2.toInt → r.toInt = -3) ∧ ((0 ≤ a1.toInt ∧ a1.toInt < (eA g0 233 0).toInt ∧ 0 ≤ a2.toInt ∧ a2.toInt < (eA g0 233 0).toInt) ∧ a1.toInt ≠ a2.toInt → r.toInt = 0)) ∧ (eA g' 233 0).toInt = (eA g0 233 0).toInt ∧ (eA g' 233 4).toInt = (eA g0 233 4).toInt ∧ (eA g' 233 5).toInt = (eA g0 233 5).toInt ∧ (eA g' 233 6).toInt = (eA g0 233 6).toInt ∧ (eA g' 233 2).toInt = (eA g0 233 2).toInt ∧ (eA g' 233 3).toInt = (eA g0 233 3).toInt)) := by
  have hF0 : Fr F_X11_swap_231 A_X11_swap_231 g0 g0 := Fr.rf
  refine Ev.mk rfl rfl ⟨Nat.le_of_ble_eq_true rfl, Or.inr (q_rc hI0.1 kx_231 rfl)⟩ ?_
  show At _ none _ _ (0, [(0, .ref 231), (1, .int a1), (2, .int a2)], [], (_, _)) _
  refine At.enter rfl ?_
  refine r_aload_n rfl ?_
  refine r_iconst 0 rfl ?_
  refine q_putI (Sh.int hI0.1 kx_231 rfl) rfl ?_
  have hI361 := HI.wI0 hI0 kx_231 rfl (p := 231) (b := 0) (v := 0) rfl
  have hF362 := Fr.wI (p := 231) (b := 0) (v := 0) hF0 rfl
  refine r_aload_n rfl ?_
  refine r_iload_n rfl ?_
  refine q_inlV 10 rfl [.ref 231, .int a1] [] (Nat.le_of_ble_eq_true rfl) rfl ?_
  refine Ev.mk rfl rfl ⟨Nat.le_of_ble_eq_true rfl, Or.inr (q_rc hI361.1 kx_231 rfl)⟩ ?_
  show At _ none _ _ (0, [(0, .ref 231), (1, .int a1)], [], (_, _)) _
  refine At.enter rfl ?_
  refine r_iload_n rfl ?_
  refine q_i2l (fun v363 hv363 => ?_)
  refine r_lconst 0 rfl ?_
  refine r_aload_n rfl ?_
  refine q_getR (Sh.ref hI361.1 kx_231 rfl) ?_
  refine r_iconst 0 rfl ?_
  obtain ⟨v364, hv364⟩ : ∃ v, eA g0 233 0 = v := ⟨_, rfl⟩
  have tv364 := congrArg Int32.toInt hv364
  have wv364 := HI.t0 hI0
  rw [hv364] at wv364
  refine q_iald (Sh.arr hI361.1 ka_233) 0 rfl (by decide) v364 ((eA_c (gA_sI)).trans hv364) ?_
  refine q_i2l (fun v365 hv365 => ?_)
  refine r_lconst 1 rfl ?_
  refine q_lsub (v365.toInt - 1) rfl (by omega) (fun v366 hv366 => ?_)
  refine q_inlS 15 rfl [.long v363, .long 0, .long v366] [] (Nat.le_of_ble_eq_true rfl) rfl ?_
  refine Ev.mk rfl rfl ⟨Nat.le_of_ble_eq_true rfl, Or.inl rfl⟩ ?_
  show At _ none _ _ (0, [(0, .long v363), (2, .long 0), (4, .long v366)], [], (_, _)) _
  refine At.enter rfl ?_
  refine r_lload_n rfl ?_
  refine r_lload_n rfl ?_
  refine r_lcmp _ rfl ?_
  refine r_ifs 6 rfl (fun c367 => ?_) (fun c367 => ?_)
  · have c367_ : v363.toInt < 0 := en_j_lt_t c367
    refine At.enter rfl ?_
    refine r_iconst 0 rfl ?_
    refine Ar.fall 18 rfl ?_
    refine At.enter rfl ?_
    refine q_iretz (by decide) ?_
    refine At.enter rfl ?_
    refine q_iretz (by decide) ?_
    refine At.enter rfl ?_
    refine r_ift (by decide) ?_
    refine At.enter rfl ?_
    refine r_aload_n rfl ?_
    refine r_bipush (-2) rfl ?_
    refine r_callV 27 rfl [.ref 231, .int (-2)] [] (Nat.le_of_ble_eq_true rfl) rfl (T_X11_tell_231 _ hI361 (-2) (by decide)) ?_
    rintro _ _ ⟨g368, rfl, hI369, hF370, v371, rfl, hr372⟩
    refine At.sti ?_
    have hF373 := Fr.tr hF362 hF370 rfl rfl
    have zv374 : ((-2) : Int32).toInt = (-2) := rfl
    refine At.enter rfl ?_
    refine r_ireti ?_
    have x375 := HI.eqA hI369 (p := 233) (j := 0) ((((eA_c (hF370.2.1 233 ma_X11_tell_231_233)).trans (eA_c gA_sI)).trans hv364))
    obtain ⟨v376, hv376⟩ : ∃ v, eA g0 233 4 = v := ⟨_, rfl⟩
    have wv376 := HI.t4 hI0
    rw [hv376] at wv376
    have tv376 := congrArg Int32.toInt hv376
    have x377 := HI.eqA hI369 (p := 233) (j := 4) ((((eA_c (hF370.2.1 233 ma_X11_tell_231_233)).trans (eA_c gA_sI)).trans hv376))
    obtain ⟨v378, hv378⟩ : ∃ v, eA g0 233 5 = v := ⟨_, rfl⟩
    have wv378 := HI.t5 hI0
    rw [hv378] at wv378
    have tv378 := congrArg Int32.toInt hv378
    have x379 := HI.eqA hI369 (p := 233) (j := 5) ((((eA_c (hF370.2.1 233 ma_X11_tell_231_233)).trans (eA_c gA_sI)).trans hv378))
    obtain ⟨v380, hv380⟩ : ∃ v, eA g0 233 6 = v := ⟨_, rfl⟩
    have wv380 := HI.t6 hI0
    rw [hv380] at wv380
    have tv380 := congrArg Int32.toInt hv380
    have x381 := HI.eqA hI369 (p := 233) (j := 6) ((((eA_c (hF370.2.1 233 ma_X11_tell_231_233)).trans (eA_c gA_sI)).trans hv380))
    obtain ⟨v382, hv382⟩ : ∃ v, eA g0 233 2 = v := ⟨_, rfl⟩
    have tv382 := congrArg Int32.toInt hv382
    have wv382 := HI.t2 hI0
    rw [hv382] at wv382
    have tv382 := congrArg Int32.toInt hv382
    have x383 := HI.eqA hI369 (p := 233) (j := 2) ((((eA_c (hF370.2.1 233 ma_X11_tell_231_233)).trans (eA_c gA_sI)).trans hv382))
    obtain ⟨v384, hv384⟩ : ∃ v, eA g0 233 3 = v := ⟨_, rfl⟩
    have wv384 := HI.t3 hI0
    rw [hv384] at wv384
    have tv384 := congrArg Int32.toInt hv384
    have x385 := HI.eqA hI369 (p := 233) (j := 3) ((((eA_c (hF370.2.1 233 ma_X11_tell_231_233)).trans (eA_c gA_sI)).trans hv384))
    have x386 := HI.eqA hI0 (p := 233) (j := 0) (hv364)
    have x387 := HI.eqA hI0 (p := 233) (j := 0) (hv364)
    have x388 := HI.eqA hI0 (p := 233) (j := 4) (hv376)
    have x389 := HI.eqA hI0 (p := 233) (j := 5) (hv378)
    have x390 := HI.eqA hI0 (p := 233) (j := 6) (hv380)
    have x391 := HI.eqA hI0 (p := 233) (j := 2) (hv382)
    have x392 := HI.eqA hI0 (p := 233) (j := 3) (hv384)
    exact ⟨_, rfl, hI369, hF373, _, rfl, by omega, ⟨by omega, by omega, by omega, by omega, by omega, by omega, by omega⟩⟩
  · have c367_ : v363.toInt ≥ 0 := en_j_lt_f c367
    refine At.enter rfl ?_
    refine r_lload_n rfl ?_
    refine r_lload rfl ?_
    refine r_lcmp _ rfl ?_
    refine r_ifs 13 rfl (fun c393 => ?_) (fun c393 => ?_)
    · have c393_ : v363.toInt > v366.toInt := en_j_gt_t c393
      refine At.enter rfl ?_
      refine r_iconst 0 rfl ?_
      refine Ar.fall 18 rfl ?_
      refine At.enter rfl ?_
      refine q_iretz (by decide) ?_
      refine At.enter rfl ?_
      refine q_iretz (by decide) ?_
      refine At.enter rfl ?_
      refine r_ift (by decide) ?_
      refine At.enter rfl ?_
      refine r_aload_n rfl ?_
      refine r_bipush (-2) rfl ?_
      refine r_callV 27 rfl [.ref 231, .int (-2)] [] (Nat.le_of_ble_eq_true rfl) rfl (T_X11_tell_231 _ hI361 (-2) (by decide)) ?_
      rintro _ _ ⟨g394, rfl, hI395, hF396, v397, rfl, hr398⟩
      refine At.sti ?_
      have hF399 := Fr.tr hF362 hF396 rfl rfl
      have zv400 : ((-2) : Int32).toInt = (-2) := rfl
      refine At.enter rfl ?_
      refine r_ireti ?_
      have x401 := HI.eqA hI395 (p := 233) (j := 0) ((((eA_c (hF396.2.1 233 ma_X11_tell_231_233)).trans (eA_c gA_sI)).trans hv364))
      obtain ⟨v402, hv402⟩ : ∃ v, eA g0 233 4 = v := ⟨_, rfl⟩
      have wv402 := HI.t4 hI0
      rw [hv402] at wv402
      have tv402 := congrArg Int32.toInt hv402
      have x403 := HI.eqA hI395 (p := 233) (j := 4) ((((eA_c (hF396.2.1 233 ma_X11_tell_231_233)).trans (eA_c gA_sI)).trans hv402))
      obtain ⟨v404, hv404⟩ : ∃ v, eA g0 233 5 = v := ⟨_, rfl⟩
      have wv404 := HI.t5 hI0
      rw [hv404] at wv404
      have tv404 := congrArg Int32.toInt hv404
      have x405 := HI.eqA hI395 (p := 233) (j := 5) ((((eA_c (hF396.2.1 233 ma_X11_tell_231_233)).trans (eA_c gA_sI)).trans hv404))
      obtain ⟨v406, hv406⟩ : ∃ v, eA g0 233 6 = v := ⟨_, rfl⟩
      have wv406 := HI.t6 hI0
      rw [hv406] at wv406
      have tv406 := congrArg Int32.toInt hv406
      have x407 := HI.eqA hI395 (p := 233) (j := 6) ((((eA_c (hF396.2.1 233 ma_X11_tell_231_233)).trans (eA_c gA_sI)).trans hv406))
      obtain ⟨v408, hv408⟩ : ∃ v, eA g0 233 2 = v := ⟨_, rfl⟩
      have tv408 := congrArg Int32.toInt hv408
      have wv408 := HI.t2 hI0
      rw [hv408] at wv408
      have tv408 := congrArg Int32.toInt hv408
      have x409 := HI.eqA hI395 (p := 233) (j := 2) ((((eA_c (hF396.2.1 233 ma_X11_tell_231_233)).trans (eA_c gA_sI)).trans hv408))
      obtain ⟨v410, hv410⟩ : ∃ v, eA g0 233 3 = v := ⟨_, rfl⟩
      have wv410 := HI.t3 hI0
      rw [hv410] at wv410
      have tv410 := congrArg Int32.toInt hv410
      have x411 := HI.eqA hI395 (p := 233) (j := 3) ((((eA_c (hF396.2.1 233 ma_X11_tell_231_233)).trans (eA_c gA_sI)).trans hv410))
      have x412 := HI.eqA hI0 (p := 233) (j := 0) (hv364)
      have x413 := HI.eqA hI0 (p := 233) (j := 0) (hv364)
      have x414 := HI.eqA hI0 (p := 233) (j := 4) (hv402)
      have x415 := HI.eqA hI0 (p := 233) (j := 5) (hv404)
      have x416 := HI.eqA hI0 (p := 233) (j := 6) (hv406)
      have x417 := HI.eqA hI0 (p := 233) (j := 2) (hv408)
      have x418 := HI.eqA hI0 (p := 233) (j := 3) (hv410)
      exact ⟨_, rfl, hI395, hF399, _, rfl, by omega, ⟨by omega, by omega, by omega, by omega, by omega, by omega, by omega⟩⟩
    · have c393_ : v363.toInt ≤ v366.toInt := en_j_gt_f c393
      refine At.enter rfl ?_
      refine r_iconst 1 rfl ?_
      refine r_goto ?_
      refine At.enter rfl ?_
      refine q_iretz (by decide) ?_
      refine At.enter rfl ?_
      refine q_iretz (by decide) ?_
      refine At.enter rfl ?_
      refine r_iff 13 rfl (by decide) ?_
      refine At.enter rfl ?_
      refine r_aload_n rfl ?_
      refine r_iload_n rfl ?_
      refine q_inlV 18 rfl [.ref 231, .int a2] [] (Nat.le_of_ble_eq_true rfl) rfl ?_
      refine Ev.mk rfl rfl ⟨Nat.le_of_ble_eq_true rfl, Or.inr (q_rc hI361.1 kx_231 rfl)⟩ ?_
      show At _ none _ _ (0, [(0, .ref 231), (1, .int a2)], [], (_, _)) _
      refine At.enter rfl ?_
      refine r_iload_n rfl ?_
      refine q_i2l (fun v419 hv419 => ?_)
      refine r_lconst 0 rfl ?_
      refine r_aload_n rfl ?_
      refine q_getR (Sh.ref hI361.1 kx_231 rfl) ?_
      refine r_iconst 0 rfl ?_
      refine q_iald (Sh.arr hI361.1 ka_233) 0 rfl (by decide) v364 ((eA_c (gA_sI)).trans hv364) ?_
      refine q_i2l (fun v420 hv420 => ?_)
      refine r_lconst 1 rfl ?_
      refine q_lsub (v420.toInt - 1) rfl (by omega) (fun v421 hv421 => ?_)
      refine q_inlS 15 rfl [.long v419, .long 0, .long v421] [] (Nat.le_of_ble_eq_true rfl) rfl ?_
      refine Ev.mk rfl rfl ⟨Nat.le_of_ble_eq_true rfl, Or.inl rfl⟩ ?_
      show At _ none _ _ (0, [(0, .long v419), (2, .long 0), (4, .long v421)], [], (_, _)) _
      refine At.enter rfl ?_
      refine r_lload_n rfl ?_
      refine r_lload_n rfl ?_
      refine r_lcmp _ rfl ?_
      refine r_ifs 6 rfl (fun c422 => ?_) (fun c422 => ?_)
      · have c422_ : v419.toInt < 0 := en_j_lt_t c422
        refine At.enter rfl ?_
        refine r_iconst 0 rfl ?_
        refine Ar.fall 18 rfl ?_
        refine At.enter rfl ?_
        refine q_iretz (by decide) ?_
        refine At.enter rfl ?_
        refine q_iretz (by decide) ?_
        refine At.enter rfl ?_
        refine r_iff 21 rfl (by decide) ?_
        refine At.enter rfl ?_
        refine r_aload_n rfl ?_
        refine r_bipush (-2) rfl ?_
        refine r_callV 27 rfl [.ref 231, .int (-2)] [] (Nat.le_of_ble_eq_true rfl) rfl (T_X11_tell_231 _ hI361 (-2) (by decide)) ?_
        rintro _ _ ⟨g423, rfl, hI424, hF425, v426, rfl, hr427⟩
        refine At.sti ?_
        have hF428 := Fr.tr hF362 hF425 rfl rfl
        have zv429 : ((-2) : Int32).toInt = (-2) := rfl
        refine At.enter rfl ?_
        refine r_ireti ?_
        have x430 := HI.eqA hI424 (p := 233) (j := 0) ((((eA_c (hF425.2.1 233 ma_X11_tell_231_233)).trans (eA_c gA_sI)).trans hv364))
        obtain ⟨v431, hv431⟩ : ∃ v, eA g0 233 4 = v := ⟨_, rfl⟩
        have wv431 := HI.t4 hI0
        rw [hv431] at wv431
        have tv431 := congrArg Int32.toInt hv431
        have x432 := HI.eqA hI424 (p := 233) (j := 4) ((((eA_c (hF425.2.1 233 ma_X11_tell_231_233)).trans (eA_c gA_sI)).trans hv431))
        obtain ⟨v433, hv433⟩ : ∃ v, eA g0 233 5 = v := ⟨_, rfl⟩
        have wv433 := HI.t5 hI0
        rw [hv433] at wv433
        have tv433 := congrArg Int32.toInt hv433
        have x434 := HI.eqA hI424 (p := 233) (j := 5) ((((eA_c (hF425.2.1 233 ma_X11_tell_231_233)).trans (eA_c gA_sI)).trans hv433))
        obtain ⟨v435, hv435⟩ : ∃ v, eA g0 233 6 = v := ⟨_, rfl⟩
        have wv435 := HI.t6 hI0
        rw [hv435] at wv435
        have tv435 := congrArg Int32.toInt hv435
        have x436 := HI.eqA hI424 (p := 233) (j := 6) ((((eA_c (hF425.2.1 233 ma_X11_tell_231_233)).trans (eA_c gA_sI)).trans hv435))
        obtain ⟨v437, hv437⟩ : ∃ v, eA g0 233 2 = v := ⟨_, rfl⟩
        have tv437 := congrArg Int32.toInt hv437
        have wv437 := HI.t2 hI0
        rw [hv437] at wv437
        have tv437 := congrArg Int32.toInt hv437
        have x438 := HI.eqA hI424 (p := 233) (j := 2) ((((eA_c (hF425.2.1 233 ma_X11_tell_231_233)).trans (eA_c gA_sI)).trans hv437))
        obtain ⟨v439, hv439⟩ : ∃ v, eA g0 233 3 = v := ⟨_, rfl⟩
        have wv439 := HI.t3 hI0
        rw [hv439] at wv439
        have tv439 := congrArg Int32.toInt hv439
        have x440 := HI.eqA hI424 (p := 233) (j := 3) ((((eA_c (hF425.2.1 233 ma_X11_tell_231_233)).trans (eA_c gA_sI)).trans hv439))
        have x441 := HI.eqA hI0 (p := 233) (j := 0) (hv364)
        have x442 := HI.eqA hI0 (p := 233) (j := 0) (hv364)
        have x443 := HI.eqA hI0 (p := 233) (j := 4) (hv431)
        have x444 := HI.eqA hI0 (p := 233) (j := 5) (hv433)
        have x445 := HI.eqA hI0 (p := 233) (j := 6) (hv435)
        have x446 := HI.eqA hI0 (p := 233) (j := 2) (hv437)
        have x447 := HI.eqA hI0 (p := 233) (j := 3) (hv439)
        exact ⟨_, rfl, hI424, hF428, _, rfl, by omega, ⟨by omega, by omega, by omega, by omega, by omega, by omega, by omega⟩⟩
      · have c422_ : v419.toInt ≥ 0 := en_j_lt_f c422
        refine At.enter rfl ?_
        refine r_lload_n rfl ?_
        refine r_lload rfl ?_
        refine r_lcmp _ rfl ?_
        refine r_ifs 13 rfl (fun c448 => ?_) (fun c448 => ?_)
        · have c448_ : v419.toInt > v421.toInt := en_j_gt_t c448
          refine At.enter rfl ?_
          refine r_iconst 0 rfl ?_
          refine Ar.fall 18 rfl ?_
          refine At.enter rfl ?_
          refine q_iretz (by decide) ?_
          refine At.enter rfl ?_
          refine q_iretz (by decide) ?_
          refine At.enter rfl ?_
          refine r_iff 21 rfl (by decide) ?_
          refine At.enter rfl ?_
          refine r_aload_n rfl ?_
          refine r_bipush (-2) rfl ?_
          refine r_callV 27 rfl [.ref 231, .int (-2)] [] (Nat.le_of_ble_eq_true rfl) rfl (T_X11_tell_231 _ hI361 (-2) (by decide)) ?_
          rintro _ _ ⟨g449, rfl, hI450, hF451, v452, rfl, hr453⟩
          refine At.sti ?_
          have hF454 := Fr.tr hF362 hF451 rfl rfl
          have zv455 : ((-2) : Int32).toInt = (-2) := rfl
          refine At.enter rfl ?_
          refine r_ireti ?_
          have x456 := HI.eqA hI450 (p := 233) (j := 0) ((((eA_c (hF451.2.1 233 ma_X11_tell_231_233)).trans (eA_c gA_sI)).trans hv364))
          obtain ⟨v457, hv457⟩ : ∃ v, eA g0 233 4 = v := ⟨_, rfl⟩
          have wv457 := HI.t4 hI0
          rw [hv457] at wv457
          have tv457 := congrArg Int32.toInt hv457
          have x458 := HI.eqA hI450 (p := 233) (j := 4) ((((eA_c (hF451.2.1 233 ma_X11_tell_231_233)).trans (eA_c gA_sI)).trans hv457))
          obtain ⟨v459, hv459⟩ : ∃ v, eA g0 233 5 = v := ⟨_, rfl⟩
          have wv459 := HI.t5 hI0
          rw [hv459] at wv459
          have tv459 := congrArg Int32.toInt hv459
          have x460 := HI.eqA hI450 (p := 233) (j := 5) ((((eA_c (hF451.2.1 233 ma_X11_tell_231_233)).trans (eA_c gA_sI)).trans hv459))
          obtain ⟨v461, hv461⟩ : ∃ v, eA g0 233 6 = v := ⟨_, rfl⟩
          have wv461 := HI.t6 hI0
          rw [hv461] at wv461
          have tv461 := congrArg Int32.toInt hv461
          have x462 := HI.eqA hI450 (p := 233) (j := 6) ((((eA_c (hF451.2.1 233 ma_X11_tell_231_233)).trans (eA_c gA_sI)).trans hv461))
          obtain ⟨v463, hv463⟩ : ∃ v, eA g0 233 2 = v := ⟨_, rfl⟩
          have tv463 := congrArg Int32.toInt hv463
          have wv463 := HI.t2 hI0
          rw [hv463] at wv463
          have tv463 := congrArg Int32.toInt hv463
          have x464 := HI.eqA hI450 (p := 233) (j := 2) ((((eA_c (hF451.2.1 233 ma_X11_tell_231_233)).trans (eA_c gA_sI)).trans hv463))
          obtain ⟨v465, hv465⟩ : ∃ v, eA g0 233 3 = v := ⟨_, rfl⟩
          have wv465 := HI.t3 hI0
          rw [hv465] at wv465
          have tv465 := congrArg Int32.toInt hv465
          have x466 := HI.eqA hI450 (p := 233) (j := 3) ((((eA_c (hF451.2.1 233 ma_X11_tell_231_233)).trans (eA_c gA_sI)).trans hv465))
          have x467 := HI.eqA hI0 (p := 233) (j := 0) (hv364)
          have x468 := HI.eqA hI0 (p := 233) (j := 0) (hv364)
          have x469 := HI.eqA hI0 (p := 233) (j := 4) (hv457)
          have x470 := HI.eqA hI0 (p := 233) (j := 5) (hv459)
          have x471 := HI.eqA hI0 (p := 233) (j := 6) (hv461)
          have x472 := HI.eqA hI0 (p := 233) (j := 2) (hv463)
          have x473 := HI.eqA hI0 (p := 233) (j := 3) (hv465)
          exact ⟨_, rfl, hI450, hF454, _, rfl, by omega, ⟨by omega, by omega, by omega, by omega, by omega, by omega, by omega⟩⟩
        · have c448_ : v419.toInt ≤ v421.toInt := en_j_gt_f c448
          refine At.enter rfl ?_
          refine r_iconst 1 rfl ?_
          refine r_goto ?_
          refine At.enter rfl ?_
          refine q_iretz (by decide) ?_
          refine At.enter rfl ?_
          refine q_iretz (by decide) ?_
          refine At.enter rfl ?_
          refine r_ift (by decide) ?_
          refine At.enter rfl ?_
          refine r_iload_n rfl ?_
          refine r_iload_n rfl ?_
          refine r_ics 33 rfl (fun c474 => ?_) (fun c474 => ?_)
          · have c474_ : a1.toInt ≠ a2.toInt := en_i_ne_t c474
            refine At.enter rfl ?_
            refine r_iconst 1 rfl ?_
            refine r_istore_n ([(3, .int 1), (0, .ref 231), (1, .int a1), (2, .int a2)]) rfl ?_
            refine Ar.fall 42 rfl ?_
            obtain ⟨v475, hv475⟩ : ∃ v, eA g0 233 4 = v := ⟨_, rfl⟩
            have wv475 := HI.t4 hI0
            rw [hv475] at wv475
            have tv475 := congrArg Int32.toInt hv475
            obtain ⟨v476, hv476⟩ : ∃ v, eA g0 233 5 = v := ⟨_, rfl⟩
            have wv476 := HI.t5 hI0
            rw [hv476] at wv476
            have tv476 := congrArg Int32.toInt hv476
            obtain ⟨v477, hv477⟩ : ∃ v, eA g0 233 6 = v := ⟨_, rfl⟩
            have wv477 := HI.t6 hI0
            rw [hv477] at wv477
            have tv477 := congrArg Int32.toInt hv477
            obtain ⟨v478, hv478⟩ : ∃ v, eA g0 233 2 = v := ⟨_, rfl⟩
            have tv478 := congrArg Int32.toInt hv478
            have wv478 := HI.t2 hI0
            rw [hv478] at wv478
            have tv478 := congrArg Int32.toInt hv478
            obtain ⟨v479, hv479⟩ : ∃ v, eA g0 233 3 = v := ⟨_, rfl⟩
            have wv479 := HI.t3 hI0
            rw [hv479] at wv479
            have tv479 := congrArg Int32.toInt hv479
            have z_571 : (1 : Int32).toInt = 1 := rfl
            refine w_loopI (fun n_ l_ g_ => ∃ x553 : Int32, n_ = 3 - x553.toInt ∧ HI g_ ∧ Fr F_X11_swap_231 A_X11_swap_231 g0 g_ ∧ eA g_ 233 0 = v364 ∧ eA g_ 233 4 = v475 ∧ eA g_ 233 5 = v476 ∧ eA g_ 233 6 = v477 ∧ eA g_ 233 2 = v478 ∧ eA g_ 233 3 = v479 ∧ en_get 0 l_ = some (.ref 231) ∧ en_get 1 l_ = some (.int a1) ∧ en_get 2 l_ = some (.int a2) ∧ en_get 3 l_ = some (.int x553) ∧ (1 ≤ x553.toInt ∧ x553.toInt ≤ 3)) ?_ (3 - 1) ⟨1, by first | rfl | omega, hI361, hF362, ((eA_c gA_sI).trans hv364), ((eA_c gA_sI).trans hv475), ((eA_c gA_sI).trans hv476), ((eA_c gA_sI).trans hv477), ((eA_c gA_sI).trans hv478), ((eA_c gA_sI).trans hv479), rfl, rfl, rfl, rfl, by decide⟩
            rintro n558 l557 g554 ⟨x553, hm572, hI555, hF556, e560, e561, e562, e563, e564, e565, e566, e567, e568, e569, r570⟩ ih559
            have tv573 := congrArg Int32.toInt e560
            have tv574 := congrArg Int32.toInt e561
            have tv575 := congrArg Int32.toInt e562
            have tv576 := congrArg Int32.toInt e563
            have tv577 := congrArg Int32.toInt e564
            have tv578 := congrArg Int32.toInt e565
            refine At.enter rfl ?_
            refine r_iload_n e569 ?_
            refine r_iconst 3 rfl ?_
            refine r_ics 47 rfl (fun c579 => ?_) (fun c579 => ?_)
            · have c579_ : x553.toInt ≥ 3 := en_i_ge_t c579
              refine At.enter rfl ?_
              refine r_aload_n e566 ?_
              refine r_iconst 0 rfl ?_
              refine r_callV 114 rfl [.ref 231, .int 0] [] (Nat.le_of_ble_eq_true rfl) rfl (T_X11_tell_231 _ hI555 0 (by decide)) ?_
              rintro _ _ ⟨g580, rfl, hI581, hF582, v583, rfl, hr584⟩
              refine At.sti ?_
              have hF585 := Fr.tr hF556 hF582 rfl rfl
              have zv586 : (0 : Int32).toInt = 0 := rfl
              refine At.enter rfl ?_
              refine r_ireti ?_
              have x587 := HI.eqA hI581 (p := 233) (j := 0) (((eA_c (hF582.2.1 233 ma_X11_tell_231_233)).trans e560))
              have x588 := HI.eqA hI581 (p := 233) (j := 4) (((eA_c (hF582.2.1 233 ma_X11_tell_231_233)).trans e561))
              have x589 := HI.eqA hI581 (p := 233) (j := 5) (((eA_c (hF582.2.1 233 ma_X11_tell_231_233)).trans e562))
              have x590 := HI.eqA hI581 (p := 233) (j := 6) (((eA_c (hF582.2.1 233 ma_X11_tell_231_233)).trans e563))
              have x591 := HI.eqA hI581 (p := 233) (j := 2) (((eA_c (hF582.2.1 233 ma_X11_tell_231_233)).trans e564))
              have x592 := HI.eqA hI581 (p := 233) (j := 3) (((eA_c (hF582.2.1 233 ma_X11_tell_231_233)).trans e565))
              have x593 := HI.eqA hI0 (p := 233) (j := 0) (hv364)
              have x594 := HI.eqA hI0 (p := 233) (j := 0) (hv364)
              have x595 := HI.eqA hI0 (p := 233) (j := 4) (hv475)
              have x596 := HI.eqA hI0 (p := 233) (j := 5) (hv476)
              have x597 := HI.eqA hI0 (p := 233) (j := 6) (hv477)
              have x598 := HI.eqA hI0 (p := 233) (j := 2) (hv478)
              have x599 := HI.eqA hI0 (p := 233) (j := 3) (hv479)
              exact ⟨_, rfl, hI581, hF585, _, rfl, by omega, ⟨by omega, by omega, by omega, by omega, by omega, by omega, by omega⟩⟩
            · have c579_ : x553.toInt < 3 := en_i_ge_f c579
              refine At.enter rfl ?_
              refine r_aload_n e566 ?_
              refine q_getR (Sh.ref hI555.1 kx_231 rfl) ?_
              refine r_bipush 10 rfl ?_
              refine r_iconst 3 rfl ?_
              refine r_iload_n e567 ?_
              refine q_imul (3 * a1.toInt) rfl (by omega) (fun v600 hv600 => ?_)
              refine q_iadd (10 + v600.toInt) rfl (by omega) (fun v601 hv601 => ?_)
              refine r_iload_n e569 ?_
              refine q_iadd (v601.toInt + x553.toInt) rfl (by omega) (fun v602 hv602 => ?_)
              obtain ⟨v603, hv603⟩ : ∃ v, eA g554 233 (3 * a1.toInt + x553.toInt + 10) = v := ⟨_, rfl⟩
              have wv603 := HI.s12 hI555 (j := (3 * a1.toInt + x553.toInt + 10)) a1.toInt x553.toInt (by omega) (by omega) (by omega)
              rw [hv603] at wv603
              refine q_iald (Sh.arr hI555.1 ka_233) (3 * a1.toInt + x553.toInt + 10) (by omega) (by omega) v603 hv603 ?_
              refine r_istore _ rfl ?_
              refine r_aload_n (w_p1 (by decide) (Or.inr rfl) e566) ?_
              refine q_getR (Sh.ref hI555.1 kx_231 rfl) ?_
              refine r_bipush 10 rfl ?_
              refine r_iconst 3 rfl ?_
              refine r_iload_n (w_p1 (by decide) (Or.inr rfl) e567) ?_
              refine q_imul (3 * a1.toInt) rfl (by omega) (fun v604 hv604 => ?_)
              refine q_iadd (10 + v604.toInt) rfl (by omega) (fun v605 hv605 => ?_)
              refine r_iload_n (w_p1 (by decide) (Or.inr rfl) e569) ?_
              refine q_iadd (v605.toInt + x553.toInt) rfl (by omega) (fun v606 hv606 => ?_)
              refine r_aload_n (w_p1 (by decide) (Or.inr rfl) e566) ?_
              refine q_getR (Sh.ref hI555.1 kx_231 rfl) ?_
              refine r_bipush 10 rfl ?_
              refine r_iconst 3 rfl ?_
              refine r_iload_n (w_p1 (by decide) (Or.inr rfl) e568) ?_
              refine q_imul (3 * a2.toInt) rfl (by omega) (fun v607 hv607 => ?_)
              refine q_iadd (10 + v607.toInt) rfl (by omega) (fun v608 hv608 => ?_)
              refine r_iload_n (w_p1 (by decide) (Or.inr rfl) e569) ?_
              refine q_iadd (v608.toInt + x553.toInt) rfl (by omega) (fun v609 hv609 => ?_)
              obtain ⟨v610, hv610⟩ : ∃ v, eA g554 233 (3 * a2.toInt + x553.toInt + 10) = v := ⟨_, rfl⟩
              have wv610 := HI.s12 hI555 (j := (3 * a2.toInt + x553.toInt + 10)) a2.toInt x553.toInt (by omega) (by omega) (by omega)
              rw [hv610] at wv610
              refine q_iald (Sh.arr hI555.1 ka_233) (3 * a2.toInt + x553.toInt + 10) (by omega) (by omega) v610 hv610 ?_
              refine q_iast (Sh.arr hI555.1 ka_233) ((3 * a1.toInt + x553.toInt + 10)) (by omega) (by omega) ?_
              have hI611 := HI.ws hI555 (j := (3 * a1.toInt + x553.toInt + 10)) (v := v610) a1.toInt x553.toInt (by omega) (by omega) (by omega) (by omega)
              have hF612 := Fr.wA (p := 233) (j := (3 * a1.toInt + x553.toInt + 10)) (v := v610) hF556 rfl
              refine r_aload_n (w_p1 (by decide) (Or.inr rfl) e566) ?_
              refine q_getR (Sh.ref hI611.1 kx_231 rfl) ?_
              refine r_bipush 10 rfl ?_
              refine r_iconst 3 rfl ?_
              refine r_iload_n (w_p1 (by decide) (Or.inr rfl) e568) ?_
              refine q_imul (3 * a2.toInt) rfl (by omega) (fun v613 hv613 => ?_)
              refine q_iadd (10 + v613.toInt) rfl (by omega) (fun v614 hv614 => ?_)
              refine r_iload_n (w_p1 (by decide) (Or.inr rfl) e569) ?_
              refine q_iadd (v614.toInt + x553.toInt) rfl (by omega) (fun v615 hv615 => ?_)
              refine r_iload (w_e1 _ _ _) ?_
              refine q_iast (Sh.arr hI611.1 ka_233) ((3 * a2.toInt + x553.toInt + 10)) (by omega) (by omega) ?_
              have hI616 := HI.ws hI611 (j := (3 * a2.toInt + x553.toInt + 10)) (v := v603) a2.toInt x553.toInt (by omega) (by omega) (by omega) (by omega)
              have hF617 := Fr.wA (p := 233) (j := (3 * a2.toInt + x553.toInt + 10)) (v := v603) hF612 rfl
              refine q_iinc (w_p1 (by decide) (Or.inr rfl) e569) (x553.toInt + 1) rfl (by omega) (fun v618 hv618 => ?_)
              refine r_goto ?_
              exact ih559 (3 - v618.toInt) _ _ ⟨v618, by first | rfl | omega, hI616, hF617, (((eA_sA_ne hI611.1 ka_233 (by first | decide | omega) (by first | decide | omega) (by first | decide | omega)).trans (eA_sA_ne hI555.1 ka_233 (by first | decide | omega) (by first | decide | omega) (by first | decide | omega))).trans e560), (((eA_sA_ne hI611.1 ka_233 (by first | decide | omega) (by first | decide | omega) (by first | decide | omega)).trans (eA_sA_ne hI555.1 ka_233 (by first | decide | omega) (by first | decide | omega) (by first | decide | omega))).trans e561), (((eA_sA_ne hI611.1 ka_233 (by first | decide | omega) (by first | decide | omega) (by first | decide | omega)).trans (eA_sA_ne hI555.1 ka_233 (by first | decide | omega) (by first | decide | omega) (by first | decide | omega))).trans e562), (((eA_sA_ne hI611.1 ka_233 (by first | decide | omega) (by first | decide | omega) (by first | decide | omega)).trans (eA_sA_ne hI555.1 ka_233 (by first | decide | omega) (by first | decide | omega) (by first | decide | omega))).trans e563), (((eA_sA_ne hI611.1 ka_233 (by first | decide | omega) (by first | decide | omega) (by first | decide | omega)).trans (eA_sA_ne hI555.1 ka_233 (by first | decide | omega) (by first | decide | omega) (by first | decide | omega))).trans e564), (((eA_sA_ne hI611.1 ka_233 (by first | decide | omega) (by first | decide | omega) (by first | decide | omega)).trans (eA_sA_ne hI555.1 ka_233 (by first | decide | omega) (by first | decide | omega) (by first | decide | omega))).trans e565), (w_p1 (by decide) (Or.inr rfl) (w_p1 (by decide) (Or.inr rfl) e566)), (w_p1 (by decide) (Or.inr rfl) (w_p1 (by decide) (Or.inr rfl) e567)), (w_p1 (by decide) (Or.inr rfl) (w_p1 (by decide) (Or.inr rfl) e568)), (w_e1 _ _ _), by omega⟩ ⟨by omega, by omega⟩
          · have c474_ : a1.toInt = a2.toInt := en_i_ne_f c474
            refine At.enter rfl ?_
            refine r_aload_n rfl ?_
            refine r_bipush (-3) rfl ?_
            refine r_callV 39 rfl [.ref 231, .int (-3)] [] (Nat.le_of_ble_eq_true rfl) rfl (T_X11_tell_231 _ hI361 (-3) (by decide)) ?_
            rintro _ _ ⟨g619, rfl, hI620, hF621, v622, rfl, hr623⟩
            refine At.sti ?_
            have hF624 := Fr.tr hF362 hF621 rfl rfl
            have zv625 : ((-3) : Int32).toInt = (-3) := rfl
            refine At.enter rfl ?_
            refine r_ireti ?_
            have x626 := HI.eqA hI620 (p := 233) (j := 0) ((((eA_c (hF621.2.1 233 ma_X11_tell_231_233)).trans (eA_c gA_sI)).trans hv364))
            obtain ⟨v627, hv627⟩ : ∃ v, eA g0 233 4 = v := ⟨_, rfl⟩
            have wv627 := HI.t4 hI0
            rw [hv627] at wv627
            have tv627 := congrArg Int32.toInt hv627
            have x628 := HI.eqA hI620 (p := 233) (j := 4) ((((eA_c (hF621.2.1 233 ma_X11_tell_231_233)).trans (eA_c gA_sI)).trans hv627))
            obtain ⟨v629, hv629⟩ : ∃ v, eA g0 233 5 = v := ⟨_, rfl⟩
            have wv629 := HI.t5 hI0
            rw [hv629] at wv629
            have tv629 := congrArg Int32.toInt hv629
            have x630 := HI.eqA hI620 (p := 233) (j := 5) ((((eA_c (hF621.2.1 233 ma_X11_tell_231_233)).trans (eA_c gA_sI)).trans hv629))
            obtain ⟨v631, hv631⟩ : ∃ v, eA g0 233 6 = v := ⟨_, rfl⟩
            have wv631 := HI.t6 hI0
            rw [hv631] at wv631
            have tv631 := congrArg Int32.toInt hv631
            have x632 := HI.eqA hI620 (p := 233) (j := 6) ((((eA_c (hF621.2.1 233 ma_X11_tell_231_233)).trans (eA_c gA_sI)).trans hv631))
            obtain ⟨v633, hv633⟩ : ∃ v, eA g0 233 2 = v := ⟨_, rfl⟩
            have tv633 := congrArg Int32.toInt hv633
            have wv633 := HI.t2 hI0
            rw [hv633] at wv633
            have tv633 := congrArg Int32.toInt hv633
            have x634 := HI.eqA hI620 (p := 233) (j := 2) ((((eA_c (hF621.2.1 233 ma_X11_tell_231_233)).trans (eA_c gA_sI)).trans hv633))
            obtain ⟨v635, hv635⟩ : ∃ v, eA g0 233 3 = v := ⟨_, rfl⟩
            have wv635 := HI.t3 hI0
            rw [hv635] at wv635
            have tv635 := congrArg Int32.toInt hv635
            have x636 := HI.eqA hI620 (p := 233) (j := 3) ((((eA_c (hF621.2.1 233 ma_X11_tell_231_233)).trans (eA_c gA_sI)).trans hv635))
            have x637 := HI.eqA hI0 (p := 233) (j := 0) (hv364)
            have x638 := HI.eqA hI0 (p := 233) (j := 0) (hv364)
            have x639 := HI.eqA hI0 (p := 233) (j := 4) (hv627)
            have x640 := HI.eqA hI0 (p := 233) (j := 5) (hv629)
            have x641 := HI.eqA hI0 (p := 233) (j := 6) (hv631)
            have x642 := HI.eqA hI0 (p := 233) (j := 2) (hv633)
            have x643 := HI.eqA hI0 (p := 233) (j := 3) (hv635)
            exact ⟨_, rfl, hI620, hF624, _, rfl, by omega, ⟨by omega, by omega, by omega, by omega, by omega, by omega, by omega⟩⟩
