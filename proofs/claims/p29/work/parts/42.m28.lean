def F_X11_swap_231 : List (Nat × Nat) := [(231, 0), (231, 1)]
def A_X11_swap_231 : List Nat := [232, 233]
set_option maxRecDepth 100000 in
set_option maxHeartbeats 4000000 in
theorem T_X11_swap_231 (d : Nat) {N : Nat} {g0 : List en_E} (hI0 : HI g0) (a1 : Int32) (a2 : Int32) : Ev (d + 3) 240 [.ref 231, .int a1, .int a2] (g0, N) (fun w h' => ∃ g', h' = (g', N) ∧ HI g' ∧ Fr F_X11_swap_231 A_X11_swap_231 g0 g' ∧ ∃ r : Int32, w = some (.int r) ∧ ((-3) ≤ r.toInt ∧ r.toInt ≤ 0) ∧ ((((¬ (0 ≤ a1.toInt ∧ a1.toInt < (eA g0 233 0).toInt ∧ 0 ≤ a2.toInt ∧ a2.toInt < (eA g0 233 0).toInt) → r.toInt = -2) ∧ ((0 ≤ a1.toInt ∧ a1.toInt < (eA g0 233 0).toInt ∧ 0 ≤ a2.toInt ∧ a2.toInt < (eA g0 233 0).toInt) ∧ a1.toInt = a2.toInt → r.toInt = -3) ∧ ((0 ≤ a1.toInt ∧ a1.toInt < (eA g0 233 0).toInt ∧ 0 ≤ a2.toInt ∧ a2.toInt < (eA g0 233 0).toInt) ∧ a1.toInt ≠ a2.toInt → r.toInt = 0)) ∧ (eA g' 233 0).toInt = (eA g0 233 0).toInt ∧ (eA g' 233 4).toInt = (eA g0 233 4).toInt ∧ (eA g' 233 5).toInt = (eA g0 233 5).toInt ∧ (eA g' 233 6).toInt = (eA g0 233 6).toInt ∧ (eA g' 233 1).toInt = (eA g0 233 1).toInt ∧ (eA g' 233 2).toInt = (eA g0 233 2).toInt ∧ (eA g' 233 3).toInt = (eA g0 233 3).toInt) ∧ (∀ i : Int, 10 ≤ i → i < 5510 → (eA g' 233 (i)).toInt = if (0 ≤ a1.toInt ∧ a1.toInt < (eA g0 233 0).toInt ∧ 0 ≤ a2.toInt ∧ a2.toInt < (eA g0 233 0).toInt ∧ a1.toInt ≠ a2.toInt) ∧ i = 10 + 3 * a1.toInt + 1 then (eA g0 233 (10 + 3 * a2.toInt + 1)).toInt else if (0 ≤ a1.toInt ∧ a1.toInt < (eA g0 233 0).toInt ∧ 0 ≤ a2.toInt ∧ a2.toInt < (eA g0 233 0).toInt ∧ a1.toInt ≠ a2.toInt) ∧ i = 10 + 3 * a1.toInt + 2 then (eA g0 233 (10 + 3 * a2.toInt + 2)).toInt else if (0 ≤ a1.toInt ∧ a1.toInt < (eA g0 233 0).toInt ∧ 0 ≤ a2.toInt ∧ a2.toInt < (eA g0 233 0).toInt ∧ a1.toInt ≠ a2.toInt) ∧ i = 10 + 3 * a2.toInt + 1 then (eA g0 233 (10 + 3 * a1.toInt + 1)).toInt else if (0 ≤ a1.toInt ∧ a1.toInt < (eA g0 233 0).toInt ∧ 0 ≤ a2.toInt ∧ a2.toInt < (eA g0 233 0).toInt ∧ a1.toInt ≠ a2.toInt) ∧ i = 10 + 3 * a2.toInt + 2 then (eA g0 233 (10 + 3 * a1.toInt + 2)).toInt else (eA g0 233 (i)).toInt))) := by
  have hF0 : Fr F_X11_swap_231 A_X11_swap_231 g0 g0 := Fr.rf
  refine Ev.mk rfl rfl ⟨Nat.le_of_ble_eq_true rfl, Or.inr (q_rc hI0.1 kx_231 rfl)⟩ ?_
  show At _ none _ _ (0, [(0, .ref 231), (1, .int a1), (2, .int a2)], [], (_, _)) _
  refine At.enter rfl ?_
  refine r_aload_n rfl ?_
  refine r_iconst 0 rfl ?_
  refine q_putI (Sh.int hI0.1 kx_231 rfl) rfl ?_
  have hI369 := HI.wI0 hI0 kx_231 rfl (p := 231) (b := 0) (v := 0) rfl
  have hF370 := Fr.wI (p := 231) (b := 0) (v := 0) hF0 rfl
  refine r_aload_n rfl ?_
  refine r_iload_n rfl ?_
  refine q_inlV 10 rfl [.ref 231, .int a1] [] (Nat.le_of_ble_eq_true rfl) rfl ?_
  refine Ev.mk rfl rfl ⟨Nat.le_of_ble_eq_true rfl, Or.inr (q_rc hI369.1 kx_231 rfl)⟩ ?_
  show At _ none _ _ (0, [(0, .ref 231), (1, .int a1)], [], (_, _)) _
  refine At.enter rfl ?_
  refine r_iload_n rfl ?_
  refine q_i2l (fun v371 hv371 => ?_)
  refine r_lconst 0 rfl ?_
  refine r_aload_n rfl ?_
  refine q_getR (Sh.ref hI369.1 kx_231 rfl) ?_
  refine r_iconst 0 rfl ?_
  obtain ⟨v372, hv372⟩ : ∃ v, eA g0 233 0 = v := ⟨_, rfl⟩
  have tv372 := congrArg Int32.toInt hv372
  have wv372 := HI.t0 hI0
  rw [hv372] at wv372
  refine q_iald (Sh.arr hI369.1 ka_233) 0 rfl (by decide) v372 ((eA_c (gA_sI)).trans hv372) ?_
  refine q_i2l (fun v373 hv373 => ?_)
  refine r_lconst 1 rfl ?_
  refine q_lsub (v373.toInt - 1) rfl (by omega) (fun v374 hv374 => ?_)
  refine q_inlS 15 rfl [.long v371, .long 0, .long v374] [] (Nat.le_of_ble_eq_true rfl) rfl ?_
  refine Ev.mk rfl rfl ⟨Nat.le_of_ble_eq_true rfl, Or.inl rfl⟩ ?_
  show At _ none _ _ (0, [(0, .long v371), (2, .long 0), (4, .long v374)], [], (_, _)) _
  refine At.enter rfl ?_
  refine r_lload_n rfl ?_
  refine r_lload_n rfl ?_
  refine r_lcmp _ rfl ?_
  refine r_ifs 6 rfl (fun c375 => ?_) (fun c375 => ?_)
  · have c375_ : v371.toInt < 0 := en_j_lt_t c375
    refine At.enter rfl ?_
    refine r_iconst 0 rfl ?_
    refine Ar.fall 18 rfl ?_
    refine At.enter rfl ?_
    refine q_iretz (by decide) ?_
    refine At.enter rfl ?_
    refine q_iretz (by decide) ?_
    refine At.enter rfl ?_
    refine r_ift (by decide) ?_
    refine At.enter rfl ?_
    refine r_aload_n rfl ?_
    refine r_bipush (-2) rfl ?_
    refine r_callV 27 rfl [.ref 231, .int (-2)] [] (Nat.le_of_ble_eq_true rfl) rfl (T_X11_tell_231 _ hI369 (-2) (by decide)) ?_
    rintro _ _ ⟨g376, rfl, hI377, hF378, v379, rfl, hr380⟩
    refine At.sti ?_
    have hF381 := Fr.tr hF370 hF378 rfl rfl
    have zv382 : ((-2) : Int32).toInt = (-2) := rfl
    refine At.enter rfl ?_
    refine r_ireti ?_
    have x383 := HI.eqA hI377 (p := 233) (j := 0) ((((eA_c (hF378.2.1 233 ma_X11_tell_231_233)).trans (eA_c gA_sI)).trans hv372))
    obtain ⟨v384, hv384⟩ : ∃ v, eA g0 233 4 = v := ⟨_, rfl⟩
    have wv384 := HI.t4 hI0
    rw [hv384] at wv384
    have tv384 := congrArg Int32.toInt hv384
    have x385 := HI.eqA hI377 (p := 233) (j := 4) ((((eA_c (hF378.2.1 233 ma_X11_tell_231_233)).trans (eA_c gA_sI)).trans hv384))
    obtain ⟨v386, hv386⟩ : ∃ v, eA g0 233 5 = v := ⟨_, rfl⟩
    have wv386 := HI.t5 hI0
    rw [hv386] at wv386
    have tv386 := congrArg Int32.toInt hv386
    have x387 := HI.eqA hI377 (p := 233) (j := 5) ((((eA_c (hF378.2.1 233 ma_X11_tell_231_233)).trans (eA_c gA_sI)).trans hv386))
    obtain ⟨v388, hv388⟩ : ∃ v, eA g0 233 6 = v := ⟨_, rfl⟩
    have wv388 := HI.t6 hI0
    rw [hv388] at wv388
    have tv388 := congrArg Int32.toInt hv388
    have x389 := HI.eqA hI377 (p := 233) (j := 6) ((((eA_c (hF378.2.1 233 ma_X11_tell_231_233)).trans (eA_c gA_sI)).trans hv388))
    obtain ⟨v390, hv390⟩ : ∃ v, eA g0 233 1 = v := ⟨_, rfl⟩
    have tv390 := congrArg Int32.toInt hv390
    have wv390 := HI.t1 hI0
    rw [hv390] at wv390
    have tv390 := congrArg Int32.toInt hv390
    have x391 := HI.eqA hI377 (p := 233) (j := 1) ((((eA_c (hF378.2.1 233 ma_X11_tell_231_233)).trans (eA_c gA_sI)).trans hv390))
    obtain ⟨v392, hv392⟩ : ∃ v, eA g0 233 2 = v := ⟨_, rfl⟩
    have tv392 := congrArg Int32.toInt hv392
    have wv392 := HI.t2 hI0
    rw [hv392] at wv392
    have tv392 := congrArg Int32.toInt hv392
    have x393 := HI.eqA hI377 (p := 233) (j := 2) ((((eA_c (hF378.2.1 233 ma_X11_tell_231_233)).trans (eA_c gA_sI)).trans hv392))
    obtain ⟨v394, hv394⟩ : ∃ v, eA g0 233 3 = v := ⟨_, rfl⟩
    have wv394 := HI.t3 hI0
    rw [hv394] at wv394
    have tv394 := congrArg Int32.toInt hv394
    have x395 := HI.eqA hI377 (p := 233) (j := 3) ((((eA_c (hF378.2.1 233 ma_X11_tell_231_233)).trans (eA_c gA_sI)).trans hv394))
    have x396 := HI.eqA hI0 (p := 233) (j := 0) (hv372)
    have x397 := HI.eqA hI0 (p := 233) (j := 0) (hv372)
    have x398 := HI.eqA hI0 (p := 233) (j := 4) (hv384)
    have x399 := HI.eqA hI0 (p := 233) (j := 5) (hv386)
    have x400 := HI.eqA hI0 (p := 233) (j := 6) (hv388)
    have x401 := HI.eqA hI0 (p := 233) (j := 1) (hv390)
    have x402 := HI.eqA hI0 (p := 233) (j := 2) (hv392)
    have x403 := HI.eqA hI0 (p := 233) (j := 3) (hv394)
    have x404 := HI.eqA hI0 (p := 233) (j := 0) (hv372)
    exact ⟨_, rfl, hI377, hF381, _, rfl, by omega, ⟨⟨by omega, by omega, by omega, by omega, by omega, by omega, by omega, by omega⟩, (by intro i i0 i1; refine Eq.trans ?_ (if_neg (show ¬ ((0 ≤ a1.toInt ∧ a1.toInt < (eA g0 233 0).toInt ∧ 0 ≤ a2.toInt ∧ a2.toInt < (eA g0 233 0).toInt ∧ a1.toInt ≠ a2.toInt) ∧ i = 10 + 3 * a1.toInt + 1) from by omega)).symm; refine Eq.trans ?_ (if_neg (show ¬ ((0 ≤ a1.toInt ∧ a1.toInt < (eA g0 233 0).toInt ∧ 0 ≤ a2.toInt ∧ a2.toInt < (eA g0 233 0).toInt ∧ a1.toInt ≠ a2.toInt) ∧ i = 10 + 3 * a1.toInt + 2) from by omega)).symm; refine Eq.trans ?_ (if_neg (show ¬ ((0 ≤ a1.toInt ∧ a1.toInt < (eA g0 233 0).toInt ∧ 0 ≤ a2.toInt ∧ a2.toInt < (eA g0 233 0).toInt ∧ a1.toInt ≠ a2.toInt) ∧ i = 10 + 3 * a2.toInt + 1) from by omega)).symm; refine Eq.trans ?_ (if_neg (show ¬ ((0 ≤ a1.toInt ∧ a1.toInt < (eA g0 233 0).toInt ∧ 0 ≤ a2.toInt ∧ a2.toInt < (eA g0 233 0).toInt ∧ a1.toInt ≠ a2.toInt) ∧ i = 10 + 3 * a2.toInt + 2) from by omega)).symm; refine (eA_ti (((hF378.2.1 233 ma_X11_tell_231_233).trans (gA_sI)))).trans ?_; (first | with_reducible rfl | omega | exact eA_ix (by omega) | rfl))⟩⟩
  · have c375_ : v371.toInt ≥ 0 := en_j_lt_f c375
    refine At.enter rfl ?_
    refine r_lload_n rfl ?_
    refine r_lload rfl ?_
    refine r_lcmp _ rfl ?_
    refine r_ifs 13 rfl (fun c405 => ?_) (fun c405 => ?_)
    · have c405_ : v371.toInt > v374.toInt := en_j_gt_t c405
      refine At.enter rfl ?_
      refine r_iconst 0 rfl ?_
      refine Ar.fall 18 rfl ?_
      refine At.enter rfl ?_
      refine q_iretz (by decide) ?_
      refine At.enter rfl ?_
      refine q_iretz (by decide) ?_
      refine At.enter rfl ?_
      refine r_ift (by decide) ?_
      refine At.enter rfl ?_
      refine r_aload_n rfl ?_
      refine r_bipush (-2) rfl ?_
      refine r_callV 27 rfl [.ref 231, .int (-2)] [] (Nat.le_of_ble_eq_true rfl) rfl (T_X11_tell_231 _ hI369 (-2) (by decide)) ?_
      rintro _ _ ⟨g406, rfl, hI407, hF408, v409, rfl, hr410⟩
      refine At.sti ?_
      have hF411 := Fr.tr hF370 hF408 rfl rfl
      have zv412 : ((-2) : Int32).toInt = (-2) := rfl
      refine At.enter rfl ?_
      refine r_ireti ?_
      have x413 := HI.eqA hI407 (p := 233) (j := 0) ((((eA_c (hF408.2.1 233 ma_X11_tell_231_233)).trans (eA_c gA_sI)).trans hv372))
      obtain ⟨v414, hv414⟩ : ∃ v, eA g0 233 4 = v := ⟨_, rfl⟩
      have wv414 := HI.t4 hI0
      rw [hv414] at wv414
      have tv414 := congrArg Int32.toInt hv414
      have x415 := HI.eqA hI407 (p := 233) (j := 4) ((((eA_c (hF408.2.1 233 ma_X11_tell_231_233)).trans (eA_c gA_sI)).trans hv414))
      obtain ⟨v416, hv416⟩ : ∃ v, eA g0 233 5 = v := ⟨_, rfl⟩
      have wv416 := HI.t5 hI0
      rw [hv416] at wv416
      have tv416 := congrArg Int32.toInt hv416
      have x417 := HI.eqA hI407 (p := 233) (j := 5) ((((eA_c (hF408.2.1 233 ma_X11_tell_231_233)).trans (eA_c gA_sI)).trans hv416))
      obtain ⟨v418, hv418⟩ : ∃ v, eA g0 233 6 = v := ⟨_, rfl⟩
      have wv418 := HI.t6 hI0
      rw [hv418] at wv418
      have tv418 := congrArg Int32.toInt hv418
      have x419 := HI.eqA hI407 (p := 233) (j := 6) ((((eA_c (hF408.2.1 233 ma_X11_tell_231_233)).trans (eA_c gA_sI)).trans hv418))
      obtain ⟨v420, hv420⟩ : ∃ v, eA g0 233 1 = v := ⟨_, rfl⟩
      have tv420 := congrArg Int32.toInt hv420
      have wv420 := HI.t1 hI0
      rw [hv420] at wv420
      have tv420 := congrArg Int32.toInt hv420
      have x421 := HI.eqA hI407 (p := 233) (j := 1) ((((eA_c (hF408.2.1 233 ma_X11_tell_231_233)).trans (eA_c gA_sI)).trans hv420))
      obtain ⟨v422, hv422⟩ : ∃ v, eA g0 233 2 = v := ⟨_, rfl⟩
      have tv422 := congrArg Int32.toInt hv422
      have wv422 := HI.t2 hI0
      rw [hv422] at wv422
      have tv422 := congrArg Int32.toInt hv422
      have x423 := HI.eqA hI407 (p := 233) (j := 2) ((((eA_c (hF408.2.1 233 ma_X11_tell_231_233)).trans (eA_c gA_sI)).trans hv422))
      obtain ⟨v424, hv424⟩ : ∃ v, eA g0 233 3 = v := ⟨_, rfl⟩
      have wv424 := HI.t3 hI0
      rw [hv424] at wv424
      have tv424 := congrArg Int32.toInt hv424
      have x425 := HI.eqA hI407 (p := 233) (j := 3) ((((eA_c (hF408.2.1 233 ma_X11_tell_231_233)).trans (eA_c gA_sI)).trans hv424))
      have x426 := HI.eqA hI0 (p := 233) (j := 0) (hv372)
      have x427 := HI.eqA hI0 (p := 233) (j := 0) (hv372)
      have x428 := HI.eqA hI0 (p := 233) (j := 4) (hv414)
      have x429 := HI.eqA hI0 (p := 233) (j := 5) (hv416)
      have x430 := HI.eqA hI0 (p := 233) (j := 6) (hv418)
      have x431 := HI.eqA hI0 (p := 233) (j := 1) (hv420)
      have x432 := HI.eqA hI0 (p := 233) (j := 2) (hv422)
      have x433 := HI.eqA hI0 (p := 233) (j := 3) (hv424)
      have x434 := HI.eqA hI0 (p := 233) (j := 0) (hv372)
      exact ⟨_, rfl, hI407, hF411, _, rfl, by omega, ⟨⟨by omega, by omega, by omega, by omega, by omega, by omega, by omega, by omega⟩, (by intro i i0 i1; refine Eq.trans ?_ (if_neg (show ¬ ((0 ≤ a1.toInt ∧ a1.toInt < (eA g0 233 0).toInt ∧ 0 ≤ a2.toInt ∧ a2.toInt < (eA g0 233 0).toInt ∧ a1.toInt ≠ a2.toInt) ∧ i = 10 + 3 * a1.toInt + 1) from by omega)).symm; refine Eq.trans ?_ (if_neg (show ¬ ((0 ≤ a1.toInt ∧ a1.toInt < (eA g0 233 0).toInt ∧ 0 ≤ a2.toInt ∧ a2.toInt < (eA g0 233 0).toInt ∧ a1.toInt ≠ a2.toInt) ∧ i = 10 + 3 * a1.toInt + 2) from by omega)).symm; refine Eq.trans ?_ (if_neg (show ¬ ((0 ≤ a1.toInt ∧ a1.toInt < (eA g0 233 0).toInt ∧ 0 ≤ a2.toInt ∧ a2.toInt < (eA g0 233 0).toInt ∧ a1.toInt ≠ a2.toInt) ∧ i = 10 + 3 * a2.toInt + 1) from by omega)).symm; refine Eq.trans ?_ (if_neg (show ¬ ((0 ≤ a1.toInt ∧ a1.toInt < (eA g0 233 0).toInt ∧ 0 ≤ a2.toInt ∧ a2.toInt < (eA g0 233 0).toInt ∧ a1.toInt ≠ a2.toInt) ∧ i = 10 + 3 * a2.toInt + 2) from by omega)).symm; refine (eA_ti (((hF408.2.1 233 ma_X11_tell_231_233).trans (gA_sI)))).trans ?_; (first | with_reducible rfl | omega | exact eA_ix (by omega) | rfl))⟩⟩
    · have c405_ : v371.toInt ≤ v374.toInt := en_j_gt_f c405
      refine At.enter rfl ?_
      refine r_iconst 1 rfl ?_
      refine r_goto ?_
      refine At.enter rfl ?_
      refine q_iretz (by decide) ?_
      refine At.enter rfl ?_
      refine q_iretz (by decide) ?_
      refine At.enter rfl ?_
      refine r_iff 13 rfl (by decide) ?_
      refine At.enter rfl ?_
      refine r_aload_n rfl ?_
      refine r_iload_n rfl ?_
      refine q_inlV 18 rfl [.ref 231, .int a2] [] (Nat.le_of_ble_eq_true rfl) rfl ?_
      refine Ev.mk rfl rfl ⟨Nat.le_of_ble_eq_true rfl, Or.inr (q_rc hI369.1 kx_231 rfl)⟩ ?_
      show At _ none _ _ (0, [(0, .ref 231), (1, .int a2)], [], (_, _)) _
      refine At.enter rfl ?_
      refine r_iload_n rfl ?_
      refine q_i2l (fun v435 hv435 => ?_)
      refine r_lconst 0 rfl ?_
      refine r_aload_n rfl ?_
      refine q_getR (Sh.ref hI369.1 kx_231 rfl) ?_
      refine r_iconst 0 rfl ?_
      refine q_iald (Sh.arr hI369.1 ka_233) 0 rfl (by decide) v372 ((eA_c (gA_sI)).trans hv372) ?_
      refine q_i2l (fun v436 hv436 => ?_)
      refine r_lconst 1 rfl ?_
      refine q_lsub (v436.toInt - 1) rfl (by omega) (fun v437 hv437 => ?_)
      refine q_inlS 15 rfl [.long v435, .long 0, .long v437] [] (Nat.le_of_ble_eq_true rfl) rfl ?_
      refine Ev.mk rfl rfl ⟨Nat.le_of_ble_eq_true rfl, Or.inl rfl⟩ ?_
      show At _ none _ _ (0, [(0, .long v435), (2, .long 0), (4, .long v437)], [], (_, _)) _
      refine At.enter rfl ?_
      refine r_lload_n rfl ?_
      refine r_lload_n rfl ?_
      refine r_lcmp _ rfl ?_
      refine r_ifs 6 rfl (fun c438 => ?_) (fun c438 => ?_)
      · have c438_ : v435.toInt < 0 := en_j_lt_t c438
        refine At.enter rfl ?_
        refine r_iconst 0 rfl ?_
        refine Ar.fall 18 rfl ?_
        refine At.enter rfl ?_
        refine q_iretz (by decide) ?_
        refine At.enter rfl ?_
        refine q_iretz (by decide) ?_
        refine At.enter rfl ?_
        refine r_iff 21 rfl (by decide) ?_
        refine At.enter rfl ?_
        refine r_aload_n rfl ?_
        refine r_bipush (-2) rfl ?_
        refine r_callV 27 rfl [.ref 231, .int (-2)] [] (Nat.le_of_ble_eq_true rfl) rfl (T_X11_tell_231 _ hI369 (-2) (by decide)) ?_
        rintro _ _ ⟨g439, rfl, hI440, hF441, v442, rfl, hr443⟩
        refine At.sti ?_
        have hF444 := Fr.tr hF370 hF441 rfl rfl
        have zv445 : ((-2) : Int32).toInt = (-2) := rfl
        refine At.enter rfl ?_
        refine r_ireti ?_
        have x446 := HI.eqA hI440 (p := 233) (j := 0) ((((eA_c (hF441.2.1 233 ma_X11_tell_231_233)).trans (eA_c gA_sI)).trans hv372))
        obtain ⟨v447, hv447⟩ : ∃ v, eA g0 233 4 = v := ⟨_, rfl⟩
        have wv447 := HI.t4 hI0
        rw [hv447] at wv447
        have tv447 := congrArg Int32.toInt hv447
        have x448 := HI.eqA hI440 (p := 233) (j := 4) ((((eA_c (hF441.2.1 233 ma_X11_tell_231_233)).trans (eA_c gA_sI)).trans hv447))
        obtain ⟨v449, hv449⟩ : ∃ v, eA g0 233 5 = v := ⟨_, rfl⟩
        have wv449 := HI.t5 hI0
        rw [hv449] at wv449
        have tv449 := congrArg Int32.toInt hv449
        have x450 := HI.eqA hI440 (p := 233) (j := 5) ((((eA_c (hF441.2.1 233 ma_X11_tell_231_233)).trans (eA_c gA_sI)).trans hv449))
        obtain ⟨v451, hv451⟩ : ∃ v, eA g0 233 6 = v := ⟨_, rfl⟩
        have wv451 := HI.t6 hI0
        rw [hv451] at wv451
        have tv451 := congrArg Int32.toInt hv451
        have x452 := HI.eqA hI440 (p := 233) (j := 6) ((((eA_c (hF441.2.1 233 ma_X11_tell_231_233)).trans (eA_c gA_sI)).trans hv451))
        obtain ⟨v453, hv453⟩ : ∃ v, eA g0 233 1 = v := ⟨_, rfl⟩
        have tv453 := congrArg Int32.toInt hv453
        have wv453 := HI.t1 hI0
        rw [hv453] at wv453
        have tv453 := congrArg Int32.toInt hv453
        have x454 := HI.eqA hI440 (p := 233) (j := 1) ((((eA_c (hF441.2.1 233 ma_X11_tell_231_233)).trans (eA_c gA_sI)).trans hv453))
        obtain ⟨v455, hv455⟩ : ∃ v, eA g0 233 2 = v := ⟨_, rfl⟩
        have tv455 := congrArg Int32.toInt hv455
        have wv455 := HI.t2 hI0
        rw [hv455] at wv455
        have tv455 := congrArg Int32.toInt hv455
        have x456 := HI.eqA hI440 (p := 233) (j := 2) ((((eA_c (hF441.2.1 233 ma_X11_tell_231_233)).trans (eA_c gA_sI)).trans hv455))
        obtain ⟨v457, hv457⟩ : ∃ v, eA g0 233 3 = v := ⟨_, rfl⟩
        have wv457 := HI.t3 hI0
        rw [hv457] at wv457
        have tv457 := congrArg Int32.toInt hv457
        have x458 := HI.eqA hI440 (p := 233) (j := 3) ((((eA_c (hF441.2.1 233 ma_X11_tell_231_233)).trans (eA_c gA_sI)).trans hv457))
        have x459 := HI.eqA hI0 (p := 233) (j := 0) (hv372)
        have x460 := HI.eqA hI0 (p := 233) (j := 0) (hv372)
        have x461 := HI.eqA hI0 (p := 233) (j := 4) (hv447)
        have x462 := HI.eqA hI0 (p := 233) (j := 5) (hv449)
        have x463 := HI.eqA hI0 (p := 233) (j := 6) (hv451)
        have x464 := HI.eqA hI0 (p := 233) (j := 1) (hv453)
        have x465 := HI.eqA hI0 (p := 233) (j := 2) (hv455)
        have x466 := HI.eqA hI0 (p := 233) (j := 3) (hv457)
        have x467 := HI.eqA hI0 (p := 233) (j := 0) (hv372)
        exact ⟨_, rfl, hI440, hF444, _, rfl, by omega, ⟨⟨by omega, by omega, by omega, by omega, by omega, by omega, by omega, by omega⟩, (by intro i i0 i1; refine Eq.trans ?_ (if_neg (show ¬ ((0 ≤ a1.toInt ∧ a1.toInt < (eA g0 233 0).toInt ∧ 0 ≤ a2.toInt ∧ a2.toInt < (eA g0 233 0).toInt ∧ a1.toInt ≠ a2.toInt) ∧ i = 10 + 3 * a1.toInt + 1) from by omega)).symm; refine Eq.trans ?_ (if_neg (show ¬ ((0 ≤ a1.toInt ∧ a1.toInt < (eA g0 233 0).toInt ∧ 0 ≤ a2.toInt ∧ a2.toInt < (eA g0 233 0).toInt ∧ a1.toInt ≠ a2.toInt) ∧ i = 10 + 3 * a1.toInt + 2) from by omega)).symm; refine Eq.trans ?_ (if_neg (show ¬ ((0 ≤ a1.toInt ∧ a1.toInt < (eA g0 233 0).toInt ∧ 0 ≤ a2.toInt ∧ a2.toInt < (eA g0 233 0).toInt ∧ a1.toInt ≠ a2.toInt) ∧ i = 10 + 3 * a2.toInt + 1) from by omega)).symm; refine Eq.trans ?_ (if_neg (show ¬ ((0 ≤ a1.toInt ∧ a1.toInt < (eA g0 233 0).toInt ∧ 0 ≤ a2.toInt ∧ a2.toInt < (eA g0 233 0).toInt ∧ a1.toInt ≠ a2.toInt) ∧ i = 10 + 3 * a2.toInt + 2) from by omega)).symm; refine (eA_ti (((hF441.2.1 233 ma_X11_tell_231_233).trans (gA_sI)))).trans ?_; (first | with_reducible rfl | omega | exact eA_ix (by omega) | rfl))⟩⟩
      · have c438_ : v435.toInt ≥ 0 := en_j_lt_f c438
        refine At.enter rfl ?_
        refine r_lload_n rfl ?_
        refine r_lload rfl ?_
        refine r_lcmp _ rfl ?_
        refine r_ifs 13 rfl (fun c468 => ?_) (fun c468 => ?_)
        · have c468_ : v435.toInt > v437.toInt := en_j_gt_t c468
          refine At.enter rfl ?_
          refine r_iconst 0 rfl ?_
          refine Ar.fall 18 rfl ?_
          refine At.enter rfl ?_
          refine q_iretz (by decide) ?_
          refine At.enter rfl ?_
          refine q_iretz (by decide) ?_
          refine At.enter rfl ?_
          refine r_iff 21 rfl (by decide) ?_
          refine At.enter rfl ?_
          refine r_aload_n rfl ?_
          refine r_bipush (-2) rfl ?_
          refine r_callV 27 rfl [.ref 231, .int (-2)] [] (Nat.le_of_ble_eq_true rfl) rfl (T_X11_tell_231 _ hI369 (-2) (by decide)) ?_
          rintro _ _ ⟨g469, rfl, hI470, hF471, v472, rfl, hr473⟩
          refine At.sti ?_
          have hF474 := Fr.tr hF370 hF471 rfl rfl
          have zv475 : ((-2) : Int32).toInt = (-2) := rfl
          refine At.enter rfl ?_
          refine r_ireti ?_
          have x476 := HI.eqA hI470 (p := 233) (j := 0) ((((eA_c (hF471.2.1 233 ma_X11_tell_231_233)).trans (eA_c gA_sI)).trans hv372))
          obtain ⟨v477, hv477⟩ : ∃ v, eA g0 233 4 = v := ⟨_, rfl⟩
          have wv477 := HI.t4 hI0
          rw [hv477] at wv477
          have tv477 := congrArg Int32.toInt hv477
          have x478 := HI.eqA hI470 (p := 233) (j := 4) ((((eA_c (hF471.2.1 233 ma_X11_tell_231_233)).trans (eA_c gA_sI)).trans hv477))
          obtain ⟨v479, hv479⟩ : ∃ v, eA g0 233 5 = v := ⟨_, rfl⟩
          have wv479 := HI.t5 hI0
          rw [hv479] at wv479
          have tv479 := congrArg Int32.toInt hv479
          have x480 := HI.eqA hI470 (p := 233) (j := 5) ((((eA_c (hF471.2.1 233 ma_X11_tell_231_233)).trans (eA_c gA_sI)).trans hv479))
          obtain ⟨v481, hv481⟩ : ∃ v, eA g0 233 6 = v := ⟨_, rfl⟩
          have wv481 := HI.t6 hI0
          rw [hv481] at wv481
          have tv481 := congrArg Int32.toInt hv481
          have x482 := HI.eqA hI470 (p := 233) (j := 6) ((((eA_c (hF471.2.1 233 ma_X11_tell_231_233)).trans (eA_c gA_sI)).trans hv481))
          obtain ⟨v483, hv483⟩ : ∃ v, eA g0 233 1 = v := ⟨_, rfl⟩
          have tv483 := congrArg Int32.toInt hv483
          have wv483 := HI.t1 hI0
          rw [hv483] at wv483
          have tv483 := congrArg Int32.toInt hv483
          have x484 := HI.eqA hI470 (p := 233) (j := 1) ((((eA_c (hF471.2.1 233 ma_X11_tell_231_233)).trans (eA_c gA_sI)).trans hv483))
          obtain ⟨v485, hv485⟩ : ∃ v, eA g0 233 2 = v := ⟨_, rfl⟩
          have tv485 := congrArg Int32.toInt hv485
          have wv485 := HI.t2 hI0
          rw [hv485] at wv485
          have tv485 := congrArg Int32.toInt hv485
          have x486 := HI.eqA hI470 (p := 233) (j := 2) ((((eA_c (hF471.2.1 233 ma_X11_tell_231_233)).trans (eA_c gA_sI)).trans hv485))
          obtain ⟨v487, hv487⟩ : ∃ v, eA g0 233 3 = v := ⟨_, rfl⟩
          have wv487 := HI.t3 hI0
          rw [hv487] at wv487
          have tv487 := congrArg Int32.toInt hv487
          have x488 := HI.eqA hI470 (p := 233) (j := 3) ((((eA_c (hF471.2.1 233 ma_X11_tell_231_233)).trans (eA_c gA_sI)).trans hv487))
          have x489 := HI.eqA hI0 (p := 233) (j := 0) (hv372)
          have x490 := HI.eqA hI0 (p := 233) (j := 0) (hv372)
          have x491 := HI.eqA hI0 (p := 233) (j := 4) (hv477)
          have x492 := HI.eqA hI0 (p := 233) (j := 5) (hv479)
          have x493 := HI.eqA hI0 (p := 233) (j := 6) (hv481)
          have x494 := HI.eqA hI0 (p := 233) (j := 1) (hv483)
          have x495 := HI.eqA hI0 (p := 233) (j := 2) (hv485)
          have x496 := HI.eqA hI0 (p := 233) (j := 3) (hv487)
          have x497 := HI.eqA hI0 (p := 233) (j := 0) (hv372)
          exact ⟨_, rfl, hI470, hF474, _, rfl, by omega, ⟨⟨by omega, by omega, by omega, by omega, by omega, by omega, by omega, by omega⟩, (by intro i i0 i1; refine Eq.trans ?_ (if_neg (show ¬ ((0 ≤ a1.toInt ∧ a1.toInt < (eA g0 233 0).toInt ∧ 0 ≤ a2.toInt ∧ a2.toInt < (eA g0 233 0).toInt ∧ a1.toInt ≠ a2.toInt) ∧ i = 10 + 3 * a1.toInt + 1) from by omega)).symm; refine Eq.trans ?_ (if_neg (show ¬ ((0 ≤ a1.toInt ∧ a1.toInt < (eA g0 233 0).toInt ∧ 0 ≤ a2.toInt ∧ a2.toInt < (eA g0 233 0).toInt ∧ a1.toInt ≠ a2.toInt) ∧ i = 10 + 3 * a1.toInt + 2) from by omega)).symm; refine Eq.trans ?_ (if_neg (show ¬ ((0 ≤ a1.toInt ∧ a1.toInt < (eA g0 233 0).toInt ∧ 0 ≤ a2.toInt ∧ a2.toInt < (eA g0 233 0).toInt ∧ a1.toInt ≠ a2.toInt) ∧ i = 10 + 3 * a2.toInt + 1) from by omega)).symm; refine Eq.trans ?_ (if_neg (show ¬ ((0 ≤ a1.toInt ∧ a1.toInt < (eA g0 233 0).toInt ∧ 0 ≤ a2.toInt ∧ a2.toInt < (eA g0 233 0).toInt ∧ a1.toInt ≠ a2.toInt) ∧ i = 10 + 3 * a2.toInt + 2) from by omega)).symm; refine (eA_ti (((hF471.2.1 233 ma_X11_tell_231_233).trans (gA_sI)))).trans ?_; (first | with_reducible rfl | omega | exact eA_ix (by omega) | rfl))⟩⟩
        · have c468_ : v435.toInt ≤ v437.toInt := en_j_gt_f c468
          refine At.enter rfl ?_
          refine r_iconst 1 rfl ?_
          refine r_goto ?_
          refine At.enter rfl ?_
          refine q_iretz (by decide) ?_
          refine At.enter rfl ?_
          refine q_iretz (by decide) ?_
          refine At.enter rfl ?_
          refine r_ift (by decide) ?_
          refine At.enter rfl ?_
          refine r_iload_n rfl ?_
          refine r_iload_n rfl ?_
          refine r_ics 33 rfl (fun c498 => ?_) (fun c498 => ?_)
          · have c498_ : a1.toInt ≠ a2.toInt := en_i_ne_t c498
            refine At.enter rfl ?_
            refine r_iconst 1 rfl ?_
            refine r_istore_n ([(3, .int 1), (0, .ref 231), (1, .int a1), (2, .int a2)]) rfl ?_
            refine Ar.fall 42 rfl ?_
            obtain ⟨v499, hv499⟩ : ∃ v, eA g0 233 4 = v := ⟨_, rfl⟩
            have wv499 := HI.t4 hI0
            rw [hv499] at wv499
            have tv499 := congrArg Int32.toInt hv499
            obtain ⟨v500, hv500⟩ : ∃ v, eA g0 233 5 = v := ⟨_, rfl⟩
            have wv500 := HI.t5 hI0
            rw [hv500] at wv500
            have tv500 := congrArg Int32.toInt hv500
            obtain ⟨v501, hv501⟩ : ∃ v, eA g0 233 6 = v := ⟨_, rfl⟩
            have wv501 := HI.t6 hI0
            rw [hv501] at wv501
            have tv501 := congrArg Int32.toInt hv501
            obtain ⟨v502, hv502⟩ : ∃ v, eA g0 233 1 = v := ⟨_, rfl⟩
            have tv502 := congrArg Int32.toInt hv502
            have wv502 := HI.t1 hI0
            rw [hv502] at wv502
            have tv502 := congrArg Int32.toInt hv502
            obtain ⟨v503, hv503⟩ : ∃ v, eA g0 233 2 = v := ⟨_, rfl⟩
            have tv503 := congrArg Int32.toInt hv503
            have wv503 := HI.t2 hI0
            rw [hv503] at wv503
            have tv503 := congrArg Int32.toInt hv503
            obtain ⟨v504, hv504⟩ : ∃ v, eA g0 233 3 = v := ⟨_, rfl⟩
            have wv504 := HI.t3 hI0
            rw [hv504] at wv504
            have tv504 := congrArg Int32.toInt hv504
            have z_598 : (1 : Int32).toInt = 1 := rfl
            refine w_loopI (fun n_ l_ g_ => ∃ x578 : Int32, n_ = 3 - x578.toInt ∧ HI g_ ∧ Fr F_X11_swap_231 A_X11_swap_231 g0 g_ ∧ eA g_ 233 0 = v372 ∧ eA g_ 233 4 = v499 ∧ eA g_ 233 5 = v500 ∧ eA g_ 233 6 = v501 ∧ eA g_ 233 1 = v502 ∧ eA g_ 233 2 = v503 ∧ eA g_ 233 3 = v504 ∧ en_get 0 l_ = some (.ref 231) ∧ en_get 1 l_ = some (.int a1) ∧ en_get 2 l_ = some (.int a2) ∧ en_get 3 l_ = some (.int x578) ∧ (1 ≤ x578.toInt ∧ x578.toInt ≤ 3) ∧ (∀ i : Int, 10 ≤ i → i < 5510 → (eA g_ 233 (i)).toInt = if 10 + 3 * a1.toInt + 1 ≤ i ∧ i < 10 + 3 * a1.toInt + x578.toInt then (eA g0 233 (i + 3 * a2.toInt - 3 * a1.toInt)).toInt else if 10 + 3 * a2.toInt + 1 ≤ i ∧ i < 10 + 3 * a2.toInt + x578.toInt then (eA g0 233 (i + 3 * a1.toInt - 3 * a2.toInt)).toInt else (eA g0 233 (i)).toInt)) ?_ (3 - 1) ⟨1, by first | rfl | omega, hI369, hF370, ((eA_c gA_sI).trans hv372), ((eA_c gA_sI).trans hv499), ((eA_c gA_sI).trans hv500), ((eA_c gA_sI).trans hv501), ((eA_c gA_sI).trans hv502), ((eA_c gA_sI).trans hv503), ((eA_c gA_sI).trans hv504), rfl, rfl, rfl, rfl, by decide, (by intro i i0 i1; refine Eq.trans ?_ (if_neg (show ¬ (10 + 3 * a1.toInt + 1 ≤ i ∧ i < 10 + 3 * a1.toInt + 1) from by omega)).symm; refine Eq.trans ?_ (if_neg (show ¬ (10 + 3 * a2.toInt + 1 ≤ i ∧ i < 10 + 3 * a2.toInt + 1) from by omega)).symm; refine (eA_ti ((gA_sI))).trans ?_; (first | with_reducible rfl | omega | exact eA_ix (by omega) | rfl))⟩
            rintro n583 l582 g579 ⟨x578, hm599, hI580, hF581, e585, e586, e587, e588, e589, e590, e591, e592, e593, e594, e595, r596, q597⟩ ih584
            have tv600 := congrArg Int32.toInt e585
            have tv601 := congrArg Int32.toInt e586
            have tv602 := congrArg Int32.toInt e587
            have tv603 := congrArg Int32.toInt e588
            have tv604 := congrArg Int32.toInt e589
            have tv605 := congrArg Int32.toInt e590
            have tv606 := congrArg Int32.toInt e591
            refine At.enter rfl ?_
            refine r_iload_n e595 ?_
            refine r_iconst 3 rfl ?_
            refine r_ics 47 rfl (fun c607 => ?_) (fun c607 => ?_)
            · have c607_ : x578.toInt ≥ 3 := en_i_ge_t c607
              refine At.enter rfl ?_
              refine r_aload_n e592 ?_
              refine r_iconst 0 rfl ?_
              refine r_callV 114 rfl [.ref 231, .int 0] [] (Nat.le_of_ble_eq_true rfl) rfl (T_X11_tell_231 _ hI580 0 (by decide)) ?_
              rintro _ _ ⟨g608, rfl, hI609, hF610, v611, rfl, hr612⟩
              refine At.sti ?_
              have hF613 := Fr.tr hF581 hF610 rfl rfl
              have zv614 : (0 : Int32).toInt = 0 := rfl
              refine At.enter rfl ?_
              refine r_ireti ?_
              have x615 := HI.eqA hI609 (p := 233) (j := 0) (((eA_c (hF610.2.1 233 ma_X11_tell_231_233)).trans e585))
              have x616 := HI.eqA hI609 (p := 233) (j := 4) (((eA_c (hF610.2.1 233 ma_X11_tell_231_233)).trans e586))
              have x617 := HI.eqA hI609 (p := 233) (j := 5) (((eA_c (hF610.2.1 233 ma_X11_tell_231_233)).trans e587))
              have x618 := HI.eqA hI609 (p := 233) (j := 6) (((eA_c (hF610.2.1 233 ma_X11_tell_231_233)).trans e588))
              have x619 := HI.eqA hI609 (p := 233) (j := 1) (((eA_c (hF610.2.1 233 ma_X11_tell_231_233)).trans e589))
              have x620 := HI.eqA hI609 (p := 233) (j := 2) (((eA_c (hF610.2.1 233 ma_X11_tell_231_233)).trans e590))
              have x621 := HI.eqA hI609 (p := 233) (j := 3) (((eA_c (hF610.2.1 233 ma_X11_tell_231_233)).trans e591))
              have x622 := HI.eqA hI0 (p := 233) (j := 0) (hv372)
              have x623 := HI.eqA hI0 (p := 233) (j := 0) (hv372)
              have x624 := HI.eqA hI0 (p := 233) (j := 4) (hv499)
              have x625 := HI.eqA hI0 (p := 233) (j := 5) (hv500)
              have x626 := HI.eqA hI0 (p := 233) (j := 6) (hv501)
              have x627 := HI.eqA hI0 (p := 233) (j := 1) (hv502)
              have x628 := HI.eqA hI0 (p := 233) (j := 2) (hv503)
              have x629 := HI.eqA hI0 (p := 233) (j := 3) (hv504)
              have x630 := HI.eqA hI0 (p := 233) (j := 0) (hv372)
              exact ⟨_, rfl, hI609, hF613, _, rfl, by omega, ⟨⟨by omega, by omega, by omega, by omega, by omega, by omega, by omega, by omega⟩, (by intro i i0 i1; exact (Decidable.em ((0 ≤ a1.toInt ∧ a1.toInt < (eA g0 233 0).toInt ∧ 0 ≤ a2.toInt ∧ a2.toInt < (eA g0 233 0).toInt ∧ a1.toInt ≠ a2.toInt) ∧ i = 10 + 3 * a1.toInt + 1)).elim (fun k285_ => by refine Eq.trans ?_ (if_pos k285_).symm; refine (eA_ti ((hF610.2.1 233 ma_X11_tell_231_233))).trans ?_; refine ((q597 (i) (by first | exact i0 | omega) (by first | exact i1 | omega))).trans ?_; exact (Decidable.em (10 + 3 * a1.toInt + 1 ≤ (i) ∧ (i) < 10 + 3 * a1.toInt + x578.toInt)).elim (fun k286_ => by refine (if_pos k286_).trans ?_; (first | with_reducible rfl | omega | exact eA_ix (by omega) | rfl)) (fun k286_ => by refine (if_neg k286_).trans ?_; exact (Decidable.em (10 + 3 * a2.toInt + 1 ≤ (i) ∧ (i) < 10 + 3 * a2.toInt + x578.toInt)).elim (fun k287_ => by refine (if_pos k287_).trans ?_; (first | with_reducible rfl | omega | exact eA_ix (by omega) | rfl)) (fun k287_ => by refine (if_neg k287_).trans ?_; (first | with_reducible rfl | omega | exact eA_ix (by omega) | rfl)))) (fun k285_ => by refine Eq.trans ?_ (if_neg k285_).symm; exact (Decidable.em ((0 ≤ a1.toInt ∧ a1.toInt < (eA g0 233 0).toInt ∧ 0 ≤ a2.toInt ∧ a2.toInt < (eA g0 233 0).toInt ∧ a1.toInt ≠ a2.toInt) ∧ i = 10 + 3 * a1.toInt + 2)).elim (fun k288_ => by refine Eq.trans ?_ (if_pos k288_).symm; refine (eA_ti ((hF610.2.1 233 ma_X11_tell_231_233))).trans ?_; refine ((q597 (i) (by first | exact i0 | omega) (by first | exact i1 | omega))).trans ?_; exact (Decidable.em (10 + 3 * a1.toInt + 1 ≤ (i) ∧ (i) < 10 + 3 * a1.toInt + x578.toInt)).elim (fun k289_ => by refine (if_pos k289_).trans ?_; (first | with_reducible rfl | omega | exact eA_ix (by omega) | rfl)) (fun k289_ => by refine (if_neg k289_).trans ?_; exact (Decidable.em (10 + 3 * a2.toInt + 1 ≤ (i) ∧ (i) < 10 + 3 * a2.toInt + x578.toInt)).elim (fun k290_ => by refine (if_pos k290_).trans ?_; (first | with_reducible rfl | omega | exact eA_ix (by omega) | rfl)) (fun k290_ => by refine (if_neg k290_).trans ?_; (first | with_reducible rfl | omega | exact eA_ix (by omega) | rfl)))) (fun k288_ => by refine Eq.trans ?_ (if_neg k288_).symm; exact (Decidable.em ((0 ≤ a1.toInt ∧ a1.toInt < (eA g0 233 0).toInt ∧ 0 ≤ a2.toInt ∧ a2.toInt < (eA g0 233 0).toInt ∧ a1.toInt ≠ a2.toInt) ∧ i = 10 + 3 * a2.toInt + 1)).elim (fun k291_ => by refine Eq.trans ?_ (if_pos k291_).symm; refine (eA_ti ((hF610.2.1 233 ma_X11_tell_231_233))).trans ?_; refine ((q597 (i) (by first | exact i0 | omega) (by first | exact i1 | omega))).trans ?_; exact (Decidable.em (10 + 3 * a1.toInt + 1 ≤ (i) ∧ (i) < 10 + 3 * a1.toInt + x578.toInt)).elim (fun k292_ => by refine (if_pos k292_).trans ?_; (first | with_reducible rfl | omega | exact eA_ix (by omega) | rfl)) (fun k292_ => by refine (if_neg k292_).trans ?_; exact (Decidable.em (10 + 3 * a2.toInt + 1 ≤ (i) ∧ (i) < 10 + 3 * a2.toInt + x578.toInt)).elim (fun k293_ => by refine (if_pos k293_).trans ?_; (first | with_reducible rfl | omega | exact eA_ix (by omega) | rfl)) (fun k293_ => by refine (if_neg k293_).trans ?_; (first | with_reducible rfl | omega | exact eA_ix (by omega) | rfl)))) (fun k291_ => by refine Eq.trans ?_ (if_neg k291_).symm; exact (Decidable.em ((0 ≤ a1.toInt ∧ a1.toInt < (eA g0 233 0).toInt ∧ 0 ≤ a2.toInt ∧ a2.toInt < (eA g0 233 0).toInt ∧ a1.toInt ≠ a2.toInt) ∧ i = 10 + 3 * a2.toInt + 2)).elim (fun k294_ => by refine Eq.trans ?_ (if_pos k294_).symm; refine (eA_ti ((hF610.2.1 233 ma_X11_tell_231_233))).trans ?_; refine ((q597 (i) (by first | exact i0 | omega) (by first | exact i1 | omega))).trans ?_; exact (Decidable.em (10 + 3 * a1.toInt + 1 ≤ (i) ∧ (i) < 10 + 3 * a1.toInt + x578.toInt)).elim (fun k295_ => by refine (if_pos k295_).trans ?_; (first | with_reducible rfl | omega | exact eA_ix (by omega) | rfl)) (fun k295_ => by refine (if_neg k295_).trans ?_; exact (Decidable.em (10 + 3 * a2.toInt + 1 ≤ (i) ∧ (i) < 10 + 3 * a2.toInt + x578.toInt)).elim (fun k296_ => by refine (if_pos k296_).trans ?_; (first | with_reducible rfl | omega | exact eA_ix (by omega) | rfl)) (fun k296_ => by refine (if_neg k296_).trans ?_; (first | with_reducible rfl | omega | exact eA_ix (by omega) | rfl)))) (fun k294_ => by refine Eq.trans ?_ (if_neg k294_).symm; refine (eA_ti ((hF610.2.1 233 ma_X11_tell_231_233))).trans ?_; refine ((q597 (i) (by first | exact i0 | omega) (by first | exact i1 | omega))).trans ?_; exact (Decidable.em (10 + 3 * a1.toInt + 1 ≤ (i) ∧ (i) < 10 + 3 * a1.toInt + x578.toInt)).elim (fun k297_ => by refine (if_pos k297_).trans ?_; (first | with_reducible rfl | omega | exact eA_ix (by omega) | rfl)) (fun k297_ => by refine (if_neg k297_).trans ?_; exact (Decidable.em (10 + 3 * a2.toInt + 1 ≤ (i) ∧ (i) < 10 + 3 * a2.toInt + x578.toInt)).elim (fun k298_ => by refine (if_pos k298_).trans ?_; (first | with_reducible rfl | omega | exact eA_ix (by omega) | rfl)) (fun k298_ => by refine (if_neg k298_).trans ?_; (first | with_reducible rfl | omega | exact eA_ix (by omega) | rfl))))))))⟩⟩
            · have c607_ : x578.toInt < 3 := en_i_ge_f c607
              refine At.enter rfl ?_
              refine r_aload_n e592 ?_
              refine q_getR (Sh.ref hI580.1 kx_231 rfl) ?_
              refine r_bipush 10 rfl ?_
              refine r_iconst 3 rfl ?_
              refine r_iload_n e593 ?_
              refine q_imul (3 * a1.toInt) rfl (by omega) (fun v631 hv631 => ?_)
              refine q_iadd (10 + v631.toInt) rfl (by omega) (fun v632 hv632 => ?_)
              refine r_iload_n e595 ?_
              refine q_iadd (v632.toInt + x578.toInt) rfl (by omega) (fun v633 hv633 => ?_)
              obtain ⟨v634, hv634⟩ : ∃ v, eA g579 233 (3 * a1.toInt + x578.toInt + 10) = v := ⟨_, rfl⟩
              have wv634 := HI.s12 hI580 (j := (3 * a1.toInt + x578.toInt + 10)) a1.toInt x578.toInt (by omega) (by omega) (by omega)
              rw [hv634] at wv634
              refine q_iald (Sh.arr hI580.1 ka_233) (3 * a1.toInt + x578.toInt + 10) (by omega) (by omega) v634 hv634 ?_
              refine r_istore _ rfl ?_
              refine r_aload_n (w_p1 (by decide) (Or.inr rfl) e592) ?_
              refine q_getR (Sh.ref hI580.1 kx_231 rfl) ?_
              refine r_bipush 10 rfl ?_
              refine r_iconst 3 rfl ?_
              refine r_iload_n (w_p1 (by decide) (Or.inr rfl) e593) ?_
              refine q_imul (3 * a1.toInt) rfl (by omega) (fun v635 hv635 => ?_)
              refine q_iadd (10 + v635.toInt) rfl (by omega) (fun v636 hv636 => ?_)
              refine r_iload_n (w_p1 (by decide) (Or.inr rfl) e595) ?_
              refine q_iadd (v636.toInt + x578.toInt) rfl (by omega) (fun v637 hv637 => ?_)
              refine r_aload_n (w_p1 (by decide) (Or.inr rfl) e592) ?_
              refine q_getR (Sh.ref hI580.1 kx_231 rfl) ?_
              refine r_bipush 10 rfl ?_
              refine r_iconst 3 rfl ?_
              refine r_iload_n (w_p1 (by decide) (Or.inr rfl) e594) ?_
              refine q_imul (3 * a2.toInt) rfl (by omega) (fun v638 hv638 => ?_)
              refine q_iadd (10 + v638.toInt) rfl (by omega) (fun v639 hv639 => ?_)
              refine r_iload_n (w_p1 (by decide) (Or.inr rfl) e595) ?_
              refine q_iadd (v639.toInt + x578.toInt) rfl (by omega) (fun v640 hv640 => ?_)
              obtain ⟨v641, hv641⟩ : ∃ v, eA g579 233 (3 * a2.toInt + x578.toInt + 10) = v := ⟨_, rfl⟩
              have wv641 := HI.s12 hI580 (j := (3 * a2.toInt + x578.toInt + 10)) a2.toInt x578.toInt (by omega) (by omega) (by omega)
              rw [hv641] at wv641
              refine q_iald (Sh.arr hI580.1 ka_233) (3 * a2.toInt + x578.toInt + 10) (by omega) (by omega) v641 hv641 ?_
              refine q_iast (Sh.arr hI580.1 ka_233) ((3 * a1.toInt + x578.toInt + 10)) (by omega) (by omega) ?_
              have hI642 := HI.ws hI580 (j := (3 * a1.toInt + x578.toInt + 10)) (v := v641) a1.toInt x578.toInt (by omega) (by omega) (by omega) (by omega)
              have hF643 := Fr.wA (p := 233) (j := (3 * a1.toInt + x578.toInt + 10)) (v := v641) hF581 rfl
              refine r_aload_n (w_p1 (by decide) (Or.inr rfl) e592) ?_
              refine q_getR (Sh.ref hI642.1 kx_231 rfl) ?_
              refine r_bipush 10 rfl ?_
              refine r_iconst 3 rfl ?_
              refine r_iload_n (w_p1 (by decide) (Or.inr rfl) e594) ?_
              refine q_imul (3 * a2.toInt) rfl (by omega) (fun v644 hv644 => ?_)
              refine q_iadd (10 + v644.toInt) rfl (by omega) (fun v645 hv645 => ?_)
              refine r_iload_n (w_p1 (by decide) (Or.inr rfl) e595) ?_
              refine q_iadd (v645.toInt + x578.toInt) rfl (by omega) (fun v646 hv646 => ?_)
              refine r_iload (w_e1 _ _ _) ?_
              refine q_iast (Sh.arr hI642.1 ka_233) ((3 * a2.toInt + x578.toInt + 10)) (by omega) (by omega) ?_
              have hI647 := HI.ws hI642 (j := (3 * a2.toInt + x578.toInt + 10)) (v := v634) a2.toInt x578.toInt (by omega) (by omega) (by omega) (by omega)
              have hF648 := Fr.wA (p := 233) (j := (3 * a2.toInt + x578.toInt + 10)) (v := v634) hF643 rfl
              refine q_iinc (w_p1 (by decide) (Or.inr rfl) e595) (x578.toInt + 1) rfl (by omega) (fun v649 hv649 => ?_)
              refine r_goto ?_
              exact ih584 (3 - v649.toInt) _ _ ⟨v649, by first | rfl | omega, hI647, hF648, (((eA_sA_ne hI642.1 ka_233 (by first | decide | omega) (by first | decide | omega) (by first | decide | omega)).trans (eA_sA_ne hI580.1 ka_233 (by first | decide | omega) (by first | decide | omega) (by first | decide | omega))).trans e585), (((eA_sA_ne hI642.1 ka_233 (by first | decide | omega) (by first | decide | omega) (by first | decide | omega)).trans (eA_sA_ne hI580.1 ka_233 (by first | decide | omega) (by first | decide | omega) (by first | decide | omega))).trans e586), (((eA_sA_ne hI642.1 ka_233 (by first | decide | omega) (by first | decide | omega) (by first | decide | omega)).trans (eA_sA_ne hI580.1 ka_233 (by first | decide | omega) (by first | decide | omega) (by first | decide | omega))).trans e587), (((eA_sA_ne hI642.1 ka_233 (by first | decide | omega) (by first | decide | omega) (by first | decide | omega)).trans (eA_sA_ne hI580.1 ka_233 (by first | decide | omega) (by first | decide | omega) (by first | decide | omega))).trans e588), (((eA_sA_ne hI642.1 ka_233 (by first | decide | omega) (by first | decide | omega) (by first | decide | omega)).trans (eA_sA_ne hI580.1 ka_233 (by first | decide | omega) (by first | decide | omega) (by first | decide | omega))).trans e589), (((eA_sA_ne hI642.1 ka_233 (by first | decide | omega) (by first | decide | omega) (by first | decide | omega)).trans (eA_sA_ne hI580.1 ka_233 (by first | decide | omega) (by first | decide | omega) (by first | decide | omega))).trans e590), (((eA_sA_ne hI642.1 ka_233 (by first | decide | omega) (by first | decide | omega) (by first | decide | omega)).trans (eA_sA_ne hI580.1 ka_233 (by first | decide | omega) (by first | decide | omega) (by first | decide | omega))).trans e591), (w_p1 (by decide) (Or.inr rfl) (w_p1 (by decide) (Or.inr rfl) e592)), (w_p1 (by decide) (Or.inr rfl) (w_p1 (by decide) (Or.inr rfl) e593)), (w_p1 (by decide) (Or.inr rfl) (w_p1 (by decide) (Or.inr rfl) e594)), (w_e1 _ _ _), by omega, (by intro i i0 i1; exact (Decidable.em (10 + 3 * a1.toInt + 1 ≤ i ∧ i < 10 + 3 * a1.toInt + v649.toInt)).elim (fun k299_ => by refine Eq.trans ?_ (if_pos k299_).symm; exact (Decidable.em (i = (3 * a2.toInt + x578.toInt + 10))).elim (fun k300_ => by refine (eA_eqT hI642.1 ka_233 k300_ (by first | decide | omega) (by first | decide | omega)).trans ?_; (first | (with_reducible rfl) | (omega) | (refine (congrArg Int32.toInt hv634).symm.trans ?_; refine ((q597 ((3 * a1.toInt + x578.toInt + 10)) (by omega) (by omega))).trans ?_; exact (Decidable.em (10 + 3 * a1.toInt + 1 ≤ ((3 * a1.toInt + x578.toInt + 10)) ∧ ((3 * a1.toInt + x578.toInt + 10)) < 10 + 3 * a1.toInt + x578.toInt)).elim (fun k301_ => by refine (if_pos k301_).trans ?_; (first | with_reducible rfl | omega | exact eA_ix (by omega) | rfl)) (fun k301_ => by refine (if_neg k301_).trans ?_; exact (Decidable.em (10 + 3 * a2.toInt + 1 ≤ ((3 * a1.toInt + x578.toInt + 10)) ∧ ((3 * a1.toInt + x578.toInt + 10)) < 10 + 3 * a2.toInt + x578.toInt)).elim (fun k302_ => by refine (if_pos k302_).trans ?_; (first | with_reducible rfl | omega | exact eA_ix (by omega) | rfl)) (fun k302_ => by refine (if_neg k302_).trans ?_; (first | with_reducible rfl | omega | exact eA_ix (by omega) | rfl)))) | (rfl))) (fun k300_ => by refine (eA_neT hI642.1 ka_233 k300_ (by first | decide | omega) (by omega)).trans ?_; exact (Decidable.em (i = (3 * a1.toInt + x578.toInt + 10))).elim (fun k303_ => by refine (eA_eqT hI580.1 ka_233 k303_ (by first | decide | omega) (by first | decide | omega)).trans ?_; (first | (with_reducible rfl) | (omega) | (refine (congrArg Int32.toInt hv641).symm.trans ?_; refine ((q597 ((3 * a2.toInt + x578.toInt + 10)) (by omega) (by omega))).trans ?_; exact (Decidable.em (10 + 3 * a1.toInt + 1 ≤ ((3 * a2.toInt + x578.toInt + 10)) ∧ ((3 * a2.toInt + x578.toInt + 10)) < 10 + 3 * a1.toInt + x578.toInt)).elim (fun k304_ => by refine (if_pos k304_).trans ?_; (first | with_reducible rfl | omega | exact eA_ix (by omega) | rfl)) (fun k304_ => by refine (if_neg k304_).trans ?_; exact (Decidable.em (10 + 3 * a2.toInt + 1 ≤ ((3 * a2.toInt + x578.toInt + 10)) ∧ ((3 * a2.toInt + x578.toInt + 10)) < 10 + 3 * a2.toInt + x578.toInt)).elim (fun k305_ => by refine (if_pos k305_).trans ?_; (first | with_reducible rfl | omega | exact eA_ix (by omega) | rfl)) (fun k305_ => by refine (if_neg k305_).trans ?_; (first | with_reducible rfl | omega | exact eA_ix (by omega) | rfl)))) | (rfl))) (fun k303_ => by refine (eA_neT hI580.1 ka_233 k303_ (by first | decide | omega) (by omega)).trans ?_; refine ((q597 (i) (by first | exact i0 | omega) (by first | exact i1 | omega))).trans ?_; exact (Decidable.em (10 + 3 * a1.toInt + 1 ≤ (i) ∧ (i) < 10 + 3 * a1.toInt + x578.toInt)).elim (fun k306_ => by refine (if_pos k306_).trans ?_; (first | with_reducible rfl | omega | exact eA_ix (by omega) | rfl)) (fun k306_ => by refine (if_neg k306_).trans ?_; exact (Decidable.em (10 + 3 * a2.toInt + 1 ≤ (i) ∧ (i) < 10 + 3 * a2.toInt + x578.toInt)).elim (fun k307_ => by refine (if_pos k307_).trans ?_; (first | with_reducible rfl | omega | exact eA_ix (by omega) | rfl)) (fun k307_ => by refine (if_neg k307_).trans ?_; (first | with_reducible rfl | omega | exact eA_ix (by omega) | rfl)))))) (fun k299_ => by refine Eq.trans ?_ (if_neg k299_).symm; exact (Decidable.em (10 + 3 * a2.toInt + 1 ≤ i ∧ i < 10 + 3 * a2.toInt + v649.toInt)).elim (fun k308_ => by refine Eq.trans ?_ (if_pos k308_).symm; exact (Decidable.em (i = (3 * a2.toInt + x578.toInt + 10))).elim (fun k309_ => by refine (eA_eqT hI642.1 ka_233 k309_ (by first | decide | omega) (by first | decide | omega)).trans ?_; (first | (with_reducible rfl) | (omega) | (refine (congrArg Int32.toInt hv634).symm.trans ?_; refine ((q597 ((3 * a1.toInt + x578.toInt + 10)) (by omega) (by omega))).trans ?_; exact (Decidable.em (10 + 3 * a1.toInt + 1 ≤ ((3 * a1.toInt + x578.toInt + 10)) ∧ ((3 * a1.toInt + x578.toInt + 10)) < 10 + 3 * a1.toInt + x578.toInt)).elim (fun k310_ => by refine (if_pos k310_).trans ?_; (first | with_reducible rfl | omega | exact eA_ix (by omega) | rfl)) (fun k310_ => by refine (if_neg k310_).trans ?_; exact (Decidable.em (10 + 3 * a2.toInt + 1 ≤ ((3 * a1.toInt + x578.toInt + 10)) ∧ ((3 * a1.toInt + x578.toInt + 10)) < 10 + 3 * a2.toInt + x578.toInt)).elim (fun k311_ => by refine (if_pos k311_).trans ?_; (first | with_reducible rfl | omega | exact eA_ix (by omega) | rfl)) (fun k311_ => by refine (if_neg k311_).trans ?_; (first | with_reducible rfl | omega | exact eA_ix (by omega) | rfl)))) | (rfl))) (fun k309_ => by refine (eA_neT hI642.1 ka_233 k309_ (by first | decide | omega) (by omega)).trans ?_; exact (Decidable.em (i = (3 * a1.toInt + x578.toInt + 10))).elim (fun k312_ => by refine (eA_eqT hI580.1 ka_233 k312_ (by first | decide | omega) (by first | decide | omega)).trans ?_; (first | (with_reducible rfl) | (omega) | (refine (congrArg Int32.toInt hv641).symm.trans ?_; refine ((q597 ((3 * a2.toInt + x578.toInt + 10)) (by omega) (by omega))).trans ?_; exact (Decidable.em (10 + 3 * a1.toInt + 1 ≤ ((3 * a2.toInt + x578.toInt + 10)) ∧ ((3 * a2.toInt + x578.toInt + 10)) < 10 + 3 * a1.toInt + x578.toInt)).elim (fun k313_ => by refine (if_pos k313_).trans ?_; (first | with_reducible rfl | omega | exact eA_ix (by omega) | rfl)) (fun k313_ => by refine (if_neg k313_).trans ?_; exact (Decidable.em (10 + 3 * a2.toInt + 1 ≤ ((3 * a2.toInt + x578.toInt + 10)) ∧ ((3 * a2.toInt + x578.toInt + 10)) < 10 + 3 * a2.toInt + x578.toInt)).elim (fun k314_ => by refine (if_pos k314_).trans ?_; (first | with_reducible rfl | omega | exact eA_ix (by omega) | rfl)) (fun k314_ => by refine (if_neg k314_).trans ?_; (first | with_reducible rfl | omega | exact eA_ix (by omega) | rfl)))) | (rfl))) (fun k312_ => by refine (eA_neT hI580.1 ka_233 k312_ (by first | decide | omega) (by omega)).trans ?_; refine ((q597 (i) (by first | exact i0 | omega) (by first | exact i1 | omega))).trans ?_; exact (Decidable.em (10 + 3 * a1.toInt + 1 ≤ (i) ∧ (i) < 10 + 3 * a1.toInt + x578.toInt)).elim (fun k315_ => by refine (if_pos k315_).trans ?_; (first | with_reducible rfl | omega | exact eA_ix (by omega) | rfl)) (fun k315_ => by refine (if_neg k315_).trans ?_; exact (Decidable.em (10 + 3 * a2.toInt + 1 ≤ (i) ∧ (i) < 10 + 3 * a2.toInt + x578.toInt)).elim (fun k316_ => by refine (if_pos k316_).trans ?_; (first | with_reducible rfl | omega | exact eA_ix (by omega) | rfl)) (fun k316_ => by refine (if_neg k316_).trans ?_; (first | with_reducible rfl | omega | exact eA_ix (by omega) | rfl)))))) (fun k308_ => by refine Eq.trans ?_ (if_neg k308_).symm; exact (Decidable.em (i = (3 * a2.toInt + x578.toInt + 10))).elim (fun k317_ => by refine (eA_eqT hI642.1 ka_233 k317_ (by first | decide | omega) (by first | decide | omega)).trans ?_; (first | (with_reducible rfl) | (omega) | (refine (congrArg Int32.toInt hv634).symm.trans ?_; refine ((q597 ((3 * a1.toInt + x578.toInt + 10)) (by omega) (by omega))).trans ?_; exact (Decidable.em (10 + 3 * a1.toInt + 1 ≤ ((3 * a1.toInt + x578.toInt + 10)) ∧ ((3 * a1.toInt + x578.toInt + 10)) < 10 + 3 * a1.toInt + x578.toInt)).elim (fun k318_ => by refine (if_pos k318_).trans ?_; (first | with_reducible rfl | omega | exact eA_ix (by omega) | rfl)) (fun k318_ => by refine (if_neg k318_).trans ?_; exact (Decidable.em (10 + 3 * a2.toInt + 1 ≤ ((3 * a1.toInt + x578.toInt + 10)) ∧ ((3 * a1.toInt + x578.toInt + 10)) < 10 + 3 * a2.toInt + x578.toInt)).elim (fun k319_ => by refine (if_pos k319_).trans ?_; (first | with_reducible rfl | omega | exact eA_ix (by omega) | rfl)) (fun k319_ => by refine (if_neg k319_).trans ?_; (first | with_reducible rfl | omega | exact eA_ix (by omega) | rfl)))) | (rfl))) (fun k317_ => by refine (eA_neT hI642.1 ka_233 k317_ (by first | decide | omega) (by omega)).trans ?_; exact (Decidable.em (i = (3 * a1.toInt + x578.toInt + 10))).elim (fun k320_ => by refine (eA_eqT hI580.1 ka_233 k320_ (by first | decide | omega) (by first | decide | omega)).trans ?_; (first | (with_reducible rfl) | (omega) | (refine (congrArg Int32.toInt hv641).symm.trans ?_; refine ((q597 ((3 * a2.toInt + x578.toInt + 10)) (by omega) (by omega))).trans ?_; exact (Decidable.em (10 + 3 * a1.toInt + 1 ≤ ((3 * a2.toInt + x578.toInt + 10)) ∧ ((3 * a2.toInt + x578.toInt + 10)) < 10 + 3 * a1.toInt + x578.toInt)).elim (fun k321_ => by refine (if_pos k321_).trans ?_; (first | with_reducible rfl | omega | exact eA_ix (by omega) | rfl)) (fun k321_ => by refine (if_neg k321_).trans ?_; exact (Decidable.em (10 + 3 * a2.toInt + 1 ≤ ((3 * a2.toInt + x578.toInt + 10)) ∧ ((3 * a2.toInt + x578.toInt + 10)) < 10 + 3 * a2.toInt + x578.toInt)).elim (fun k322_ => by refine (if_pos k322_).trans ?_; (first | with_reducible rfl | omega | exact eA_ix (by omega) | rfl)) (fun k322_ => by refine (if_neg k322_).trans ?_; (first | with_reducible rfl | omega | exact eA_ix (by omega) | rfl)))) | (rfl))) (fun k320_ => by refine (eA_neT hI580.1 ka_233 k320_ (by first | decide | omega) (by omega)).trans ?_; refine ((q597 (i) (by first | exact i0 | omega) (by first | exact i1 | omega))).trans ?_; exact (Decidable.em (10 + 3 * a1.toInt + 1 ≤ (i) ∧ (i) < 10 + 3 * a1.toInt + x578.toInt)).elim (fun k323_ => by refine (if_pos k323_).trans ?_; (first | with_reducible rfl | omega | exact eA_ix (by omega) | rfl)) (fun k323_ => by refine (if_neg k323_).trans ?_; exact (Decidable.em (10 + 3 * a2.toInt + 1 ≤ (i) ∧ (i) < 10 + 3 * a2.toInt + x578.toInt)).elim (fun k324_ => by refine (if_pos k324_).trans ?_; (first | with_reducible rfl | omega | exact eA_ix (by omega) | rfl)) (fun k324_ => by refine (if_neg k324_).trans ?_; (first | with_reducible rfl | omega | exact eA_ix (by omega) | rfl))))))))⟩ ⟨by omega, by omega⟩
          · have c498_ : a1.toInt = a2.toInt := en_i_ne_f c498
            refine At.enter rfl ?_
            refine r_aload_n rfl ?_
            refine r_bipush (-3) rfl ?_
            refine r_callV 39 rfl [.ref 231, .int (-3)] [] (Nat.le_of_ble_eq_true rfl) rfl (T_X11_tell_231 _ hI369 (-3) (by decide)) ?_
            rintro _ _ ⟨g650, rfl, hI651, hF652, v653, rfl, hr654⟩
            refine At.sti ?_
            have hF655 := Fr.tr hF370 hF652 rfl rfl
            have zv656 : ((-3) : Int32).toInt = (-3) := rfl
            refine At.enter rfl ?_
            refine r_ireti ?_
            have x657 := HI.eqA hI651 (p := 233) (j := 0) ((((eA_c (hF652.2.1 233 ma_X11_tell_231_233)).trans (eA_c gA_sI)).trans hv372))
            obtain ⟨v658, hv658⟩ : ∃ v, eA g0 233 4 = v := ⟨_, rfl⟩
            have wv658 := HI.t4 hI0
            rw [hv658] at wv658
            have tv658 := congrArg Int32.toInt hv658
            have x659 := HI.eqA hI651 (p := 233) (j := 4) ((((eA_c (hF652.2.1 233 ma_X11_tell_231_233)).trans (eA_c gA_sI)).trans hv658))
            obtain ⟨v660, hv660⟩ : ∃ v, eA g0 233 5 = v := ⟨_, rfl⟩
            have wv660 := HI.t5 hI0
            rw [hv660] at wv660
            have tv660 := congrArg Int32.toInt hv660
            have x661 := HI.eqA hI651 (p := 233) (j := 5) ((((eA_c (hF652.2.1 233 ma_X11_tell_231_233)).trans (eA_c gA_sI)).trans hv660))
            obtain ⟨v662, hv662⟩ : ∃ v, eA g0 233 6 = v := ⟨_, rfl⟩
            have wv662 := HI.t6 hI0
            rw [hv662] at wv662
            have tv662 := congrArg Int32.toInt hv662
            have x663 := HI.eqA hI651 (p := 233) (j := 6) ((((eA_c (hF652.2.1 233 ma_X11_tell_231_233)).trans (eA_c gA_sI)).trans hv662))
            obtain ⟨v664, hv664⟩ : ∃ v, eA g0 233 1 = v := ⟨_, rfl⟩
            have tv664 := congrArg Int32.toInt hv664
            have wv664 := HI.t1 hI0
            rw [hv664] at wv664
            have tv664 := congrArg Int32.toInt hv664
            have x665 := HI.eqA hI651 (p := 233) (j := 1) ((((eA_c (hF652.2.1 233 ma_X11_tell_231_233)).trans (eA_c gA_sI)).trans hv664))
            obtain ⟨v666, hv666⟩ : ∃ v, eA g0 233 2 = v := ⟨_, rfl⟩
            have tv666 := congrArg Int32.toInt hv666
            have wv666 := HI.t2 hI0
            rw [hv666] at wv666
            have tv666 := congrArg Int32.toInt hv666
            have x667 := HI.eqA hI651 (p := 233) (j := 2) ((((eA_c (hF652.2.1 233 ma_X11_tell_231_233)).trans (eA_c gA_sI)).trans hv666))
            obtain ⟨v668, hv668⟩ : ∃ v, eA g0 233 3 = v := ⟨_, rfl⟩
            have wv668 := HI.t3 hI0
            rw [hv668] at wv668
            have tv668 := congrArg Int32.toInt hv668
            have x669 := HI.eqA hI651 (p := 233) (j := 3) ((((eA_c (hF652.2.1 233 ma_X11_tell_231_233)).trans (eA_c gA_sI)).trans hv668))
            have x670 := HI.eqA hI0 (p := 233) (j := 0) (hv372)
            have x671 := HI.eqA hI0 (p := 233) (j := 0) (hv372)
            have x672 := HI.eqA hI0 (p := 233) (j := 4) (hv658)
            have x673 := HI.eqA hI0 (p := 233) (j := 5) (hv660)
            have x674 := HI.eqA hI0 (p := 233) (j := 6) (hv662)
            have x675 := HI.eqA hI0 (p := 233) (j := 1) (hv664)
            have x676 := HI.eqA hI0 (p := 233) (j := 2) (hv666)
            have x677 := HI.eqA hI0 (p := 233) (j := 3) (hv668)
            have x678 := HI.eqA hI0 (p := 233) (j := 0) (hv372)
            exact ⟨_, rfl, hI651, hF655, _, rfl, by omega, ⟨⟨by omega, by omega, by omega, by omega, by omega, by omega, by omega, by omega⟩, (by intro i i0 i1; refine Eq.trans ?_ (if_neg (show ¬ ((0 ≤ a1.toInt ∧ a1.toInt < (eA g0 233 0).toInt ∧ 0 ≤ a2.toInt ∧ a2.toInt < (eA g0 233 0).toInt ∧ a1.toInt ≠ a2.toInt) ∧ i = 10 + 3 * a1.toInt + 1) from by omega)).symm; refine Eq.trans ?_ (if_neg (show ¬ ((0 ≤ a1.toInt ∧ a1.toInt < (eA g0 233 0).toInt ∧ 0 ≤ a2.toInt ∧ a2.toInt < (eA g0 233 0).toInt ∧ a1.toInt ≠ a2.toInt) ∧ i = 10 + 3 * a1.toInt + 2) from by omega)).symm; refine Eq.trans ?_ (if_neg (show ¬ ((0 ≤ a1.toInt ∧ a1.toInt < (eA g0 233 0).toInt ∧ 0 ≤ a2.toInt ∧ a2.toInt < (eA g0 233 0).toInt ∧ a1.toInt ≠ a2.toInt) ∧ i = 10 + 3 * a2.toInt + 1) from by omega)).symm; refine Eq.trans ?_ (if_neg (show ¬ ((0 ≤ a1.toInt ∧ a1.toInt < (eA g0 233 0).toInt ∧ 0 ≤ a2.toInt ∧ a2.toInt < (eA g0 233 0).toInt ∧ a1.toInt ≠ a2.toInt) ∧ i = 10 + 3 * a2.toInt + 2) from by omega)).symm; refine (eA_ti (((hF652.2.1 233 ma_X11_tell_231_233).trans (gA_sI)))).trans ?_; (first | with_reducible rfl | omega | exact eA_ix (by omega) | rfl))⟩⟩
