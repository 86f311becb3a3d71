def F_X11_swap_231 : List (Nat × Nat) := [(231, 0), (231, 1)]
def A_X11_swap_231 : List Nat := [232, 233]
set_option maxRecDepth 100000 in
set_option maxHeartbeats 4000000 in
theorem T_X11_swap_231 (d : Nat) {N : Nat} {g0 : List en_E} (hI0 : HI g0) (a1 : Int32) (a2 : Int32) : Ev (d + 3) 240 [.ref 231, .int a1, .int a2] (g0, N) (fun w h' => ∃ g', h' = (g', N) ∧ HI g' ∧ Fr F_X11_swap_231 A_X11_swap_231 g0 g' ∧ ∃ r : Int32, w = some (.int r) ∧ ((-3) ≤ r.toInt ∧ r.toInt ≤ 0) ∧ (((((¬ (0 ≤ a1.toInt ∧ a1.toInt < (eA g0 233 0).toInt ∧ 0 ≤ a2.toInt ∧ a2.toInt < (eA g0 233 0).toInt) → r.toInt = -2) ∧ ((0 ≤ a1.toInt ∧ a1.toInt < (eA g0 233 0).toInt ∧ 0 ≤ a2.toInt ∧ a2.toInt < (eA g0 233 0).toInt) ∧ a1.toInt = a2.toInt → r.toInt = -3) ∧ ((0 ≤ a1.toInt ∧ a1.toInt < (eA g0 233 0).toInt ∧ 0 ≤ a2.toInt ∧ a2.toInt < (eA g0 233 0).toInt) ∧ a1.toInt ≠ a2.toInt → r.toInt = 0)) ∧ (eA g' 233 0).toInt = (eA g0 233 0).toInt ∧ (eA g' 233 4).toInt = (eA g0 233 4).toInt ∧ (eA g' 233 5).toInt = (eA g0 233 5).toInt ∧ (eA g' 233 6).toInt = (eA g0 233 6).toInt ∧ (eA g' 233 1).toInt = (eA g0 233 1).toInt ∧ (eA g' 233 2).toInt = (eA g0 233 2).toInt ∧ (eA g' 233 3).toInt = (eA g0 233 3).toInt) ∧ (∀ i : Int, 10 ≤ i → i < 110 → (eA g' 233 (i)).toInt = if (0 ≤ a1.toInt ∧ a1.toInt < (eA g0 233 0).toInt ∧ 0 ≤ a2.toInt ∧ a2.toInt < (eA g0 233 0).toInt ∧ a1.toInt ≠ a2.toInt) ∧ i = 10 + 3 * a1.toInt + 1 then (eA g0 233 (10 + 3 * a2.toInt + 1)).toInt else if (0 ≤ a1.toInt ∧ a1.toInt < (eA g0 233 0).toInt ∧ 0 ≤ a2.toInt ∧ a2.toInt < (eA g0 233 0).toInt ∧ a1.toInt ≠ a2.toInt) ∧ i = 10 + 3 * a1.toInt + 2 then (eA g0 233 (10 + 3 * a2.toInt + 2)).toInt else if (0 ≤ a1.toInt ∧ a1.toInt < (eA g0 233 0).toInt ∧ 0 ≤ a2.toInt ∧ a2.toInt < (eA g0 233 0).toInt ∧ a1.toInt ≠ a2.toInt) ∧ i = 10 + 3 * a2.toInt + 1 then (eA g0 233 (10 + 3 * a1.toInt + 1)).toInt else if (0 ≤ a1.toInt ∧ a1.toInt < (eA g0 233 0).toInt ∧ 0 ≤ a2.toInt ∧ a2.toInt < (eA g0 233 0).toInt ∧ a1.toInt ≠ a2.toInt) ∧ i = 10 + 3 * a2.toInt + 2 then (eA g0 233 (10 + 3 * a1.toInt + 2)).toInt else (eA g0 233 (i)).toInt)) ∧ SU r.toInt (gI g' 231 1).toInt)) := by
  have hF0 : Fr F_X11_swap_231 A_X11_swap_231 g0 g0 := Fr.rf
  refine Ev.mk rfl rfl ⟨Nat.le_of_ble_eq_true rfl, Or.inr (q_rc hI0.1 kx_231 rfl)⟩ ?_
  show At _ none _ _ (0, [(0, .ref 231), (1, .int a1), (2, .int a2)], [], (_, _)) _
  refine At.enter rfl ?_
  refine r_aload_n rfl ?_
  refine r_iconst 0 rfl ?_
  refine q_putI (Sh.int hI0.1 kx_231 rfl) rfl ?_
  have hI369 := HI.wI0 hI0 kx_231 rfl (p := 231) (b := 0) (v := 0) rfl
  have hF370 := Fr.wI (p := 231) (b := 0) (v := 0) hF0 rfl
  refine r_aload_n rfl ?_
  refine r_iload_n rfl ?_
  refine q_inlV 10 rfl [.ref 231, .int a1] [] (Nat.le_of_ble_eq_true rfl) rfl ?_
  refine Ev.mk rfl rfl ⟨Nat.le_of_ble_eq_true rfl, Or.inr (q_rc hI369.1 kx_231 rfl)⟩ ?_
  show At _ none _ _ (0, [(0, .ref 231), (1, .int a1)], [], (_, _)) _
  refine At.enter rfl ?_
  refine r_iload_n rfl ?_
  refine q_i2l (fun v371 hv371 => ?_)
  refine r_lconst 0 rfl ?_
  refine r_aload_n rfl ?_
  refine q_getR (Sh.ref hI369.1 kx_231 rfl) ?_
  refine r_iconst 0 rfl ?_
  obtain ⟨v372, hv372⟩ : ∃ v, eA g0 233 0 = v := ⟨_, rfl⟩
  have tv372 := congrArg Int32.toInt hv372
  have wv372 := HI.t0 hI0
  rw [hv372] at wv372
  refine q_iald (Sh.arr hI369.1 ka_233) 0 rfl (by decide) v372 ((eA_c (gA_sI)).trans hv372) ?_
  refine q_i2l (fun v373 hv373 => ?_)
  refine r_lconst 1 rfl ?_
  refine q_lsub (v373.toInt - 1) rfl (by omega) (fun v374 hv374 => ?_)
  refine q_inlS 15 rfl [.long v371, .long 0, .long v374] [] (Nat.le_of_ble_eq_true rfl) rfl ?_
  refine Ev.mk rfl rfl ⟨Nat.le_of_ble_eq_true rfl, Or.inl rfl⟩ ?_
  show At _ none _ _ (0, [(0, .long v371), (2, .long 0), (4, .long v374)], [], (_, _)) _
  refine At.enter rfl ?_
  refine r_lload_n rfl ?_
  refine r_lload_n rfl ?_
  refine r_lcmp _ rfl ?_
  refine r_ifs 6 rfl (fun c375 => ?_) (fun c375 => ?_)
  · have c375_ : v371.toInt < 0 := en_j_lt_t c375
    refine At.enter rfl ?_
    refine r_iconst 0 rfl ?_
    refine Ar.fall 18 rfl ?_
    refine At.enter rfl ?_
    refine q_iretz (by decide) ?_
    refine At.enter rfl ?_
    refine q_iretz (by decide) ?_
    refine At.enter rfl ?_
    refine r_ift (by decide) ?_
    refine At.enter rfl ?_
    refine r_aload_n rfl ?_
    refine r_bipush (-2) rfl ?_
    refine r_callV 27 rfl [.ref 231, .int (-2)] [] (Nat.le_of_ble_eq_true rfl) rfl (T_X11_tell_231 _ hI369 (-2) (by decide)) ?_
    rintro _ _ ⟨g376, rfl, hI377, hF378, v379, rfl, hr380⟩
    refine At.sti ?_
    have hF381 := Fr.tr hF370 hF378 rfl rfl
    have zv382 : ((-2) : Int32).toInt = (-2) := rfl
    refine At.enter rfl ?_
    refine r_ireti ?_
    have x383 := HI.eqA hI377 (p := 233) (j := 0) ((((eA_c (hF378.2.1 233 ma_X11_tell_231_233)).trans (eA_c gA_sI)).trans hv372))
    obtain ⟨v384, hv384⟩ : ∃ v, eA g0 233 4 = v := ⟨_, rfl⟩
    have wv384 := HI.t4 hI0
    rw [hv384] at wv384
    have tv384 := congrArg Int32.toInt hv384
    have x385 := HI.eqA hI377 (p := 233) (j := 4) ((((eA_c (hF378.2.1 233 ma_X11_tell_231_233)).trans (eA_c gA_sI)).trans hv384))
    obtain ⟨v386, hv386⟩ : ∃ v, eA g0 233 5 = v := ⟨_, rfl⟩
    have wv386 := HI.t5 hI0
    rw [hv386] at wv386
    have tv386 := congrArg Int32.toInt hv386
    have x387 := HI.eqA hI377 (p := 233) (j := 5) ((((eA_c (hF378.2.1 233 ma_X11_tell_231_233)).trans (eA_c gA_sI)).trans hv386))
    obtain ⟨v388, hv388⟩ : ∃ v, eA g0 233 6 = v := ⟨_, rfl⟩
    have wv388 := HI.t6 hI0
    rw [hv388] at wv388
    have tv388 := congrArg Int32.toInt hv388
    have x389 := HI.eqA hI377 (p := 233) (j := 6) ((((eA_c (hF378.2.1 233 ma_X11_tell_231_233)).trans (eA_c gA_sI)).trans hv388))
    obtain ⟨v390, hv390⟩ : ∃ v, eA g0 233 1 = v := ⟨_, rfl⟩
    have tv390 := congrArg Int32.toInt hv390
    have wv390 := HI.t1 hI0
    rw [hv390] at wv390
    have tv390 := congrArg Int32.toInt hv390
    have x391 := HI.eqA hI377 (p := 233) (j := 1) ((((eA_c (hF378.2.1 233 ma_X11_tell_231_233)).trans (eA_c gA_sI)).trans hv390))
    obtain ⟨v392, hv392⟩ : ∃ v, eA g0 233 2 = v := ⟨_, rfl⟩
    have tv392 := congrArg Int32.toInt hv392
    have wv392 := HI.t2 hI0
    rw [hv392] at wv392
    have tv392 := congrArg Int32.toInt hv392
    have x393 := HI.eqA hI377 (p := 233) (j := 2) ((((eA_c (hF378.2.1 233 ma_X11_tell_231_233)).trans (eA_c gA_sI)).trans hv392))
    obtain ⟨v394, hv394⟩ : ∃ v, eA g0 233 3 = v := ⟨_, rfl⟩
    have wv394 := HI.t3 hI0
    rw [hv394] at wv394
    have tv394 := congrArg Int32.toInt hv394
    have x395 := HI.eqA hI377 (p := 233) (j := 3) ((((eA_c (hF378.2.1 233 ma_X11_tell_231_233)).trans (eA_c gA_sI)).trans hv394))
    have x396 := HI.eqA hI0 (p := 233) (j := 0) (hv372)
    have x397 := HI.eqA hI0 (p := 233) (j := 0) (hv372)
    have x398 := HI.eqA hI0 (p := 233) (j := 4) (hv384)
    have x399 := HI.eqA hI0 (p := 233) (j := 5) (hv386)
    have x400 := HI.eqA hI0 (p := 233) (j := 6) (hv388)
    have x401 := HI.eqA hI0 (p := 233) (j := 1) (hv390)
    have x402 := HI.eqA hI0 (p := 233) (j := 2) (hv392)
    have x403 := HI.eqA hI0 (p := 233) (j := 3) (hv394)
    have x404 := HI.eqA hI0 (p := 233) (j := 0) (hv372)
    obtain ⟨v405, hv405⟩ : ∃ v, gI g376 231 1 = v := ⟨_, rfl⟩
    have tv405 := congrArg Int32.toInt hv405
    exact ⟨_, rfl, hI377, hF381, _, rfl, by omega, ⟨⟨⟨by omega, by omega, by omega, by omega, by omega, by omega, by omega, by omega⟩, (by intro i i0 i1; refine Eq.trans ?_ (if_neg (show ¬ ((0 ≤ a1.toInt ∧ a1.toInt < (eA g0 233 0).toInt ∧ 0 ≤ a2.toInt ∧ a2.toInt < (eA g0 233 0).toInt ∧ a1.toInt ≠ a2.toInt) ∧ i = 10 + 3 * a1.toInt + 1) from by omega)).symm; refine Eq.trans ?_ (if_neg (show ¬ ((0 ≤ a1.toInt ∧ a1.toInt < (eA g0 233 0).toInt ∧ 0 ≤ a2.toInt ∧ a2.toInt < (eA g0 233 0).toInt ∧ a1.toInt ≠ a2.toInt) ∧ i = 10 + 3 * a1.toInt + 2) from by omega)).symm; refine Eq.trans ?_ (if_neg (show ¬ ((0 ≤ a1.toInt ∧ a1.toInt < (eA g0 233 0).toInt ∧ 0 ≤ a2.toInt ∧ a2.toInt < (eA g0 233 0).toInt ∧ a1.toInt ≠ a2.toInt) ∧ i = 10 + 3 * a2.toInt + 1) from by omega)).symm; refine Eq.trans ?_ (if_neg (show ¬ ((0 ≤ a1.toInt ∧ a1.toInt < (eA g0 233 0).toInt ∧ 0 ≤ a2.toInt ∧ a2.toInt < (eA g0 233 0).toInt ∧ a1.toInt ≠ a2.toInt) ∧ i = 10 + 3 * a2.toInt + 2) from by omega)).symm; refine (eA_ti (((hF378.2.1 233 ma_X11_tell_231_233).trans (gA_sI)))).trans ?_; (first | with_reducible rfl | omega | exact eA_ix (by omega) | rfl))⟩, (SU.mk (by omega))⟩⟩
  · have c375_ : v371.toInt ≥ 0 := en_j_lt_f c375
    refine At.enter rfl ?_
    refine r_lload_n rfl ?_
    refine r_lload rfl ?_
    refine r_lcmp _ rfl ?_
    refine r_ifs 13 rfl (fun c407 => ?_) (fun c407 => ?_)
    · have c407_ : v371.toInt > v374.toInt := en_j_gt_t c407
      refine At.enter rfl ?_
      refine r_iconst 0 rfl ?_
      refine Ar.fall 18 rfl ?_
      refine At.enter rfl ?_
      refine q_iretz (by decide) ?_
      refine At.enter rfl ?_
      refine q_iretz (by decide) ?_
      refine At.enter rfl ?_
      refine r_ift (by decide) ?_
      refine At.enter rfl ?_
      refine r_aload_n rfl ?_
      refine r_bipush (-2) rfl ?_
      refine r_callV 27 rfl [.ref 231, .int (-2)] [] (Nat.le_of_ble_eq_true rfl) rfl (T_X11_tell_231 _ hI369 (-2) (by decide)) ?_
      rintro _ _ ⟨g408, rfl, hI409, hF410, v411, rfl, hr412⟩
      refine At.sti ?_
      have hF413 := Fr.tr hF370 hF410 rfl rfl
      have zv414 : ((-2) : Int32).toInt = (-2) := rfl
      refine At.enter rfl ?_
      refine r_ireti ?_
      have x415 := HI.eqA hI409 (p := 233) (j := 0) ((((eA_c (hF410.2.1 233 ma_X11_tell_231_233)).trans (eA_c gA_sI)).trans hv372))
      obtain ⟨v416, hv416⟩ : ∃ v, eA g0 233 4 = v := ⟨_, rfl⟩
      have wv416 := HI.t4 hI0
      rw [hv416] at wv416
      have tv416 := congrArg Int32.toInt hv416
      have x417 := HI.eqA hI409 (p := 233) (j := 4) ((((eA_c (hF410.2.1 233 ma_X11_tell_231_233)).trans (eA_c gA_sI)).trans hv416))
      obtain ⟨v418, hv418⟩ : ∃ v, eA g0 233 5 = v := ⟨_, rfl⟩
      have wv418 := HI.t5 hI0
      rw [hv418] at wv418
      have tv418 := congrArg Int32.toInt hv418
      have x419 := HI.eqA hI409 (p := 233) (j := 5) ((((eA_c (hF410.2.1 233 ma_X11_tell_231_233)).trans (eA_c gA_sI)).trans hv418))
      obtain ⟨v420, hv420⟩ : ∃ v, eA g0 233 6 = v := ⟨_, rfl⟩
      have wv420 := HI.t6 hI0
      rw [hv420] at wv420
      have tv420 := congrArg Int32.toInt hv420
      have x421 := HI.eqA hI409 (p := 233) (j := 6) ((((eA_c (hF410.2.1 233 ma_X11_tell_231_233)).trans (eA_c gA_sI)).trans hv420))
      obtain ⟨v422, hv422⟩ : ∃ v, eA g0 233 1 = v := ⟨_, rfl⟩
      have tv422 := congrArg Int32.toInt hv422
      have wv422 := HI.t1 hI0
      rw [hv422] at wv422
      have tv422 := congrArg Int32.toInt hv422
      have x423 := HI.eqA hI409 (p := 233) (j := 1) ((((eA_c (hF410.2.1 233 ma_X11_tell_231_233)).trans (eA_c gA_sI)).trans hv422))
      obtain ⟨v424, hv424⟩ : ∃ v, eA g0 233 2 = v := ⟨_, rfl⟩
      have tv424 := congrArg Int32.toInt hv424
      have wv424 := HI.t2 hI0
      rw [hv424] at wv424
      have tv424 := congrArg Int32.toInt hv424
      have x425 := HI.eqA hI409 (p := 233) (j := 2) ((((eA_c (hF410.2.1 233 ma_X11_tell_231_233)).trans (eA_c gA_sI)).trans hv424))
      obtain ⟨v426, hv426⟩ : ∃ v, eA g0 233 3 = v := ⟨_, rfl⟩
      have wv426 := HI.t3 hI0
      rw [hv426] at wv426
      have tv426 := congrArg Int32.toInt hv426
      have x427 := HI.eqA hI409 (p := 233) (j := 3) ((((eA_c (hF410.2.1 233 ma_X11_tell_231_233)).trans (eA_c gA_sI)).trans hv426))
      have x428 := HI.eqA hI0 (p := 233) (j := 0) (hv372)
      have x429 := HI.eqA hI0 (p := 233) (j := 0) (hv372)
      have x430 := HI.eqA hI0 (p := 233) (j := 4) (hv416)
      have x431 := HI.eqA hI0 (p := 233) (j := 5) (hv418)
      have x432 := HI.eqA hI0 (p := 233) (j := 6) (hv420)
      have x433 := HI.eqA hI0 (p := 233) (j := 1) (hv422)
      have x434 := HI.eqA hI0 (p := 233) (j := 2) (hv424)
      have x435 := HI.eqA hI0 (p := 233) (j := 3) (hv426)
      have x436 := HI.eqA hI0 (p := 233) (j := 0) (hv372)
      obtain ⟨v437, hv437⟩ : ∃ v, gI g408 231 1 = v := ⟨_, rfl⟩
      have tv437 := congrArg Int32.toInt hv437
      exact ⟨_, rfl, hI409, hF413, _, rfl, by omega, ⟨⟨⟨by omega, by omega, by omega, by omega, by omega, by omega, by omega, by omega⟩, (by intro i i0 i1; refine Eq.trans ?_ (if_neg (show ¬ ((0 ≤ a1.toInt ∧ a1.toInt < (eA g0 233 0).toInt ∧ 0 ≤ a2.toInt ∧ a2.toInt < (eA g0 233 0).toInt ∧ a1.toInt ≠ a2.toInt) ∧ i = 10 + 3 * a1.toInt + 1) from by omega)).symm; refine Eq.trans ?_ (if_neg (show ¬ ((0 ≤ a1.toInt ∧ a1.toInt < (eA g0 233 0).toInt ∧ 0 ≤ a2.toInt ∧ a2.toInt < (eA g0 233 0).toInt ∧ a1.toInt ≠ a2.toInt) ∧ i = 10 + 3 * a1.toInt + 2) from by omega)).symm; refine Eq.trans ?_ (if_neg (show ¬ ((0 ≤ a1.toInt ∧ a1.toInt < (eA g0 233 0).toInt ∧ 0 ≤ a2.toInt ∧ a2.toInt < (eA g0 233 0).toInt ∧ a1.toInt ≠ a2.toInt) ∧ i = 10 + 3 * a2.toInt + 1) from by omega)).symm; refine Eq.trans ?_ (if_neg (show ¬ ((0 ≤ a1.toInt ∧ a1.toInt < (eA g0 233 0).toInt ∧ 0 ≤ a2.toInt ∧ a2.toInt < (eA g0 233 0).toInt ∧ a1.toInt ≠ a2.toInt) ∧ i = 10 + 3 * a2.toInt + 2) from by omega)).symm; refine (eA_ti (((hF410.2.1 233 ma_X11_tell_231_233).trans (gA_sI)))).trans ?_; (first | with_reducible rfl | omega | exact eA_ix (by omega) | rfl))⟩, (SU.mk (by omega))⟩⟩
    · have c407_ : v371.toInt ≤ v374.toInt := en_j_gt_f c407
      refine At.enter rfl ?_
      refine r_iconst 1 rfl ?_
      refine r_goto ?_
      refine At.enter rfl ?_
      refine q_iretz (by decide) ?_
      refine At.enter rfl ?_
      refine q_iretz (by decide) ?_
      refine At.enter rfl ?_
      refine r_iff 13 rfl (by decide) ?_
      refine At.enter rfl ?_
      refine r_aload_n rfl ?_
      refine r_iload_n rfl ?_
      refine q_inlV 18 rfl [.ref 231, .int a2] [] (Nat.le_of_ble_eq_true rfl) rfl ?_
      refine Ev.mk rfl rfl ⟨Nat.le_of_ble_eq_true rfl, Or.inr (q_rc hI369.1 kx_231 rfl)⟩ ?_
      show At _ none _ _ (0, [(0, .ref 231), (1, .int a2)], [], (_, _)) _
      refine At.enter rfl ?_
      refine r_iload_n rfl ?_
      refine q_i2l (fun v439 hv439 => ?_)
      refine r_lconst 0 rfl ?_
      refine r_aload_n rfl ?_
      refine q_getR (Sh.ref hI369.1 kx_231 rfl) ?_
      refine r_iconst 0 rfl ?_
      refine q_iald (Sh.arr hI369.1 ka_233) 0 rfl (by decide) v372 ((eA_c (gA_sI)).trans hv372) ?_
      refine q_i2l (fun v440 hv440 => ?_)
      refine r_lconst 1 rfl ?_
      refine q_lsub (v440.toInt - 1) rfl (by omega) (fun v441 hv441 => ?_)
      refine q_inlS 15 rfl [.long v439, .long 0, .long v441] [] (Nat.le_of_ble_eq_true rfl) rfl ?_
      refine Ev.mk rfl rfl ⟨Nat.le_of_ble_eq_true rfl, Or.inl rfl⟩ ?_
      show At _ none _ _ (0, [(0, .long v439), (2, .long 0), (4, .long v441)], [], (_, _)) _
      refine At.enter rfl ?_
      refine r_lload_n rfl ?_
      refine r_lload_n rfl ?_
      refine r_lcmp _ rfl ?_
      refine r_ifs 6 rfl (fun c442 => ?_) (fun c442 => ?_)
      · have c442_ : v439.toInt < 0 := en_j_lt_t c442
        refine At.enter rfl ?_
        refine r_iconst 0 rfl ?_
        refine Ar.fall 18 rfl ?_
        refine At.enter rfl ?_
        refine q_iretz (by decide) ?_
        refine At.enter rfl ?_
        refine q_iretz (by decide) ?_
        refine At.enter rfl ?_
        refine r_iff 21 rfl (by decide) ?_
        refine At.enter rfl ?_
        refine r_aload_n rfl ?_
        refine r_bipush (-2) rfl ?_
        refine r_callV 27 rfl [.ref 231, .int (-2)] [] (Nat.le_of_ble_eq_true rfl) rfl (T_X11_tell_231 _ hI369 (-2) (by decide)) ?_
        rintro _ _ ⟨g443, rfl, hI444, hF445, v446, rfl, hr447⟩
        refine At.sti ?_
        have hF448 := Fr.tr hF370 hF445 rfl rfl
        have zv449 : ((-2) : Int32).toInt = (-2) := rfl
        refine At.enter rfl ?_
        refine r_ireti ?_
        have x450 := HI.eqA hI444 (p := 233) (j := 0) ((((eA_c (hF445.2.1 233 ma_X11_tell_231_233)).trans (eA_c gA_sI)).trans hv372))
        obtain ⟨v451, hv451⟩ : ∃ v, eA g0 233 4 = v := ⟨_, rfl⟩
        have wv451 := HI.t4 hI0
        rw [hv451] at wv451
        have tv451 := congrArg Int32.toInt hv451
        have x452 := HI.eqA hI444 (p := 233) (j := 4) ((((eA_c (hF445.2.1 233 ma_X11_tell_231_233)).trans (eA_c gA_sI)).trans hv451))
        obtain ⟨v453, hv453⟩ : ∃ v, eA g0 233 5 = v := ⟨_, rfl⟩
        have wv453 := HI.t5 hI0
        rw [hv453] at wv453
        have tv453 := congrArg Int32.toInt hv453
        have x454 := HI.eqA hI444 (p := 233) (j := 5) ((((eA_c (hF445.2.1 233 ma_X11_tell_231_233)).trans (eA_c gA_sI)).trans hv453))
        obtain ⟨v455, hv455⟩ : ∃ v, eA g0 233 6 = v := ⟨_, rfl⟩
        have wv455 := HI.t6 hI0
        rw [hv455] at wv455
        have tv455 := congrArg Int32.toInt hv455
        have x456 := HI.eqA hI444 (p := 233) (j := 6) ((((eA_c (hF445.2.1 233 ma_X11_tell_231_233)).trans (eA_c gA_sI)).trans hv455))
        obtain ⟨v457, hv457⟩ : ∃ v, eA g0 233 1 = v := ⟨_, rfl⟩
        have tv457 := congrArg Int32.toInt hv457
        have wv457 := HI.t1 hI0
        rw [hv457] at wv457
        have tv457 := congrArg Int32.toInt hv457
        have x458 := HI.eqA hI444 (p := 233) (j := 1) ((((eA_c (hF445.2.1 233 ma_X11_tell_231_233)).trans (eA_c gA_sI)).trans hv457))
        obtain ⟨v459, hv459⟩ : ∃ v, eA g0 233 2 = v := ⟨_, rfl⟩
        have tv459 := congrArg Int32.toInt hv459
        have wv459 := HI.t2 hI0
        rw [hv459] at wv459
        have tv459 := congrArg Int32.toInt hv459
        have x460 := HI.eqA hI444 (p := 233) (j := 2) ((((eA_c (hF445.2.1 233 ma_X11_tell_231_233)).trans (eA_c gA_sI)).trans hv459))
        obtain ⟨v461, hv461⟩ : ∃ v, eA g0 233 3 = v := ⟨_, rfl⟩
        have wv461 := HI.t3 hI0
        rw [hv461] at wv461
        have tv461 := congrArg Int32.toInt hv461
        have x462 := HI.eqA hI444 (p := 233) (j := 3) ((((eA_c (hF445.2.1 233 ma_X11_tell_231_233)).trans (eA_c gA_sI)).trans hv461))
        have x463 := HI.eqA hI0 (p := 233) (j := 0) (hv372)
        have x464 := HI.eqA hI0 (p := 233) (j := 0) (hv372)
        have x465 := HI.eqA hI0 (p := 233) (j := 4) (hv451)
        have x466 := HI.eqA hI0 (p := 233) (j := 5) (hv453)
        have x467 := HI.eqA hI0 (p := 233) (j := 6) (hv455)
        have x468 := HI.eqA hI0 (p := 233) (j := 1) (hv457)
        have x469 := HI.eqA hI0 (p := 233) (j := 2) (hv459)
        have x470 := HI.eqA hI0 (p := 233) (j := 3) (hv461)
        have x471 := HI.eqA hI0 (p := 233) (j := 0) (hv372)
        obtain ⟨v472, hv472⟩ : ∃ v, gI g443 231 1 = v := ⟨_, rfl⟩
        have tv472 := congrArg Int32.toInt hv472
        exact ⟨_, rfl, hI444, hF448, _, rfl, by omega, ⟨⟨⟨by omega, by omega, by omega, by omega, by omega, by omega, by omega, by omega⟩, (by intro i i0 i1; refine Eq.trans ?_ (if_neg (show ¬ ((0 ≤ a1.toInt ∧ a1.toInt < (eA g0 233 0).toInt ∧ 0 ≤ a2.toInt ∧ a2.toInt < (eA g0 233 0).toInt ∧ a1.toInt ≠ a2.toInt) ∧ i = 10 + 3 * a1.toInt + 1) from by omega)).symm; refine Eq.trans ?_ (if_neg (show ¬ ((0 ≤ a1.toInt ∧ a1.toInt < (eA g0 233 0).toInt ∧ 0 ≤ a2.toInt ∧ a2.toInt < (eA g0 233 0).toInt ∧ a1.toInt ≠ a2.toInt) ∧ i = 10 + 3 * a1.toInt + 2) from by omega)).symm; refine Eq.trans ?_ (if_neg (show ¬ ((0 ≤ a1.toInt ∧ a1.toInt < (eA g0 233 0).toInt ∧ 0 ≤ a2.toInt ∧ a2.toInt < (eA g0 233 0).toInt ∧ a1.toInt ≠ a2.toInt) ∧ i = 10 + 3 * a2.toInt + 1) from by omega)).symm; refine Eq.trans ?_ (if_neg (show ¬ ((0 ≤ a1.toInt ∧ a1.toInt < (eA g0 233 0).toInt ∧ 0 ≤ a2.toInt ∧ a2.toInt < (eA g0 233 0).toInt ∧ a1.toInt ≠ a2.toInt) ∧ i = 10 + 3 * a2.toInt + 2) from by omega)).symm; refine (eA_ti (((hF445.2.1 233 ma_X11_tell_231_233).trans (gA_sI)))).trans ?_; (first | with_reducible rfl | omega | exact eA_ix (by omega) | rfl))⟩, (SU.mk (by omega))⟩⟩
      · have c442_ : v439.toInt ≥ 0 := en_j_lt_f c442
        refine At.enter rfl ?_
        refine r_lload_n rfl ?_
        refine r_lload rfl ?_
        refine r_lcmp _ rfl ?_
        refine r_ifs 13 rfl (fun c474 => ?_) (fun c474 => ?_)
        · have c474_ : v439.toInt > v441.toInt := en_j_gt_t c474
          refine At.enter rfl ?_
          refine r_iconst 0 rfl ?_
          refine Ar.fall 18 rfl ?_
          refine At.enter rfl ?_
          refine q_iretz (by decide) ?_
          refine At.enter rfl ?_
          refine q_iretz (by decide) ?_
          refine At.enter rfl ?_
          refine r_iff 21 rfl (by decide) ?_
          refine At.enter rfl ?_
          refine r_aload_n rfl ?_
          refine r_bipush (-2) rfl ?_
          refine r_callV 27 rfl [.ref 231, .int (-2)] [] (Nat.le_of_ble_eq_true rfl) rfl (T_X11_tell_231 _ hI369 (-2) (by decide)) ?_
          rintro _ _ ⟨g475, rfl, hI476, hF477, v478, rfl, hr479⟩
          refine At.sti ?_
          have hF480 := Fr.tr hF370 hF477 rfl rfl
          have zv481 : ((-2) : Int32).toInt = (-2) := rfl
          refine At.enter rfl ?_
          refine r_ireti ?_
          have x482 := HI.eqA hI476 (p := 233) (j := 0) ((((eA_c (hF477.2.1 233 ma_X11_tell_231_233)).trans (eA_c gA_sI)).trans hv372))
          obtain ⟨v483, hv483⟩ : ∃ v, eA g0 233 4 = v := ⟨_, rfl⟩
          have wv483 := HI.t4 hI0
          rw [hv483] at wv483
          have tv483 := congrArg Int32.toInt hv483
          have x484 := HI.eqA hI476 (p := 233) (j := 4) ((((eA_c (hF477.2.1 233 ma_X11_tell_231_233)).trans (eA_c gA_sI)).trans hv483))
          obtain ⟨v485, hv485⟩ : ∃ v, eA g0 233 5 = v := ⟨_, rfl⟩
          have wv485 := HI.t5 hI0
          rw [hv485] at wv485
          have tv485 := congrArg Int32.toInt hv485
          have x486 := HI.eqA hI476 (p := 233) (j := 5) ((((eA_c (hF477.2.1 233 ma_X11_tell_231_233)).trans (eA_c gA_sI)).trans hv485))
          obtain ⟨v487, hv487⟩ : ∃ v, eA g0 233 6 = v := ⟨_, rfl⟩
          have wv487 := HI.t6 hI0
          rw [hv487] at wv487
          have tv487 := congrArg Int32.toInt hv487
          have x488 := HI.eqA hI476 (p := 233) (j := 6) ((((eA_c (hF477.2.1 233 ma_X11_tell_231_233)).trans (eA_c gA_sI)).trans hv487))
          obtain ⟨v489, hv489⟩ : ∃ v, eA g0 233 1 = v := ⟨_, rfl⟩
          have tv489 := congrArg Int32.toInt hv489
          have wv489 := HI.t1 hI0
          rw [hv489] at wv489
          have tv489 := congrArg Int32.toInt hv489
          have x490 := HI.eqA hI476 (p := 233) (j := 1) ((((eA_c (hF477.2.1 233 ma_X11_tell_231_233)).trans (eA_c gA_sI)).trans hv489))
          obtain ⟨v491, hv491⟩ : ∃ v, eA g0 233 2 = v := ⟨_, rfl⟩
          have tv491 := congrArg Int32.toInt hv491
          have wv491 := HI.t2 hI0
          rw [hv491] at wv491
          have tv491 := congrArg Int32.toInt hv491
          have x492 := HI.eqA hI476 (p := 233) (j := 2) ((((eA_c (hF477.2.1 233 ma_X11_tell_231_233)).trans (eA_c gA_sI)).trans hv491))
          obtain ⟨v493, hv493⟩ : ∃ v, eA g0 233 3 = v := ⟨_, rfl⟩
          have wv493 := HI.t3 hI0
          rw [hv493] at wv493
          have tv493 := congrArg Int32.toInt hv493
          have x494 := HI.eqA hI476 (p := 233) (j := 3) ((((eA_c (hF477.2.1 233 ma_X11_tell_231_233)).trans (eA_c gA_sI)).trans hv493))
          have x495 := HI.eqA hI0 (p := 233) (j := 0) (hv372)
          have x496 := HI.eqA hI0 (p := 233) (j := 0) (hv372)
          have x497 := HI.eqA hI0 (p := 233) (j := 4) (hv483)
          have x498 := HI.eqA hI0 (p := 233) (j := 5) (hv485)
          have x499 := HI.eqA hI0 (p := 233) (j := 6) (hv487)
          have x500 := HI.eqA hI0 (p := 233) (j := 1) (hv489)
          have x501 := HI.eqA hI0 (p := 233) (j := 2) (hv491)
          have x502 := HI.eqA hI0 (p := 233) (j := 3) (hv493)
          have x503 := HI.eqA hI0 (p := 233) (j := 0) (hv372)
          obtain ⟨v504, hv504⟩ : ∃ v, gI g475 231 1 = v := ⟨_, rfl⟩
          have tv504 := congrArg Int32.toInt hv504
          exact ⟨_, rfl, hI476, hF480, _, rfl, by omega, ⟨⟨⟨by omega, by omega, by omega, by omega, by omega, by omega, by omega, by omega⟩, (by intro i i0 i1; refine Eq.trans ?_ (if_neg (show ¬ ((0 ≤ a1.toInt ∧ a1.toInt < (eA g0 233 0).toInt ∧ 0 ≤ a2.toInt ∧ a2.toInt < (eA g0 233 0).toInt ∧ a1.toInt ≠ a2.toInt) ∧ i = 10 + 3 * a1.toInt + 1) from by omega)).symm; refine Eq.trans ?_ (if_neg (show ¬ ((0 ≤ a1.toInt ∧ a1.toInt < (eA g0 233 0).toInt ∧ 0 ≤ a2.toInt ∧ a2.toInt < (eA g0 233 0).toInt ∧ a1.toInt ≠ a2.toInt) ∧ i = 10 + 3 * a1.toInt + 2) from by omega)).symm; refine Eq.trans ?_ (if_neg (show ¬ ((0 ≤ a1.toInt ∧ a1.toInt < (eA g0 233 0).toInt ∧ 0 ≤ a2.toInt ∧ a2.toInt < (eA g0 233 0).toInt ∧ a1.toInt ≠ a2.toInt) ∧ i = 10 + 3 * a2.toInt + 1) from by omega)).symm; refine Eq.trans ?_ (if_neg (show ¬ ((0 ≤ a1.toInt ∧ a1.toInt < (eA g0 233 0).toInt ∧ 0 ≤ a2.toInt ∧ a2.toInt < (eA g0 233 0).toInt ∧ a1.toInt ≠ a2.toInt) ∧ i = 10 + 3 * a2.toInt + 2) from by omega)).symm; refine (eA_ti (((hF477.2.1 233 ma_X11_tell_231_233).trans (gA_sI)))).trans ?_; (first | with_reducible rfl | omega | exact eA_ix (by omega) | rfl))⟩, (SU.mk (by omega))⟩⟩
        · have c474_ : v439.toInt ≤ v441.toInt := en_j_gt_f c474
          refine At.enter rfl ?_
          refine r_iconst 1 rfl ?_
          refine r_goto ?_
          refine At.enter rfl ?_
          refine q_iretz (by decide) ?_
          refine At.enter rfl ?_
          refine q_iretz (by decide) ?_
          refine At.enter rfl ?_
          refine r_ift (by decide) ?_
          refine At.enter rfl ?_
          refine r_iload_n rfl ?_
          refine r_iload_n rfl ?_
          refine r_ics 33 rfl (fun c506 => ?_) (fun c506 => ?_)
          · have c506_ : a1.toInt ≠ a2.toInt := en_i_ne_t c506
            refine At.enter rfl ?_
            refine r_iconst 1 rfl ?_
            refine r_istore_n ([(3, .int 1), (0, .ref 231), (1, .int a1), (2, .int a2)]) rfl ?_
            refine Ar.fall 42 rfl ?_
            obtain ⟨v507, hv507⟩ : ∃ v, eA g0 233 4 = v := ⟨_, rfl⟩
            have wv507 := HI.t4 hI0
            rw [hv507] at wv507
            have tv507 := congrArg Int32.toInt hv507
            obtain ⟨v508, hv508⟩ : ∃ v, eA g0 233 5 = v := ⟨_, rfl⟩
            have wv508 := HI.t5 hI0
            rw [hv508] at wv508
            have tv508 := congrArg Int32.toInt hv508
            obtain ⟨v509, hv509⟩ : ∃ v, eA g0 233 6 = v := ⟨_, rfl⟩
            have wv509 := HI.t6 hI0
            rw [hv509] at wv509
            have tv509 := congrArg Int32.toInt hv509
            obtain ⟨v510, hv510⟩ : ∃ v, eA g0 233 1 = v := ⟨_, rfl⟩
            have tv510 := congrArg Int32.toInt hv510
            have wv510 := HI.t1 hI0
            rw [hv510] at wv510
            have tv510 := congrArg Int32.toInt hv510
            obtain ⟨v511, hv511⟩ : ∃ v, eA g0 233 2 = v := ⟨_, rfl⟩
            have tv511 := congrArg Int32.toInt hv511
            have wv511 := HI.t2 hI0
            rw [hv511] at wv511
            have tv511 := congrArg Int32.toInt hv511
            obtain ⟨v512, hv512⟩ : ∃ v, eA g0 233 3 = v := ⟨_, rfl⟩
            have wv512 := HI.t3 hI0
            rw [hv512] at wv512
            have tv512 := congrArg Int32.toInt hv512
            have z_606 : (1 : Int32).toInt = 1 := rfl
            refine w_loopI (fun n_ l_ g_ => ∃ x586 : Int32, n_ = 3 - x586.toInt ∧ HI g_ ∧ Fr F_X11_swap_231 A_X11_swap_231 g0 g_ ∧ eA g_ 233 0 = v372 ∧ eA g_ 233 4 = v507 ∧ eA g_ 233 5 = v508 ∧ eA g_ 233 6 = v509 ∧ eA g_ 233 1 = v510 ∧ eA g_ 233 2 = v511 ∧ eA g_ 233 3 = v512 ∧ en_get 0 l_ = some (.ref 231) ∧ en_get 1 l_ = some (.int a1) ∧ en_get 2 l_ = some (.int a2) ∧ en_get 3 l_ = some (.int x586) ∧ (1 ≤ x586.toInt ∧ x586.toInt ≤ 3) ∧ (∀ i : Int, 10 ≤ i → i < 110 → (eA g_ 233 (i)).toInt = if 10 + 3 * a1.toInt + 1 ≤ i ∧ i < 10 + 3 * a1.toInt + x586.toInt then (eA g0 233 (i + 3 * a2.toInt - 3 * a1.toInt)).toInt else if 10 + 3 * a2.toInt + 1 ≤ i ∧ i < 10 + 3 * a2.toInt + x586.toInt then (eA g0 233 (i + 3 * a1.toInt - 3 * a2.toInt)).toInt else (eA g0 233 (i)).toInt)) ?_ (3 - 1) ⟨1, by first | rfl | omega, hI369, hF370, ((eA_c gA_sI).trans hv372), ((eA_c gA_sI).trans hv507), ((eA_c gA_sI).trans hv508), ((eA_c gA_sI).trans hv509), ((eA_c gA_sI).trans hv510), ((eA_c gA_sI).trans hv511), ((eA_c gA_sI).trans hv512), rfl, rfl, rfl, rfl, by decide, (by intro i i0 i1; refine Eq.trans ?_ (if_neg (show ¬ (10 + 3 * a1.toInt + 1 ≤ i ∧ i < 10 + 3 * a1.toInt + 1) from by omega)).symm; refine Eq.trans ?_ (if_neg (show ¬ (10 + 3 * a2.toInt + 1 ≤ i ∧ i < 10 + 3 * a2.toInt + 1) from by omega)).symm; refine (eA_ti ((gA_sI))).trans ?_; (first | with_reducible rfl | omega | exact eA_ix (by omega) | rfl))⟩
            rintro n591 l590 g587 ⟨x586, hm607, hI588, hF589, e593, e594, e595, e596, e597, e598, e599, e600, e601, e602, e603, r604, q605⟩ ih592
            have tv608 := congrArg Int32.toInt e593
            have tv609 := congrArg Int32.toInt e594
            have tv610 := congrArg Int32.toInt e595
            have tv611 := congrArg Int32.toInt e596
            have tv612 := congrArg Int32.toInt e597
            have tv613 := congrArg Int32.toInt e598
            have tv614 := congrArg Int32.toInt e599
            refine At.enter rfl ?_
            refine r_iload_n e603 ?_
            refine r_iconst 3 rfl ?_
            refine r_ics 47 rfl (fun c615 => ?_) (fun c615 => ?_)
            · have c615_ : x586.toInt ≥ 3 := en_i_ge_t c615
              refine At.enter rfl ?_
              refine r_aload_n e600 ?_
              refine r_iconst 0 rfl ?_
              refine r_callV 114 rfl [.ref 231, .int 0] [] (Nat.le_of_ble_eq_true rfl) rfl (T_X11_tell_231 _ hI588 0 (by decide)) ?_
              rintro _ _ ⟨g616, rfl, hI617, hF618, v619, rfl, hr620⟩
              refine At.sti ?_
              have hF621 := Fr.tr hF589 hF618 rfl rfl
              have zv622 : (0 : Int32).toInt = 0 := rfl
              refine At.enter rfl ?_
              refine r_ireti ?_
              have x623 := HI.eqA hI617 (p := 233) (j := 0) (((eA_c (hF618.2.1 233 ma_X11_tell_231_233)).trans e593))
              have x624 := HI.eqA hI617 (p := 233) (j := 4) (((eA_c (hF618.2.1 233 ma_X11_tell_231_233)).trans e594))
              have x625 := HI.eqA hI617 (p := 233) (j := 5) (((eA_c (hF618.2.1 233 ma_X11_tell_231_233)).trans e595))
              have x626 := HI.eqA hI617 (p := 233) (j := 6) (((eA_c (hF618.2.1 233 ma_X11_tell_231_233)).trans e596))
              have x627 := HI.eqA hI617 (p := 233) (j := 1) (((eA_c (hF618.2.1 233 ma_X11_tell_231_233)).trans e597))
              have x628 := HI.eqA hI617 (p := 233) (j := 2) (((eA_c (hF618.2.1 233 ma_X11_tell_231_233)).trans e598))
              have x629 := HI.eqA hI617 (p := 233) (j := 3) (((eA_c (hF618.2.1 233 ma_X11_tell_231_233)).trans e599))
              have x630 := HI.eqA hI0 (p := 233) (j := 0) (hv372)
              have x631 := HI.eqA hI0 (p := 233) (j := 0) (hv372)
              have x632 := HI.eqA hI0 (p := 233) (j := 4) (hv507)
              have x633 := HI.eqA hI0 (p := 233) (j := 5) (hv508)
              have x634 := HI.eqA hI0 (p := 233) (j := 6) (hv509)
              have x635 := HI.eqA hI0 (p := 233) (j := 1) (hv510)
              have x636 := HI.eqA hI0 (p := 233) (j := 2) (hv511)
              have x637 := HI.eqA hI0 (p := 233) (j := 3) (hv512)
              have x638 := HI.eqA hI0 (p := 233) (j := 0) (hv372)
              obtain ⟨v639, hv639⟩ : ∃ v, gI g616 231 1 = v := ⟨_, rfl⟩
              have tv639 := congrArg Int32.toInt hv639
              exact ⟨_, rfl, hI617, hF621, _, rfl, by omega, ⟨⟨⟨by omega, by omega, by omega, by omega, by omega, by omega, by omega, by omega⟩, (by intro i i0 i1; exact (Decidable.em ((0 ≤ a1.toInt ∧ a1.toInt < (eA g0 233 0).toInt ∧ 0 ≤ a2.toInt ∧ a2.toInt < (eA g0 233 0).toInt ∧ a1.toInt ≠ a2.toInt) ∧ i = 10 + 3 * a1.toInt + 1)).elim (fun k285_ => by refine Eq.trans ?_ (if_pos k285_).symm; refine (eA_ti ((hF618.2.1 233 ma_X11_tell_231_233))).trans ?_; refine ((q605 (i) (by first | exact i0 | omega) (by first | exact i1 | omega))).trans ?_; exact (Decidable.em (10 + 3 * a1.toInt + 1 ≤ (i) ∧ (i) < 10 + 3 * a1.toInt + x586.toInt)).elim (fun k286_ => by refine (if_pos k286_).trans ?_; (first | with_reducible rfl | omega | exact eA_ix (by omega) | rfl)) (fun k286_ => by refine (if_neg k286_).trans ?_; exact (Decidable.em (10 + 3 * a2.toInt + 1 ≤ (i) ∧ (i) < 10 + 3 * a2.toInt + x586.toInt)).elim (fun k287_ => by refine (if_pos k287_).trans ?_; (first | with_reducible rfl | omega | exact eA_ix (by omega) | rfl)) (fun k287_ => by refine (if_neg k287_).trans ?_; (first | with_reducible rfl | omega | exact eA_ix (by omega) | rfl)))) (fun k285_ => by refine Eq.trans ?_ (if_neg k285_).symm; exact (Decidable.em ((0 ≤ a1.toInt ∧ a1.toInt < (eA g0 233 0).toInt ∧ 0 ≤ a2.toInt ∧ a2.toInt < (eA g0 233 0).toInt ∧ a1.toInt ≠ a2.toInt) ∧ i = 10 + 3 * a1.toInt + 2)).elim (fun k288_ => by refine Eq.trans ?_ (if_pos k288_).symm; refine (eA_ti ((hF618.2.1 233 ma_X11_tell_231_233))).trans ?_; refine ((q605 (i) (by first | exact i0 | omega) (by first | exact i1 | omega))).trans ?_; exact (Decidable.em (10 + 3 * a1.toInt + 1 ≤ (i) ∧ (i) < 10 + 3 * a1.toInt + x586.toInt)).elim (fun k289_ => by refine (if_pos k289_).trans ?_; (first | with_reducible rfl | omega | exact eA_ix (by omega) | rfl)) (fun k289_ => by refine (if_neg k289_).trans ?_; exact (Decidable.em (10 + 3 * a2.toInt + 1 ≤ (i) ∧ (i) < 10 + 3 * a2.toInt + x586.toInt)).elim (fun k290_ => by refine (if_pos k290_).trans ?_; (first | with_reducible rfl | omega | exact eA_ix (by omega) | rfl)) (fun k290_ => by refine (if_neg k290_).trans ?_; (first | with_reducible rfl | omega | exact eA_ix (by omega) | rfl)))) (fun k288_ => by refine Eq.trans ?_ (if_neg k288_).symm; exact (Decidable.em ((0 ≤ a1.toInt ∧ a1.toInt < (eA g0 233 0).toInt ∧ 0 ≤ a2.toInt ∧ a2.toInt < (eA g0 233 0).toInt ∧ a1.toInt ≠ a2.toInt) ∧ i = 10 + 3 * a2.toInt + 1)).elim (fun k291_ => by refine Eq.trans ?_ (if_pos k291_).symm; refine (eA_ti ((hF618.2.1 233 ma_X11_tell_231_233))).trans ?_; refine ((q605 (i) (by first | exact i0 | omega) (by first | exact i1 | omega))).trans ?_; exact (Decidable.em (10 + 3 * a1.toInt + 1 ≤ (i) ∧ (i) < 10 + 3 * a1.toInt + x586.toInt)).elim (fun k292_ => by refine (if_pos k292_).trans ?_; (first | with_reducible rfl | omega | exact eA_ix (by omega) | rfl)) (fun k292_ => by refine (if_neg k292_).trans ?_; exact (Decidable.em (10 + 3 * a2.toInt + 1 ≤ (i) ∧ (i) < 10 + 3 * a2.toInt + x586.toInt)).elim (fun k293_ => by refine (if_pos k293_).trans ?_; (first | with_reducible rfl | omega | exact eA_ix (by omega) | rfl)) (fun k293_ => by refine (if_neg k293_).trans ?_; (first | with_reducible rfl | omega | exact eA_ix (by omega) | rfl)))) (fun k291_ => by refine Eq.trans ?_ (if_neg k291_).symm; exact (Decidable.em ((0 ≤ a1.toInt ∧ a1.toInt < (eA g0 233 0).toInt ∧ 0 ≤ a2.toInt ∧ a2.toInt < (eA g0 233 0).toInt ∧ a1.toInt ≠ a2.toInt) ∧ i = 10 + 3 * a2.toInt + 2)).elim (fun k294_ => by refine Eq.trans ?_ (if_pos k294_).symm; refine (eA_ti ((hF618.2.1 233 ma_X11_tell_231_233))).trans ?_; refine ((q605 (i) (by first | exact i0 | omega) (by first | exact i1 | omega))).trans ?_; exact (Decidable.em (10 + 3 * a1.toInt + 1 ≤ (i) ∧ (i) < 10 + 3 * a1.toInt + x586.toInt)).elim (fun k295_ => by refine (if_pos k295_).trans ?_; (first | with_reducible rfl | omega | exact eA_ix (by omega) | rfl)) (fun k295_ => by refine (if_neg k295_).trans ?_; exact (Decidable.em (10 + 3 * a2.toInt + 1 ≤ (i) ∧ (i) < 10 + 3 * a2.toInt + x586.toInt)).elim (fun k296_ => by refine (if_pos k296_).trans ?_; (first | with_reducible rfl | omega | exact eA_ix (by omega) | rfl)) (fun k296_ => by refine (if_neg k296_).trans ?_; (first | with_reducible rfl | omega | exact eA_ix (by omega) | rfl)))) (fun k294_ => by refine Eq.trans ?_ (if_neg k294_).symm; refine (eA_ti ((hF618.2.1 233 ma_X11_tell_231_233))).trans ?_; refine ((q605 (i) (by first | exact i0 | omega) (by first | exact i1 | omega))).trans ?_; exact (Decidable.em (10 + 3 * a1.toInt + 1 ≤ (i) ∧ (i) < 10 + 3 * a1.toInt + x586.toInt)).elim (fun k297_ => by refine (if_pos k297_).trans ?_; (first | with_reducible rfl | omega | exact eA_ix (by omega) | rfl)) (fun k297_ => by refine (if_neg k297_).trans ?_; exact (Decidable.em (10 + 3 * a2.toInt + 1 ≤ (i) ∧ (i) < 10 + 3 * a2.toInt + x586.toInt)).elim (fun k298_ => by refine (if_pos k298_).trans ?_; (first | with_reducible rfl | omega | exact eA_ix (by omega) | rfl)) (fun k298_ => by refine (if_neg k298_).trans ?_; (first | with_reducible rfl | omega | exact eA_ix (by omega) | rfl))))))))⟩, (SU.mk (by omega))⟩⟩
            · have c615_ : x586.toInt < 3 := en_i_ge_f c615
              refine At.enter rfl ?_
              refine r_aload_n e600 ?_
              refine q_getR (Sh.ref hI588.1 kx_231 rfl) ?_
              refine r_bipush 10 rfl ?_
              refine r_iconst 3 rfl ?_
              refine r_iload_n e601 ?_
              refine q_imul (3 * a1.toInt) rfl (by omega) (fun v641 hv641 => ?_)
              refine q_iadd (10 + v641.toInt) rfl (by omega) (fun v642 hv642 => ?_)
              refine r_iload_n e603 ?_
              refine q_iadd (v642.toInt + x586.toInt) rfl (by omega) (fun v643 hv643 => ?_)
              obtain ⟨v644, hv644⟩ : ∃ v, eA g587 233 (3 * a1.toInt + x586.toInt + 10) = v := ⟨_, rfl⟩
              have wv644 := HI.s12 hI588 (j := (3 * a1.toInt + x586.toInt + 10)) a1.toInt x586.toInt (by omega) (by omega) (by omega)
              rw [hv644] at wv644
              refine q_iald (Sh.arr hI588.1 ka_233) (3 * a1.toInt + x586.toInt + 10) (by omega) (by omega) v644 hv644 ?_
              refine r_istore _ rfl ?_
              refine r_aload_n (w_p1 (by decide) (Or.inr rfl) e600) ?_
              refine q_getR (Sh.ref hI588.1 kx_231 rfl) ?_
              refine r_bipush 10 rfl ?_
              refine r_iconst 3 rfl ?_
              refine r_iload_n (w_p1 (by decide) (Or.inr rfl) e601) ?_
              refine q_imul (3 * a1.toInt) rfl (by omega) (fun v645 hv645 => ?_)
              refine q_iadd (10 + v645.toInt) rfl (by omega) (fun v646 hv646 => ?_)
              refine r_iload_n (w_p1 (by decide) (Or.inr rfl) e603) ?_
              refine q_iadd (v646.toInt + x586.toInt) rfl (by omega) (fun v647 hv647 => ?_)
              refine r_aload_n (w_p1 (by decide) (Or.inr rfl) e600) ?_
              refine q_getR (Sh.ref hI588.1 kx_231 rfl) ?_
              refine r_bipush 10 rfl ?_
              refine r_iconst 3 rfl ?_
              refine r_iload_n (w_p1 (by decide) (Or.inr rfl) e602) ?_
              refine q_imul (3 * a2.toInt) rfl (by omega) (fun v648 hv648 => ?_)
              refine q_iadd (10 + v648.toInt) rfl (by omega) (fun v649 hv649 => ?_)
              refine r_iload_n (w_p1 (by decide) (Or.inr rfl) e603) ?_
              refine q_iadd (v649.toInt + x586.toInt) rfl (by omega) (fun v650 hv650 => ?_)
              obtain ⟨v651, hv651⟩ : ∃ v, eA g587 233 (3 * a2.toInt + x586.toInt + 10) = v := ⟨_, rfl⟩
              have wv651 := HI.s12 hI588 (j := (3 * a2.toInt + x586.toInt + 10)) a2.toInt x586.toInt (by omega) (by omega) (by omega)
              rw [hv651] at wv651
              refine q_iald (Sh.arr hI588.1 ka_233) (3 * a2.toInt + x586.toInt + 10) (by omega) (by omega) v651 hv651 ?_
              refine q_iast (Sh.arr hI588.1 ka_233) ((3 * a1.toInt + x586.toInt + 10)) (by omega) (by omega) ?_
              have hI652 := HI.ws hI588 (j := (3 * a1.toInt + x586.toInt + 10)) (v := v651) a1.toInt x586.toInt (by omega) (by omega) (by omega) (by omega)
              have hF653 := Fr.wA (p := 233) (j := (3 * a1.toInt + x586.toInt + 10)) (v := v651) hF589 rfl
              refine r_aload_n (w_p1 (by decide) (Or.inr rfl) e600) ?_
              refine q_getR (Sh.ref hI652.1 kx_231 rfl) ?_
              refine r_bipush 10 rfl ?_
              refine r_iconst 3 rfl ?_
              refine r_iload_n (w_p1 (by decide) (Or.inr rfl) e602) ?_
              refine q_imul (3 * a2.toInt) rfl (by omega) (fun v654 hv654 => ?_)
              refine q_iadd (10 + v654.toInt) rfl (by omega) (fun v655 hv655 => ?_)
              refine r_iload_n (w_p1 (by decide) (Or.inr rfl) e603) ?_
              refine q_iadd (v655.toInt + x586.toInt) rfl (by omega) (fun v656 hv656 => ?_)
              refine r_iload (w_e1 _ _ _) ?_
              refine q_iast (Sh.arr hI652.1 ka_233) ((3 * a2.toInt + x586.toInt + 10)) (by omega) (by omega) ?_
              have hI657 := HI.ws hI652 (j := (3 * a2.toInt + x586.toInt + 10)) (v := v644) a2.toInt x586.toInt (by omega) (by omega) (by omega) (by omega)
              have hF658 := Fr.wA (p := 233) (j := (3 * a2.toInt + x586.toInt + 10)) (v := v644) hF653 rfl
              refine q_iinc (w_p1 (by decide) (Or.inr rfl) e603) (x586.toInt + 1) rfl (by omega) (fun v659 hv659 => ?_)
              refine r_goto ?_
              exact ih592 (3 - v659.toInt) _ _ ⟨v659, by first | rfl | omega, hI657, hF658, (((eA_sA_ne hI652.1 ka_233 (by first | decide | omega) (by first | decide | omega) (by first | decide | omega)).trans (eA_sA_ne hI588.1 ka_233 (by first | decide | omega) (by first | decide | omega) (by first | decide | omega))).trans e593), (((eA_sA_ne hI652.1 ka_233 (by first | decide | omega) (by first | decide | omega) (by first | decide | omega)).trans (eA_sA_ne hI588.1 ka_233 (by first | decide | omega) (by first | decide | omega) (by first | decide | omega))).trans e594), (((eA_sA_ne hI652.1 ka_233 (by first | decide | omega) (by first | decide | omega) (by first | decide | omega)).trans (eA_sA_ne hI588.1 ka_233 (by first | decide | omega) (by first | decide | omega) (by first | decide | omega))).trans e595), (((eA_sA_ne hI652.1 ka_233 (by first | decide | omega) (by first | decide | omega) (by first | decide | omega)).trans (eA_sA_ne hI588.1 ka_233 (by first | decide | omega) (by first | decide | omega) (by first | decide | omega))).trans e596), (((eA_sA_ne hI652.1 ka_233 (by first | decide | omega) (by first | decide | omega) (by first | decide | omega)).trans (eA_sA_ne hI588.1 ka_233 (by first | decide | omega) (by first | decide | omega) (by first | decide | omega))).trans e597), (((eA_sA_ne hI652.1 ka_233 (by first | decide | omega) (by first | decide | omega) (by first | decide | omega)).trans (eA_sA_ne hI588.1 ka_233 (by first | decide | omega) (by first | decide | omega) (by first | decide | omega))).trans e598), (((eA_sA_ne hI652.1 ka_233 (by first | decide | omega) (by first | decide | omega) (by first | decide | omega)).trans (eA_sA_ne hI588.1 ka_233 (by first | decide | omega) (by first | decide | omega) (by first | decide | omega))).trans e599), (w_p1 (by decide) (Or.inr rfl) (w_p1 (by decide) (Or.inr rfl) e600)), (w_p1 (by decide) (Or.inr rfl) (w_p1 (by decide) (Or.inr rfl) e601)), (w_p1 (by decide) (Or.inr rfl) (w_p1 (by decide) (Or.inr rfl) e602)), (w_e1 _ _ _), by omega, (by intro i i0 i1; exact (Decidable.em (10 + 3 * a1.toInt + 1 ≤ i ∧ i < 10 + 3 * a1.toInt + v659.toInt)).elim (fun k299_ => by refine Eq.trans ?_ (if_pos k299_).symm; exact (Decidable.em (i = (3 * a2.toInt + x586.toInt + 10))).elim (fun k300_ => by refine (eA_eqT hI652.1 ka_233 k300_ (by first | decide | omega) (by first | decide | omega)).trans ?_; (first | (with_reducible rfl) | (omega) | (refine (congrArg Int32.toInt hv644).symm.trans ?_; refine ((q605 ((3 * a1.toInt + x586.toInt + 10)) (by omega) (by omega))).trans ?_; exact (Decidable.em (10 + 3 * a1.toInt + 1 ≤ ((3 * a1.toInt + x586.toInt + 10)) ∧ ((3 * a1.toInt + x586.toInt + 10)) < 10 + 3 * a1.toInt + x586.toInt)).elim (fun k301_ => by refine (if_pos k301_).trans ?_; (first | with_reducible rfl | omega | exact eA_ix (by omega) | rfl)) (fun k301_ => by refine (if_neg k301_).trans ?_; exact (Decidable.em (10 + 3 * a2.toInt + 1 ≤ ((3 * a1.toInt + x586.toInt + 10)) ∧ ((3 * a1.toInt + x586.toInt + 10)) < 10 + 3 * a2.toInt + x586.toInt)).elim (fun k302_ => by refine (if_pos k302_).trans ?_; (first | with_reducible rfl | omega | exact eA_ix (by omega) | rfl)) (fun k302_ => by refine (if_neg k302_).trans ?_; (first | with_reducible rfl | omega | exact eA_ix (by omega) | rfl)))) | (rfl))) (fun k300_ => by refine (eA_neT hI652.1 ka_233 k300_ (by first | decide | omega) (by omega)).trans ?_; exact (Decidable.em (i = (3 * a1.toInt + x586.toInt + 10))).elim (fun k303_ => by refine (eA_eqT hI588.1 ka_233 k303_ (by first | decide | omega) (by first | decide | omega)).trans ?_; (first | (with_reducible rfl) | (omega) | (refine (congrArg Int32.toInt hv651).symm.trans ?_; refine ((q605 ((3 * a2.toInt + x586.toInt + 10)) (by omega) (by omega))).trans ?_; exact (Decidable.em (10 + 3 * a1.toInt + 1 ≤ ((3 * a2.toInt + x586.toInt + 10)) ∧ ((3 * a2.toInt + x586.toInt + 10)) < 10 + 3 * a1.toInt + x586.toInt)).elim (fun k304_ => by refine (if_pos k304_).trans ?_; (first | with_reducible rfl | omega | exact eA_ix (by omega) | rfl)) (fun k304_ => by refine (if_neg k304_).trans ?_; exact (Decidable.em (10 + 3 * a2.toInt + 1 ≤ ((3 * a2.toInt + x586.toInt + 10)) ∧ ((3 * a2.toInt + x586.toInt + 10)) < 10 + 3 * a2.toInt + x586.toInt)).elim (fun k305_ => by refine (if_pos k305_).trans ?_; (first | with_reducible rfl | omega | exact eA_ix (by omega) | rfl)) (fun k305_ => by refine (if_neg k305_).trans ?_; (first | with_reducible rfl | omega | exact eA_ix (by omega) | rfl)))) | (rfl))) (fun k303_ => by refine (eA_neT hI588.1 ka_233 k303_ (by first | decide | omega) (by omega)).trans ?_; refine ((q605 (i) (by first | exact i0 | omega) (by first | exact i1 | omega))).trans ?_; exact (Decidable.em (10 + 3 * a1.toInt + 1 ≤ (i) ∧ (i) < 10 + 3 * a1.toInt + x586.toInt)).elim (fun k306_ => by refine (if_pos k306_).trans ?_; (first | with_reducible rfl | omega | exact eA_ix (by omega) | rfl)) (fun k306_ => by refine (if_neg k306_).trans ?_; exact (Decidable.em (10 + 3 * a2.toInt + 1 ≤ (i) ∧ (i) < 10 + 3 * a2.toInt + x586.toInt)).elim (fun k307_ => by refine (if_pos k307_).trans ?_; (first | with_reducible rfl | omega | exact eA_ix (by omega) | rfl)) (fun k307_ => by refine (if_neg k307_).trans ?_; (first | with_reducible rfl | omega | exact eA_ix (by omega) | rfl)))))) (fun k299_ => by refine Eq.trans ?_ (if_neg k299_).symm; exact (Decidable.em (10 + 3 * a2.toInt + 1 ≤ i ∧ i < 10 + 3 * a2.toInt + v659.toInt)).elim (fun k308_ => by refine Eq.trans ?_ (if_pos k308_).symm; exact (Decidable.em (i = (3 * a2.toInt + x586.toInt + 10))).elim (fun k309_ => by refine (eA_eqT hI652.1 ka_233 k309_ (by first | decide | omega) (by first | decide | omega)).trans ?_; (first | (with_reducible rfl) | (omega) | (refine (congrArg Int32.toInt hv644).symm.trans ?_; refine ((q605 ((3 * a1.toInt + x586.toInt + 10)) (by omega) (by omega))).trans ?_; exact (Decidable.em (10 + 3 * a1.toInt + 1 ≤ ((3 * a1.toInt + x586.toInt + 10)) ∧ ((3 * a1.toInt + x586.toInt + 10)) < 10 + 3 * a1.toInt + x586.toInt)).elim (fun k310_ => by refine (if_pos k310_).trans ?_; (first | with_reducible rfl | omega | exact eA_ix (by omega) | rfl)) (fun k310_ => by refine (if_neg k310_).trans ?_; exact (Decidable.em (10 + 3 * a2.toInt + 1 ≤ ((3 * a1.toInt + x586.toInt + 10)) ∧ ((3 * a1.toInt + x586.toInt + 10)) < 10 + 3 * a2.toInt + x586.toInt)).elim (fun k311_ => by refine (if_pos k311_).trans ?_; (first | with_reducible rfl | omega | exact eA_ix (by omega) | rfl)) (fun k311_ => by refine (if_neg k311_).trans ?_; (first | with_reducible rfl | omega | exact eA_ix (by omega) | rfl)))) | (rfl))) (fun k309_ => by refine (eA_neT hI652.1 ka_233 k309_ (by first | decide | omega) (by omega)).trans ?_; exact (Decidable.em (i = (3 * a1.toInt + x586.toInt + 10))).elim (fun k312_ => by refine (eA_eqT hI588.1 ka_233 k312_ (by first | decide | omega) (by first | decide | omega)).trans ?_; (first | (with_reducible rfl) | (omega) | (refine (congrArg Int32.toInt hv651).symm.trans ?_; refine ((q605 ((3 * a2.toInt + x586.toInt + 10)) (by omega) (by omega))).trans ?_; exact (Decidable.em (10 + 3 * a1.toInt + 1 ≤ ((3 * a2.toInt + x586.toInt + 10)) ∧ ((3 * a2.toInt + x586.toInt + 10)) < 10 + 3 * a1.toInt + x586.toInt)).elim (fun k313_ => by refine (if_pos k313_).trans ?_; (first | with_reducible rfl | omega | exact eA_ix (by omega) | rfl)) (fun k313_ => by refine (if_neg k313_).trans ?_; exact (Decidable.em (10 + 3 * a2.toInt + 1 ≤ ((3 * a2.toInt + x586.toInt + 10)) ∧ ((3 * a2.toInt + x586.toInt + 10)) < 10 + 3 * a2.toInt + x586.toInt)).elim (fun k314_ => by refine (if_pos k314_).trans ?_; (first | with_reducible rfl | omega | exact eA_ix (by omega) | rfl)) (fun k314_ => by refine (if_neg k314_).trans ?_; (first | with_reducible rfl | omega | exact eA_ix (by omega) | rfl)))) | (rfl))) (fun k312_ => by refine (eA_neT hI588.1 ka_233 k312_ (by first | decide | omega) (by omega)).trans ?_; refine ((q605 (i) (by first | exact i0 | omega) (by first | exact i1 | omega))).trans ?_; exact (Decidable.em (10 + 3 * a1.toInt + 1 ≤ (i) ∧ (i) < 10 + 3 * a1.toInt + x586.toInt)).elim (fun k315_ => by refine (if_pos k315_).trans ?_; (first | with_reducible rfl | omega | exact eA_ix (by omega) | rfl)) (fun k315_ => by refine (if_neg k315_).trans ?_; exact (Decidable.em (10 + 3 * a2.toInt + 1 ≤ (i) ∧ (i) < 10 + 3 * a2.toInt + x586.toInt)).elim (fun k316_ => by refine (if_pos k316_).trans ?_; (first | with_reducible rfl | omega | exact eA_ix (by omega) | rfl)) (fun k316_ => by refine (if_neg k316_).trans ?_; (first | with_reducible rfl | omega | exact eA_ix (by omega) | rfl)))))) (fun k308_ => by refine Eq.trans ?_ (if_neg k308_).symm; exact (Decidable.em (i = (3 * a2.toInt + x586.toInt + 10))).elim (fun k317_ => by refine (eA_eqT hI652.1 ka_233 k317_ (by first | decide | omega) (by first | decide | omega)).trans ?_; (first | (with_reducible rfl) | (omega) | (refine (congrArg Int32.toInt hv644).symm.trans ?_; refine ((q605 ((3 * a1.toInt + x586.toInt + 10)) (by omega) (by omega))).trans ?_; exact (Decidable.em (10 + 3 * a1.toInt + 1 ≤ ((3 * a1.toInt + x586.toInt + 10)) ∧ ((3 * a1.toInt + x586.toInt + 10)) < 10 + 3 * a1.toInt + x586.toInt)).elim (fun k318_ => by refine (if_pos k318_).trans ?_; (first | with_reducible rfl | omega | exact eA_ix (by omega) | rfl)) (fun k318_ => by refine (if_neg k318_).trans ?_; exact (Decidable.em (10 + 3 * a2.toInt + 1 ≤ ((3 * a1.toInt + x586.toInt + 10)) ∧ ((3 * a1.toInt + x586.toInt + 10)) < 10 + 3 * a2.toInt + x586.toInt)).elim (fun k319_ => by refine (if_pos k319_).trans ?_; (first | with_reducible rfl | omega | exact eA_ix (by omega) | rfl)) (fun k319_ => by refine (if_neg k319_).trans ?_; (first | with_reducible rfl | omega | exact eA_ix (by omega) | rfl)))) | (rfl))) (fun k317_ => by refine (eA_neT hI652.1 ka_233 k317_ (by first | decide | omega) (by omega)).trans ?_; exact (Decidable.em (i = (3 * a1.toInt + x586.toInt + 10))).elim (fun k320_ => by refine (eA_eqT hI588.1 ka_233 k320_ (by first | decide | omega) (by first | decide | omega)).trans ?_; (first | (with_reducible rfl) | (omega) | (refine (congrArg Int32.toInt hv651).symm.trans ?_; refine ((q605 ((3 * a2.toInt + x586.toInt + 10)) (by omega) (by omega))).trans ?_; exact (Decidable.em (10 + 3 * a1.toInt + 1 ≤ ((3 * a2.toInt + x586.toInt + 10)) ∧ ((3 * a2.toInt + x586.toInt + 10)) < 10 + 3 * a1.toInt + x586.toInt)).elim (fun k321_ => by refine (if_pos k321_).trans ?_; (first | with_reducible rfl | omega | exact eA_ix (by omega) | rfl)) (fun k321_ => by refine (if_neg k321_).trans ?_; exact (Decidable.em (10 + 3 * a2.toInt + 1 ≤ ((3 * a2.toInt + x586.toInt + 10)) ∧ ((3 * a2.toInt + x586.toInt + 10)) < 10 + 3 * a2.toInt + x586.toInt)).elim (fun k322_ => by refine (if_pos k322_).trans ?_; (first | with_reducible rfl | omega | exact eA_ix (by omega) | rfl)) (fun k322_ => by refine (if_neg k322_).trans ?_; (first | with_reducible rfl | omega | exact eA_ix (by omega) | rfl)))) | (rfl))) (fun k320_ => by refine (eA_neT hI588.1 ka_233 k320_ (by first | decide | omega) (by omega)).trans ?_; refine ((q605 (i) (by first | exact i0 | omega) (by first | exact i1 | omega))).trans ?_; exact (Decidable.em (10 + 3 * a1.toInt + 1 ≤ (i) ∧ (i) < 10 + 3 * a1.toInt + x586.toInt)).elim (fun k323_ => by refine (if_pos k323_).trans ?_; (first | with_reducible rfl | omega | exact eA_ix (by omega) | rfl)) (fun k323_ => by refine (if_neg k323_).trans ?_; exact (Decidable.em (10 + 3 * a2.toInt + 1 ≤ (i) ∧ (i) < 10 + 3 * a2.toInt + x586.toInt)).elim (fun k324_ => by refine (if_pos k324_).trans ?_; (first | with_reducible rfl | omega | exact eA_ix (by omega) | rfl)) (fun k324_ => by refine (if_neg k324_).trans ?_; (first | with_reducible rfl | omega | exact eA_ix (by omega) | rfl))))))))⟩ ⟨by omega, by omega⟩
          · have c506_ : a1.toInt = a2.toInt := en_i_ne_f c506
            refine At.enter rfl ?_
            refine r_aload_n rfl ?_
            refine r_bipush (-3) rfl ?_
            refine r_callV 39 rfl [.ref 231, .int (-3)] [] (Nat.le_of_ble_eq_true rfl) rfl (T_X11_tell_231 _ hI369 (-3) (by decide)) ?_
            rintro _ _ ⟨g660, rfl, hI661, hF662, v663, rfl, hr664⟩
            refine At.sti ?_
            have hF665 := Fr.tr hF370 hF662 rfl rfl
            have zv666 : ((-3) : Int32).toInt = (-3) := rfl
            refine At.enter rfl ?_
            refine r_ireti ?_
            have x667 := HI.eqA hI661 (p := 233) (j := 0) ((((eA_c (hF662.2.1 233 ma_X11_tell_231_233)).trans (eA_c gA_sI)).trans hv372))
            obtain ⟨v668, hv668⟩ : ∃ v, eA g0 233 4 = v := ⟨_, rfl⟩
            have wv668 := HI.t4 hI0
            rw [hv668] at wv668
            have tv668 := congrArg Int32.toInt hv668
            have x669 := HI.eqA hI661 (p := 233) (j := 4) ((((eA_c (hF662.2.1 233 ma_X11_tell_231_233)).trans (eA_c gA_sI)).trans hv668))
            obtain ⟨v670, hv670⟩ : ∃ v, eA g0 233 5 = v := ⟨_, rfl⟩
            have wv670 := HI.t5 hI0
            rw [hv670] at wv670
            have tv670 := congrArg Int32.toInt hv670
            have x671 := HI.eqA hI661 (p := 233) (j := 5) ((((eA_c (hF662.2.1 233 ma_X11_tell_231_233)).trans (eA_c gA_sI)).trans hv670))
            obtain ⟨v672, hv672⟩ : ∃ v, eA g0 233 6 = v := ⟨_, rfl⟩
            have wv672 := HI.t6 hI0
            rw [hv672] at wv672
            have tv672 := congrArg Int32.toInt hv672
            have x673 := HI.eqA hI661 (p := 233) (j := 6) ((((eA_c (hF662.2.1 233 ma_X11_tell_231_233)).trans (eA_c gA_sI)).trans hv672))
            obtain ⟨v674, hv674⟩ : ∃ v, eA g0 233 1 = v := ⟨_, rfl⟩
            have tv674 := congrArg Int32.toInt hv674
            have wv674 := HI.t1 hI0
            rw [hv674] at wv674
            have tv674 := congrArg Int32.toInt hv674
            have x675 := HI.eqA hI661 (p := 233) (j := 1) ((((eA_c (hF662.2.1 233 ma_X11_tell_231_233)).trans (eA_c gA_sI)).trans hv674))
            obtain ⟨v676, hv676⟩ : ∃ v, eA g0 233 2 = v := ⟨_, rfl⟩
            have tv676 := congrArg Int32.toInt hv676
            have wv676 := HI.t2 hI0
            rw [hv676] at wv676
            have tv676 := congrArg Int32.toInt hv676
            have x677 := HI.eqA hI661 (p := 233) (j := 2) ((((eA_c (hF662.2.1 233 ma_X11_tell_231_233)).trans (eA_c gA_sI)).trans hv676))
            obtain ⟨v678, hv678⟩ : ∃ v, eA g0 233 3 = v := ⟨_, rfl⟩
            have wv678 := HI.t3 hI0
            rw [hv678] at wv678
            have tv678 := congrArg Int32.toInt hv678
            have x679 := HI.eqA hI661 (p := 233) (j := 3) ((((eA_c (hF662.2.1 233 ma_X11_tell_231_233)).trans (eA_c gA_sI)).trans hv678))
            have x680 := HI.eqA hI0 (p := 233) (j := 0) (hv372)
            have x681 := HI.eqA hI0 (p := 233) (j := 0) (hv372)
            have x682 := HI.eqA hI0 (p := 233) (j := 4) (hv668)
            have x683 := HI.eqA hI0 (p := 233) (j := 5) (hv670)
            have x684 := HI.eqA hI0 (p := 233) (j := 6) (hv672)
            have x685 := HI.eqA hI0 (p := 233) (j := 1) (hv674)
            have x686 := HI.eqA hI0 (p := 233) (j := 2) (hv676)
            have x687 := HI.eqA hI0 (p := 233) (j := 3) (hv678)
            have x688 := HI.eqA hI0 (p := 233) (j := 0) (hv372)
            obtain ⟨v689, hv689⟩ : ∃ v, gI g660 231 1 = v := ⟨_, rfl⟩
            have tv689 := congrArg Int32.toInt hv689
            exact ⟨_, rfl, hI661, hF665, _, rfl, by omega, ⟨⟨⟨by omega, by omega, by omega, by omega, by omega, by omega, by omega, by omega⟩, (by intro i i0 i1; refine Eq.trans ?_ (if_neg (show ¬ ((0 ≤ a1.toInt ∧ a1.toInt < (eA g0 233 0).toInt ∧ 0 ≤ a2.toInt ∧ a2.toInt < (eA g0 233 0).toInt ∧ a1.toInt ≠ a2.toInt) ∧ i = 10 + 3 * a1.toInt + 1) from by omega)).symm; refine Eq.trans ?_ (if_neg (show ¬ ((0 ≤ a1.toInt ∧ a1.toInt < (eA g0 233 0).toInt ∧ 0 ≤ a2.toInt ∧ a2.toInt < (eA g0 233 0).toInt ∧ a1.toInt ≠ a2.toInt) ∧ i = 10 + 3 * a1.toInt + 2) from by omega)).symm; refine Eq.trans ?_ (if_neg (show ¬ ((0 ≤ a1.toInt ∧ a1.toInt < (eA g0 233 0).toInt ∧ 0 ≤ a2.toInt ∧ a2.toInt < (eA g0 233 0).toInt ∧ a1.toInt ≠ a2.toInt) ∧ i = 10 + 3 * a2.toInt + 1) from by omega)).symm; refine Eq.trans ?_ (if_neg (show ¬ ((0 ≤ a1.toInt ∧ a1.toInt < (eA g0 233 0).toInt ∧ 0 ≤ a2.toInt ∧ a2.toInt < (eA g0 233 0).toInt ∧ a1.toInt ≠ a2.toInt) ∧ i = 10 + 3 * a2.toInt + 2) from by omega)).symm; refine (eA_ti (((hF662.2.1 233 ma_X11_tell_231_233).trans (gA_sI)))).trans ?_; (first | with_reducible rfl | omega | exact eA_ix (by omega) | rfl))⟩, (SU.mk (by omega))⟩⟩
