def F_X5_read_176 : List (Nat × Nat) := [(176, 2), (176, 3), (176, 4), (176, 5), (176, 6), (177, 0), (177, 3), (177, 4)]
def A_X5_read_176 : List Nat := [178, 179, 180, 181, 182, 183]
theorem mf_X5_isSingle_176_176_2 : memF F_X5_isSingle_176 176 2 = false := by decide
theorem mf_X5_isSingle_176_177_3 : memF F_X5_isSingle_176 177 3 = false := by decide
theorem mf_X5_isSingle_176_176_6 : memF F_X5_isSingle_176 176 6 = false := by decide
set_option maxRecDepth 100000 in
set_option maxHeartbeats 4000000 in
theorem T_X5_read_176 (d : Nat) {N : Nat} {g0 : List en_E} (hI0 : HI g0) (hB : BYX g0) : Ev (d + 422) 63 [.ref 176] (g0, N) (fun w h' => ∃ g', h' = (g', N) ∧ HI g' ∧ Fr F_X5_read_176 A_X5_read_176 g0 g' ∧ ∃ r : Int32, w = some (.int r) ∧ (0 ≤ r.toInt ∧ r.toInt ≤ 1) ∧ RPX g0 g' r.toInt) := by
  have hF0 : Fr F_X5_read_176 A_X5_read_176 g0 g0 := Fr.rf
  refine Ev.mk rfl rfl ⟨Nat.le_of_ble_eq_true rfl, Or.inr (q_rc hI0.1 kx_176 rfl)⟩ ?_
  show At _ none _ _ (0, [(0, .ref 176)], [], (_, _)) _
  refine At.enter rfl ?_
  refine r_aload_n rfl ?_
  refine r_iconst (-1) rfl ?_
  refine q_putI (Sh.int hI0.1 kx_176 rfl) rfl ?_
  have hI2431 := HI.wI0 hI0 kx_176 rfl (p := 176) (b := 2) (v := (-1)) rfl
  have hF2432 := Fr.wI (p := 176) (b := 2) (v := (-1)) hF0 rfl
  refine r_aload_n rfl ?_
  refine r_iconst 0 rfl ?_
  refine q_putI (Sh.int hI2431.1 kx_176 rfl) rfl ?_
  have hI2433 := HI.wI1 hI2431 kx_176 rfl (p := 176) (b := 5) (v := 0) rfl (by decide)
  have hF2434 := Fr.wI (p := 176) (b := 5) (v := 0) hF2432 rfl
  refine r_aload_n rfl ?_
  refine r_iconst 0 rfl ?_
  refine q_putI (Sh.int hI2433.1 kx_176 rfl) rfl ?_
  have hI2435 := HI.wI0 hI2433 kx_176 rfl (p := 176) (b := 6) (v := 0) rfl
  have hF2436 := Fr.wI (p := 176) (b := 6) (v := 0) hF2434 rfl
  refine r_aload_n rfl ?_
  refine q_getR (Sh.ref hI2435.1 kx_176 rfl) ?_
  refine q_inlV 22 rfl [.ref 177] [] (Nat.le_of_ble_eq_true rfl) rfl ?_
  refine Ev.mk rfl rfl ⟨Nat.le_of_ble_eq_true rfl, Or.inr (q_rc hI2435.1 kx_177 rfl)⟩ ?_
  show At _ none _ _ (0, [(0, .ref 177)], [], (_, _)) _
  refine At.enter rfl ?_
  refine r_aload_n rfl ?_
  refine r_iconst 0 rfl ?_
  refine q_putI (Sh.int hI2435.1 kx_177 rfl) rfl ?_
  have hI2437 := HI.wI1 hI2435 kx_177 rfl (p := 177) (b := 0) (v := 0) rfl (by decide)
  have hF2438 := Fr.wI (p := 177) (b := 0) (v := 0) hF2436 rfl
  refine r_aload_n rfl ?_
  refine r_iconst 0 rfl ?_
  refine q_putI (Sh.int hI2437.1 kx_177 rfl) rfl ?_
  have hI2439 := HI.wI1 hI2437 kx_177 rfl (p := 177) (b := 3) (v := 0) rfl (by decide)
  have hF2440 := Fr.wI (p := 177) (b := 3) (v := 0) hF2438 rfl
  refine r_aload_n rfl ?_
  refine r_iconst 0 rfl ?_
  refine q_putI (Sh.int hI2439.1 kx_177 rfl) rfl ?_
  have hI2441 := HI.wI0 hI2439 kx_177 rfl (p := 177) (b := 4) (v := 0) rfl
  have hF2442 := Fr.wI (p := 177) (b := 4) (v := 0) hF2440 rfl
  refine q_vret ?_
  refine At.enter rfl ?_
  refine r_aload_n rfl ?_
  have x2443 := rX.e hI2441 (b := 5) (((gI_sI_ne (by decide)).trans ((gI_sI_ne (by decide)).trans ((gI_sI_ne (by decide)).trans ((gI_sI_ne (by decide)).trans (gI_sI_eq hI2431.1 kx_176 rfl _))))))
  have zv2444 : (0 : Int32).toInt = 0 := rfl
  obtain ⟨v2445, hv2445⟩ : ∃ v, gI g0 174 1 = v := ⟨_, rfl⟩
  have rv2445 := RgF.at hI0.2.1 (p := 174) (b := 1) rfl
  rw [hv2445] at rv2445
  dsimp only at rv2445
  have tv2445 := congrArg Int32.toInt hv2445
  have x2446 := nX.e hI2441 ((((gI_sI_ne (by decide)).trans ((gI_sI_ne (by decide)).trans ((gI_sI_ne (by decide)).trans ((gI_sI_ne (by decide)).trans ((gI_sI_ne (by decide)).trans (gI_sI_ne (by decide))))))).trans hv2445))
  refine r_callV 26 rfl [.ref 176] [] (Nat.le_of_ble_eq_true rfl) rfl (T_X5_step_176 _ hI2441 (BYX.c hB (((gA_sI).trans ((gA_sI).trans ((gA_sI).trans ((gA_sI).trans ((gA_sI).trans (gA_sI))))))) (((gI_sI_ne (by decide)).trans ((gI_sI_ne (by decide)).trans ((gI_sI_ne (by decide)).trans ((gI_sI_ne (by decide)).trans ((gI_sI_ne (by decide)).trans (gI_sI_ne (by decide))))))))) (by omega)) ?_
  rintro _ _ ⟨g2447, rfl, hI2448, hF2449, rfl, hr2451⟩
  refine At.stn ?_
  have hF2452 := Fr.tr hF2442 hF2449 rfl rfl
  have skp2453 := hr2451.2
  rw [TX.ci hI2441 (((gA_sI).trans ((gA_sI).trans ((gA_sI).trans ((gA_sI).trans ((gA_sI).trans (gA_sI))))))), nX.ci hI2441 (((gI_sI_ne (by decide)).trans ((gI_sI_ne (by decide)).trans ((gI_sI_ne (by decide)).trans ((gI_sI_ne (by decide)).trans ((gI_sI_ne (by decide)).trans (gI_sI_ne (by decide)))))))), rX.e hI2441 (b := 5) (((gI_sI_ne (by decide)).trans ((gI_sI_ne (by decide)).trans ((gI_sI_ne (by decide)).trans ((gI_sI_ne (by decide)).trans (gI_sI_eq hI2431.1 kx_176 rfl _)))))), show (0 : Int32).toInt = 0 from rfl] at skp2453
  have hT2454 := hr2451.1
  obtain ⟨v2455, hv2455⟩ : ∃ v, gI g0 176 4 = v := ⟨_, rfl⟩
  have rv2455 := RgF.at hI0.2.1 (p := 176) (b := 4) rfl
  rw [hv2455] at rv2455
  dsimp only at rv2455
  have tv2455 := congrArg Int32.toInt hv2455
  have x2456 := rX.e hI2441 (b := 4) ((((gI_sI_ne (by decide)).trans ((gI_sI_ne (by decide)).trans ((gI_sI_ne (by decide)).trans ((gI_sI_ne (by decide)).trans ((gI_sI_ne (by decide)).trans (gI_sI_ne (by decide))))))).trans hv2455))
  obtain ⟨v2457, hv2457⟩ : ∃ v, gI g2447 176 4 = v := ⟨_, rfl⟩
  have rv2457 := RgF.at hI2448.2.1 (p := 176) (b := 4) rfl
  rw [hv2457] at rv2457
  dsimp only at rv2457
  have tv2457 := congrArg Int32.toInt hv2457
  have x2458 := rX.e hI2448 (b := 4) (hv2457)
  refine At.enter rfl ?_
  refine r_aload_n rfl ?_
  refine r_callV 30 rfl [.ref 176] [] (Nat.le_of_ble_eq_true rfl) rfl (T_X5_readClause_176 _ hI2448 hT2454) ?_
  rintro _ _ ⟨g2459, rfl, hI2460, hF2461, rfl, hr2463⟩
  refine At.stn ?_
  have hF2464 := Fr.tr hF2452 hF2461 rfl rfl
  obtain ⟨o2465, o2466, o2467⟩ := hr2463
  rw [TX.ci hI2448 (((hF2449.2.1 175 ma_X5_step_176_175).trans ((gA_sI).trans ((gA_sI).trans ((gA_sI).trans ((gA_sI).trans ((gA_sI).trans (gA_sI)))))))), nX.ci hI2448 (((hF2449.1 174 1 mf_X5_step_176_174_1).trans ((gI_sI_ne (by decide)).trans ((gI_sI_ne (by decide)).trans ((gI_sI_ne (by decide)).trans ((gI_sI_ne (by decide)).trans ((gI_sI_ne (by decide)).trans (gI_sI_ne (by decide)))))))))] at o2467
  have y2468 := o2466.1
  have x2469 := rX.e hI2448 (b := 2) (((hF2449.1 176 2 mf_X5_step_176_176_2).trans ((gI_sI_ne (by decide)).trans ((gI_sI_ne (by decide)).trans ((gI_sI_ne (by decide)).trans ((gI_sI_ne (by decide)).trans ((gI_sI_ne (by decide)).trans (gI_sI_eq hI0.1 kx_176 rfl _))))))))
  have zv2470 : ((-1) : Int32).toInt = (-1) := rfl
  obtain ⟨v2471, hv2471⟩ : ∃ v, gI g2459 176 2 = v := ⟨_, rfl⟩
  have tv2471 := congrArg Int32.toInt hv2471
  have x2472 := rX.e hI2460 (b := 2) (hv2471)
  have x2473 := rX.e hI2448 (b := 4) (hv2457)
  obtain ⟨v2474, hv2474⟩ : ∃ v, gI g2459 176 4 = v := ⟨_, rfl⟩
  have rv2474 := RgF.at hI2460.2.1 (p := 176) (b := 4) rfl
  rw [hv2474] at rv2474
  dsimp only at rv2474
  have tv2474 := congrArg Int32.toInt hv2474
  have x2475 := rX.e hI2460 (b := 4) (hv2474)
  refine At.enter rfl ?_
  refine r_iconst 0 rfl ?_
  refine r_istore_n ([(1, .int 0), (0, .ref 176)]) rfl ?_
  refine Ar.fall 32 rfl ?_
  have z_3576 : (0 : Int32).toInt = 0 := rfl
  have x3577 := rX.e hI2448 (b := 2) (((hF2449.1 176 2 mf_X5_step_176_176_2).trans ((gI_sI_ne (by decide)).trans ((gI_sI_ne (by decide)).trans ((gI_sI_ne (by decide)).trans ((gI_sI_ne (by decide)).trans ((gI_sI_ne (by decide)).trans (gI_sI_eq hI0.1 kx_176 rfl _))))))))
  have zv3578 : ((-1) : Int32).toInt = (-1) := rfl
  have x3579 := rX.e hI2448 (b := 4) (hv2457)
  have x3580 := rX.e hI2448 (b := 6) (((hF2449.1 176 6 mf_X5_step_176_176_6).trans ((gI_sI_ne (by decide)).trans ((gI_sI_ne (by decide)).trans ((gI_sI_ne (by decide)).trans (gI_sI_eq hI2433.1 kx_176 rfl _))))))
  have zv3581 : (0 : Int32).toInt = 0 := rfl
  have x3582 := kX.e hI2448 (((hF2449.1 177 3 mf_X5_step_176_177_3).trans ((gI_sI_ne (by decide)).trans (gI_sI_eq hI2437.1 kx_177 rfl _))))
  have zv3583 : (0 : Int32).toInt = 0 := rfl
  have x3584 := rX.e hI2460 (b := 4) (hv2474)
  refine w_loopI (fun n_ l_ g_ => ∃ x3563 : Int32, n_ = 400 - x3563.toInt ∧ HI g_ ∧ Fr F_X5_read_176 A_X5_read_176 g0 g_ ∧ en_get 0 l_ = some (.ref 176) ∧ en_get 1 l_ = some (.int x3563) ∧ (0 ≤ x3563.toInt ∧ x3563.toInt ≤ 400) ∧ (TKX g_) ∧ (CST (TX g0) (nX g0) (6, [], 0, 0, rX g2447 4) g_ 8 [] (kX g_)) ∧ (x3563.toInt ≤ rX g_ 4)) ?_ (400 - 0) ⟨0, by first | rfl | omega, hI2460, hF2464, rfl, rfl, by decide, o2465, (o2467 _ (CST.start (by omega) (by omega) (by omega))), by omega⟩
  rintro n3568 l3567 g3564 ⟨x3563, hm3585, hI3565, hF3566, e3570, e3571, r3572, q3573, q3574, q3575⟩ ih3569
  obtain ⟨v3586, hv3586⟩ : ∃ v, gI g3564 176 4 = v := ⟨_, rfl⟩
  have rv3586 := RgF.at hI3565.2.1 (p := 176) (b := 4) rfl
  rw [hv3586] at rv3586
  dsimp only at rv3586
  have tv3586 := congrArg Int32.toInt hv3586
  have x3587 := rX.e hI3565 (b := 4) (hv3586)
  obtain ⟨v3588, hv3588⟩ : ∃ v, gI g3564 176 2 = v := ⟨_, rfl⟩
  have tv3588 := congrArg Int32.toInt hv3588
  have x3589 := rX.e hI3565 (b := 2) (hv3588)
  have ce3590 := fun hz => CDX.end_ q3573 hz
  refine At.enter rfl ?_
  refine r_iload_n e3571 ?_
  refine r_sipush 400 rfl ?_
  refine r_ics 39 rfl (fun c3591 => ?_) (fun c3591 => ?_)
  · have c3591_ : x3563.toInt ≥ 400 := en_i_ge_t c3591
    refine At.enter rfl ?_
    refine r_aload_n e3570 ?_
    obtain ⟨v3592, hv3592⟩ : ∃ v, gI g3564 176 3 = v := ⟨_, rfl⟩
    refine q_getI (Sh.int hI3565.1 kx_176 rfl) v3592 hv3592 ?_
    refine r_iconst 3 rfl ?_
    refine r_ics 78 rfl (fun c3593 => ?_) (fun c3593 => ?_)
    · have c3593_ : v3592.toInt = 3 := en_i_eq_t c3593
      refine At.enter rfl ?_
      refine r_aload_n e3570 ?_
      refine q_getI (Sh.int hI3565.1 kx_176 rfl) v3588 hv3588 ?_
      refine r_iconst (-1) rfl ?_
      refine r_ics 90 rfl (fun c3594 => ?_) (fun c3594 => ?_)
      · have c3594_ : v3588.toInt ≠ (-1) := en_i_ne_t c3594
        refine At.enter rfl ?_
        refine r_iconst 0 rfl ?_
        refine Ar.fall 95 rfl ?_
        refine At.enter rfl ?_
        refine r_iretz (by decide) ?_
        have zv3595 : (0 : Int32).toInt = 0 := rfl
        have x3596 := rX.e hI3565 (b := 2) (hv3588)
        have x3597 := rX.e hI3565 (b := 2) (hv3588)
        have x3598 := rX.e hI3565 (b := 4) (hv3586)
        have x3599 := rX.e hI3565 (b := 4) (hv3586)
        have x3600 := rX.e hI3565 (b := 3) (hv3592)
        have ck := CDX.k3 q3573
        exact ⟨_, rfl, hI3565, hF3566, _, rfl, by decide, ⟨_, skp2453, by first | (exact Or.inr ⟨by omega, by omega, RPX.bad q3574 (by omega) (by omega)⟩) | (exact Or.inl ⟨by omega, by omega, RPX.fin q3574 (by omega) (TKX.someC q3573 ((hF3566.2.1 175 (by decide))) ((hF3566.1 174 1 (by decide)))).choose_spec (by omega)⟩) | (exact Or.inr ⟨by omega, by omega, RPX.fail q3574 (by omega) (TKX.someC q3573 ((hF3566.2.1 175 (by decide))) ((hF3566.1 174 1 (by decide)))).choose_spec (by omega) (by omega) (by omega)⟩)⟩⟩
      · have c3594_ : v3588.toInt = (-1) := en_i_ne_f c3594
        refine At.enter rfl ?_
        refine r_iconst 1 rfl ?_
        refine r_goto ?_
        refine At.enter rfl ?_
        refine r_iretz (by decide) ?_
        have zv3601 : (1 : Int32).toInt = 1 := rfl
        have x3602 := rX.e hI3565 (b := 2) (hv3588)
        have x3603 := rX.e hI3565 (b := 2) (hv3588)
        have x3604 := rX.e hI3565 (b := 4) (hv3586)
        have x3605 := rX.e hI3565 (b := 4) (hv3586)
        have x3606 := rX.e hI3565 (b := 3) (hv3592)
        have ck := CDX.k3 q3573
        exact ⟨_, rfl, hI3565, hF3566, _, rfl, by decide, ⟨_, skp2453, by first | (exact Or.inr ⟨by omega, by omega, RPX.bad q3574 (by omega) (by omega)⟩) | (exact Or.inl ⟨by omega, by omega, RPX.fin q3574 (by omega) (TKX.someC q3573 ((hF3566.2.1 175 (by decide))) ((hF3566.1 174 1 (by decide)))).choose_spec (by omega)⟩) | (exact Or.inr ⟨by omega, by omega, RPX.fail q3574 (by omega) (TKX.someC q3573 ((hF3566.2.1 175 (by decide))) ((hF3566.1 174 1 (by decide)))).choose_spec (by omega) (by omega) (by omega)⟩)⟩⟩
    · have c3593_ : v3592.toInt ≠ 3 := en_i_eq_f c3593
      refine At.enter rfl ?_
      refine r_aload_n e3570 ?_
      refine q_inlV 82 rfl [.ref 176] [] (Nat.le_of_ble_eq_true rfl) rfl ?_
      refine Ev.mk rfl rfl ⟨Nat.le_of_ble_eq_true rfl, Or.inr (q_rc hI3565.1 kx_176 rfl)⟩ ?_
      show At _ none _ _ (0, [(0, .ref 176)], [], (_, _)) _
      refine At.enter rfl ?_
      refine r_aload_n rfl ?_
      refine q_getI (Sh.int hI3565.1 kx_176 rfl) v3588 hv3588 ?_
      refine r_iconst (-1) rfl ?_
      refine r_ics 8 rfl (fun c3607 => ?_) (fun c3607 => ?_)
      · have c3607_ : v3588.toInt ≠ (-1) := en_i_ne_t c3607
        refine At.enter rfl ?_
        refine q_vret ?_
        refine At.enter rfl ?_
        refine r_aload_n e3570 ?_
        refine q_getI (Sh.int hI3565.1 kx_176 rfl) v3588 hv3588 ?_
        refine r_iconst (-1) rfl ?_
        refine r_ics 90 rfl (fun c3608 => ?_) (fun c3608 => ?_)
        · have c3608_ : v3588.toInt ≠ (-1) := en_i_ne_t c3608
          refine At.enter rfl ?_
          refine r_iconst 0 rfl ?_
          refine Ar.fall 95 rfl ?_
          refine At.enter rfl ?_
          refine r_iretz (by decide) ?_
          have zv3609 : (0 : Int32).toInt = 0 := rfl
          have x3610 := rX.e hI3565 (b := 2) (hv3588)
          have x3611 := rX.e hI3565 (b := 2) (hv3588)
          have x3612 := rX.e hI3565 (b := 4) (hv3586)
          have x3613 := rX.e hI3565 (b := 4) (hv3586)
          have x3614 := rX.e hI3565 (b := 3) (hv3592)
          have ck := CDX.k3 q3573
          exact ⟨_, rfl, hI3565, hF3566, _, rfl, by decide, ⟨_, skp2453, by first | (exact Or.inr ⟨by omega, by omega, RPX.bad q3574 (by omega) (by omega)⟩) | (exact Or.inl ⟨by omega, by omega, RPX.fin q3574 (by omega) (TKX.someC q3573 ((hF3566.2.1 175 (by decide))) ((hF3566.1 174 1 (by decide)))).choose_spec (by omega)⟩) | (exact Or.inr ⟨by omega, by omega, RPX.fail q3574 (by omega) (TKX.someC q3573 ((hF3566.2.1 175 (by decide))) ((hF3566.1 174 1 (by decide)))).choose_spec (by omega) (by omega) (by omega)⟩)⟩⟩
        · have c3608_ : v3588.toInt = (-1) := en_i_ne_f c3608
          refine At.enter rfl ?_
          refine r_iconst 1 rfl ?_
          refine r_goto ?_
          refine At.enter rfl ?_
          refine r_iretz (by decide) ?_
          have zv3615 : (1 : Int32).toInt = 1 := rfl
          have x3616 := rX.e hI3565 (b := 2) (hv3588)
          have x3617 := rX.e hI3565 (b := 2) (hv3588)
          have x3618 := rX.e hI3565 (b := 4) (hv3586)
          have x3619 := rX.e hI3565 (b := 4) (hv3586)
          have x3620 := rX.e hI3565 (b := 3) (hv3592)
          have ck := CDX.k3 q3573
          exact ⟨_, rfl, hI3565, hF3566, _, rfl, by decide, ⟨_, skp2453, by first | (exact Or.inr ⟨by omega, by omega, RPX.bad q3574 (by omega) (by omega)⟩) | (exact Or.inl ⟨by omega, by omega, RPX.fin q3574 (by omega) (TKX.someC q3573 ((hF3566.2.1 175 (by decide))) ((hF3566.1 174 1 (by decide)))).choose_spec (by omega)⟩) | (exact Or.inr ⟨by omega, by omega, RPX.fail q3574 (by omega) (TKX.someC q3573 ((hF3566.2.1 175 (by decide))) ((hF3566.1 174 1 (by decide)))).choose_spec (by omega) (by omega) (by omega)⟩)⟩⟩
      · have c3607_ : v3588.toInt = (-1) := en_i_ne_f c3607
        refine At.enter rfl ?_
        refine r_aload_n rfl ?_
        refine r_aload_n rfl ?_
        refine q_getI (Sh.int hI3565.1 kx_176 rfl) v3586 hv3586 ?_
        refine q_putI (Sh.int hI3565.1 kx_176 rfl) rfl ?_
        have hI3621 := HI.wI0 hI3565 kx_176 rfl (p := 176) (b := 2) (v := v3586) rfl
        have hF3622 := Fr.wI (p := 176) (b := 2) (v := v3586) hF3566 rfl
        refine Ar.fall 16 rfl ?_
        refine At.enter rfl ?_
        refine q_vret ?_
        refine At.enter rfl ?_
        refine r_aload_n e3570 ?_
        refine q_getI (Sh.int hI3621.1 kx_176 rfl) v3586 (gI_sI_eq hI3565.1 kx_176 rfl _) ?_
        refine r_iconst (-1) rfl ?_
        refine r_ics 90 rfl (fun c3623 => ?_) (fun c3623 => ?_)
        · have c3623_ : v3586.toInt ≠ (-1) := en_i_ne_t c3623
          refine At.enter rfl ?_
          refine r_iconst 0 rfl ?_
          refine Ar.fall 95 rfl ?_
          refine At.enter rfl ?_
          refine r_iretz (by decide) ?_
          have zv3624 : (0 : Int32).toInt = 0 := rfl
          have x3625 := rX.e hI3621 (b := 2) ((gI_sI_eq hI3565.1 kx_176 rfl _))
          have x3626 := rX.e hI3565 (b := 2) (hv3588)
          have x3627 := rX.e hI3621 (b := 4) (((gI_sI_ne (by decide)).trans hv3586))
          have x3628 := rX.e hI3565 (b := 4) (hv3586)
          have x3629 := rX.e hI3565 (b := 3) (hv3592)
          have ck := CDX.k3 q3573
          exact ⟨_, rfl, hI3621, hF3622, _, rfl, by decide, ⟨_, skp2453, by first | (exact Or.inr ⟨by omega, by omega, RPX.bad q3574 (by omega) (by omega)⟩) | (exact Or.inl ⟨by omega, by omega, RPX.fin q3574 (by omega) (TKX.someC q3573 ((hF3566.2.1 175 (by decide))) ((hF3566.1 174 1 (by decide)))).choose_spec (by omega)⟩) | (exact Or.inr ⟨by omega, by omega, RPX.fail q3574 (by omega) (TKX.someC q3573 ((hF3566.2.1 175 (by decide))) ((hF3566.1 174 1 (by decide)))).choose_spec (by omega) (by omega) (by omega)⟩)⟩⟩
        · have c3623_ : v3586.toInt = (-1) := en_i_ne_f c3623
          exfalso; omega
  · have c3591_ : x3563.toInt < 400 := en_i_ge_f c3591
    refine At.enter rfl ?_
    refine r_aload_n e3570 ?_
    refine q_getI (Sh.int hI3565.1 kx_176 rfl) v3588 hv3588 ?_
    refine r_iconst (-1) rfl ?_
    refine r_ics 47 rfl (fun c3630 => ?_) (fun c3630 => ?_)
    · have c3630_ : v3588.toInt ≠ (-1) := en_i_ne_t c3630
      refine At.enter rfl ?_
      refine r_aload_n e3570 ?_
      obtain ⟨v3631, hv3631⟩ : ∃ v, gI g3564 176 3 = v := ⟨_, rfl⟩
      refine q_getI (Sh.int hI3565.1 kx_176 rfl) v3631 hv3631 ?_
      refine r_iconst 3 rfl ?_
      refine r_ics 78 rfl (fun c3632 => ?_) (fun c3632 => ?_)
      · have c3632_ : v3631.toInt = 3 := en_i_eq_t c3632
        refine At.enter rfl ?_
        refine r_aload_n e3570 ?_
        refine q_getI (Sh.int hI3565.1 kx_176 rfl) v3588 hv3588 ?_
        refine r_iconst (-1) rfl ?_
        refine r_ics 90 rfl (fun c3633 => ?_) (fun c3633 => ?_)
        · have c3633_ : v3588.toInt ≠ (-1) := en_i_ne_t c3633
          refine At.enter rfl ?_
          refine r_iconst 0 rfl ?_
          refine Ar.fall 95 rfl ?_
          refine At.enter rfl ?_
          refine r_iretz (by decide) ?_
          have zv3634 : (0 : Int32).toInt = 0 := rfl
          have x3635 := rX.e hI3565 (b := 2) (hv3588)
          have x3636 := rX.e hI3565 (b := 2) (hv3588)
          have x3637 := rX.e hI3565 (b := 4) (hv3586)
          have x3638 := rX.e hI3565 (b := 4) (hv3586)
          have x3639 := rX.e hI3565 (b := 3) (hv3631)
          have ck := CDX.k3 q3573
          exact ⟨_, rfl, hI3565, hF3566, _, rfl, by decide, ⟨_, skp2453, by first | (exact Or.inr ⟨by omega, by omega, RPX.bad q3574 (by omega) (by omega)⟩) | (exact Or.inl ⟨by omega, by omega, RPX.fin q3574 (by omega) (TKX.someC q3573 ((hF3566.2.1 175 (by decide))) ((hF3566.1 174 1 (by decide)))).choose_spec (by omega)⟩) | (exact Or.inr ⟨by omega, by omega, RPX.fail q3574 (by omega) (TKX.someC q3573 ((hF3566.2.1 175 (by decide))) ((hF3566.1 174 1 (by decide)))).choose_spec (by omega) (by omega) (by omega)⟩)⟩⟩
        · have c3633_ : v3588.toInt = (-1) := en_i_ne_f c3633
          refine At.enter rfl ?_
          refine r_iconst 1 rfl ?_
          refine r_goto ?_
          refine At.enter rfl ?_
          refine r_iretz (by decide) ?_
          have zv3640 : (1 : Int32).toInt = 1 := rfl
          have x3641 := rX.e hI3565 (b := 2) (hv3588)
          have x3642 := rX.e hI3565 (b := 2) (hv3588)
          have x3643 := rX.e hI3565 (b := 4) (hv3586)
          have x3644 := rX.e hI3565 (b := 4) (hv3586)
          have x3645 := rX.e hI3565 (b := 3) (hv3631)
          have ck := CDX.k3 q3573
          exact ⟨_, rfl, hI3565, hF3566, _, rfl, by decide, ⟨_, skp2453, by first | (exact Or.inr ⟨by omega, by omega, RPX.bad q3574 (by omega) (by omega)⟩) | (exact Or.inl ⟨by omega, by omega, RPX.fin q3574 (by omega) (TKX.someC q3573 ((hF3566.2.1 175 (by decide))) ((hF3566.1 174 1 (by decide)))).choose_spec (by omega)⟩) | (exact Or.inr ⟨by omega, by omega, RPX.fail q3574 (by omega) (TKX.someC q3573 ((hF3566.2.1 175 (by decide))) ((hF3566.1 174 1 (by decide)))).choose_spec (by omega) (by omega) (by omega)⟩)⟩⟩
      · have c3632_ : v3631.toInt ≠ 3 := en_i_eq_f c3632
        refine At.enter rfl ?_
        refine r_aload_n e3570 ?_
        refine q_inlV 82 rfl [.ref 176] [] (Nat.le_of_ble_eq_true rfl) rfl ?_
        refine Ev.mk rfl rfl ⟨Nat.le_of_ble_eq_true rfl, Or.inr (q_rc hI3565.1 kx_176 rfl)⟩ ?_
        show At _ none _ _ (0, [(0, .ref 176)], [], (_, _)) _
        refine At.enter rfl ?_
        refine r_aload_n rfl ?_
        refine q_getI (Sh.int hI3565.1 kx_176 rfl) v3588 hv3588 ?_
        refine r_iconst (-1) rfl ?_
        refine r_ics 8 rfl (fun c3646 => ?_) (fun c3646 => ?_)
        · have c3646_ : v3588.toInt ≠ (-1) := en_i_ne_t c3646
          refine At.enter rfl ?_
          refine q_vret ?_
          refine At.enter rfl ?_
          refine r_aload_n e3570 ?_
          refine q_getI (Sh.int hI3565.1 kx_176 rfl) v3588 hv3588 ?_
          refine r_iconst (-1) rfl ?_
          refine r_ics 90 rfl (fun c3647 => ?_) (fun c3647 => ?_)
          · have c3647_ : v3588.toInt ≠ (-1) := en_i_ne_t c3647
            refine At.enter rfl ?_
            refine r_iconst 0 rfl ?_
            refine Ar.fall 95 rfl ?_
            refine At.enter rfl ?_
            refine r_iretz (by decide) ?_
            have zv3648 : (0 : Int32).toInt = 0 := rfl
            have x3649 := rX.e hI3565 (b := 2) (hv3588)
            have x3650 := rX.e hI3565 (b := 2) (hv3588)
            have x3651 := rX.e hI3565 (b := 4) (hv3586)
            have x3652 := rX.e hI3565 (b := 4) (hv3586)
            have x3653 := rX.e hI3565 (b := 3) (hv3631)
            have ck := CDX.k3 q3573
            exact ⟨_, rfl, hI3565, hF3566, _, rfl, by decide, ⟨_, skp2453, by first | (exact Or.inr ⟨by omega, by omega, RPX.bad q3574 (by omega) (by omega)⟩) | (exact Or.inl ⟨by omega, by omega, RPX.fin q3574 (by omega) (TKX.someC q3573 ((hF3566.2.1 175 (by decide))) ((hF3566.1 174 1 (by decide)))).choose_spec (by omega)⟩) | (exact Or.inr ⟨by omega, by omega, RPX.fail q3574 (by omega) (TKX.someC q3573 ((hF3566.2.1 175 (by decide))) ((hF3566.1 174 1 (by decide)))).choose_spec (by omega) (by omega) (by omega)⟩)⟩⟩
          · have c3647_ : v3588.toInt = (-1) := en_i_ne_f c3647
            refine At.enter rfl ?_
            refine r_iconst 1 rfl ?_
            refine r_goto ?_
            refine At.enter rfl ?_
            refine r_iretz (by decide) ?_
            have zv3654 : (1 : Int32).toInt = 1 := rfl
            have x3655 := rX.e hI3565 (b := 2) (hv3588)
            have x3656 := rX.e hI3565 (b := 2) (hv3588)
            have x3657 := rX.e hI3565 (b := 4) (hv3586)
            have x3658 := rX.e hI3565 (b := 4) (hv3586)
            have x3659 := rX.e hI3565 (b := 3) (hv3631)
            have ck := CDX.k3 q3573
            exact ⟨_, rfl, hI3565, hF3566, _, rfl, by decide, ⟨_, skp2453, by first | (exact Or.inr ⟨by omega, by omega, RPX.bad q3574 (by omega) (by omega)⟩) | (exact Or.inl ⟨by omega, by omega, RPX.fin q3574 (by omega) (TKX.someC q3573 ((hF3566.2.1 175 (by decide))) ((hF3566.1 174 1 (by decide)))).choose_spec (by omega)⟩) | (exact Or.inr ⟨by omega, by omega, RPX.fail q3574 (by omega) (TKX.someC q3573 ((hF3566.2.1 175 (by decide))) ((hF3566.1 174 1 (by decide)))).choose_spec (by omega) (by omega) (by omega)⟩)⟩⟩
        · have c3646_ : v3588.toInt = (-1) := en_i_ne_f c3646
          refine At.enter rfl ?_
          refine r_aload_n rfl ?_
          refine r_aload_n rfl ?_
          refine q_getI (Sh.int hI3565.1 kx_176 rfl) v3586 hv3586 ?_
          refine q_putI (Sh.int hI3565.1 kx_176 rfl) rfl ?_
          have hI3660 := HI.wI0 hI3565 kx_176 rfl (p := 176) (b := 2) (v := v3586) rfl
          have hF3661 := Fr.wI (p := 176) (b := 2) (v := v3586) hF3566 rfl
          refine Ar.fall 16 rfl ?_
          refine At.enter rfl ?_
          refine q_vret ?_
          refine At.enter rfl ?_
          refine r_aload_n e3570 ?_
          refine q_getI (Sh.int hI3660.1 kx_176 rfl) v3586 (gI_sI_eq hI3565.1 kx_176 rfl _) ?_
          refine r_iconst (-1) rfl ?_
          refine r_ics 90 rfl (fun c3662 => ?_) (fun c3662 => ?_)
          · have c3662_ : v3586.toInt ≠ (-1) := en_i_ne_t c3662
            refine At.enter rfl ?_
            refine r_iconst 0 rfl ?_
            refine Ar.fall 95 rfl ?_
            refine At.enter rfl ?_
            refine r_iretz (by decide) ?_
            have zv3663 : (0 : Int32).toInt = 0 := rfl
            have x3664 := rX.e hI3660 (b := 2) ((gI_sI_eq hI3565.1 kx_176 rfl _))
            have x3665 := rX.e hI3565 (b := 2) (hv3588)
            have x3666 := rX.e hI3660 (b := 4) (((gI_sI_ne (by decide)).trans hv3586))
            have x3667 := rX.e hI3565 (b := 4) (hv3586)
            have x3668 := rX.e hI3565 (b := 3) (hv3631)
            have ck := CDX.k3 q3573
            exact ⟨_, rfl, hI3660, hF3661, _, rfl, by decide, ⟨_, skp2453, by first | (exact Or.inr ⟨by omega, by omega, RPX.bad q3574 (by omega) (by omega)⟩) | (exact Or.inl ⟨by omega, by omega, RPX.fin q3574 (by omega) (TKX.someC q3573 ((hF3566.2.1 175 (by decide))) ((hF3566.1 174 1 (by decide)))).choose_spec (by omega)⟩) | (exact Or.inr ⟨by omega, by omega, RPX.fail q3574 (by omega) (TKX.someC q3573 ((hF3566.2.1 175 (by decide))) ((hF3566.1 174 1 (by decide)))).choose_spec (by omega) (by omega) (by omega)⟩)⟩⟩
          · have c3662_ : v3586.toInt = (-1) := en_i_ne_f c3662
            exfalso; omega
    · have c3630_ : v3588.toInt = (-1) := en_i_ne_f c3630
      refine At.enter rfl ?_
      refine r_aload_n e3570 ?_
      refine r_bipush 59 rfl ?_
      refine r_callV 53 rfl [.ref 176, .int 59] [] (Nat.le_of_ble_eq_true rfl) rfl (T_X5_isSingle_176 _ hI3565 59 (by decide)) ?_
      rintro _ _ ⟨g3669, rfl, hI3670, hF3671, v3672, rfl, hr3673⟩
      refine At.sti ?_
      have hF3674 := Fr.tr hF3566 hF3671 rfl rfl
      have zv3675 : (59 : Int32).toInt = 59 := rfl
      have hb3676 : BL (CDX g3564 = 14) v3672.toInt := ISX.code (c := 14) hr3673.2 q3573 (isSC_d (by omega)) (by decide)
      refine At.enter rfl ?_
      refine r_ifs 56 rfl (fun c3677 => ?_) (fun c3677 => ?_)
      · have c3677_ : v3672.toInt = 0 := en_k_eq_t c3677
        have i3678 := BL.no hb3676 (by omega)
        refine At.enter rfl ?_
        refine r_aload_n e3570 ?_
        obtain ⟨v3679, hv3679⟩ : ∃ v, gI g3564 176 3 = v := ⟨_, rfl⟩
        refine q_getI (Sh.int hI3670.1 kx_176 rfl) v3679 ((hF3671.1 176 3 mf_X5_isSingle_176_176_3).trans hv3679) ?_
        refine r_iconst 3 rfl ?_
        refine r_ics 78 rfl (fun c3680 => ?_) (fun c3680 => ?_)
        · have c3680_ : v3679.toInt = 3 := en_i_eq_t c3680
          refine At.enter rfl ?_
          refine r_aload_n e3570 ?_
          refine q_getI (Sh.int hI3670.1 kx_176 rfl) v3588 ((hF3671.1 176 2 mf_X5_isSingle_176_176_2).trans hv3588) ?_
          refine r_iconst (-1) rfl ?_
          refine r_ics 90 rfl (fun c3681 => ?_) (fun c3681 => ?_)
          · have c3681_ : v3588.toInt ≠ (-1) := en_i_ne_t c3681
            exfalso; omega
          · have c3681_ : v3588.toInt = (-1) := en_i_ne_f c3681
            refine At.enter rfl ?_
            refine r_iconst 1 rfl ?_
            refine r_goto ?_
            refine At.enter rfl ?_
            refine r_iretz (by decide) ?_
            have zv3682 : (1 : Int32).toInt = 1 := rfl
            have x3683 := rX.e hI3670 (b := 2) (((hF3671.1 176 2 mf_X5_isSingle_176_176_2).trans hv3588))
            have x3684 := rX.e hI3565 (b := 2) (hv3588)
            have x3685 := rX.e hI3670 (b := 4) (((hF3671.1 176 4 mf_X5_isSingle_176_176_4).trans hv3586))
            have x3686 := rX.e hI3565 (b := 4) (hv3586)
            have x3687 := rX.e hI3565 (b := 3) (hv3679)
            have ck := CDX.k3 q3573
            exact ⟨_, rfl, hI3670, hF3674, _, rfl, by decide, ⟨_, skp2453, by first | (exact Or.inr ⟨by omega, by omega, RPX.bad q3574 (by omega) (by omega)⟩) | (exact Or.inl ⟨by omega, by omega, RPX.fin q3574 (by omega) (TKX.someC q3573 ((hF3566.2.1 175 (by decide))) ((hF3566.1 174 1 (by decide)))).choose_spec (by omega)⟩) | (exact Or.inr ⟨by omega, by omega, RPX.fail q3574 (by omega) (TKX.someC q3573 ((hF3566.2.1 175 (by decide))) ((hF3566.1 174 1 (by decide)))).choose_spec (by omega) (by omega) (by omega)⟩)⟩⟩
        · have c3680_ : v3679.toInt ≠ 3 := en_i_eq_f c3680
          refine At.enter rfl ?_
          refine r_aload_n e3570 ?_
          refine q_inlV 82 rfl [.ref 176] [] (Nat.le_of_ble_eq_true rfl) rfl ?_
          refine Ev.mk rfl rfl ⟨Nat.le_of_ble_eq_true rfl, Or.inr (q_rc hI3670.1 kx_176 rfl)⟩ ?_
          show At _ none _ _ (0, [(0, .ref 176)], [], (_, _)) _
          refine At.enter rfl ?_
          refine r_aload_n rfl ?_
          refine q_getI (Sh.int hI3670.1 kx_176 rfl) v3588 ((hF3671.1 176 2 mf_X5_isSingle_176_176_2).trans hv3588) ?_
          refine r_iconst (-1) rfl ?_
          refine r_ics 8 rfl (fun c3688 => ?_) (fun c3688 => ?_)
          · have c3688_ : v3588.toInt ≠ (-1) := en_i_ne_t c3688
            exfalso; omega
          · have c3688_ : v3588.toInt = (-1) := en_i_ne_f c3688
            refine At.enter rfl ?_
            refine r_aload_n rfl ?_
            refine r_aload_n rfl ?_
            refine q_getI (Sh.int hI3670.1 kx_176 rfl) v3586 ((hF3671.1 176 4 mf_X5_isSingle_176_176_4).trans hv3586) ?_
            refine q_putI (Sh.int hI3670.1 kx_176 rfl) rfl ?_
            have hI3689 := HI.wI0 hI3670 kx_176 rfl (p := 176) (b := 2) (v := v3586) rfl
            have hF3690 := Fr.wI (p := 176) (b := 2) (v := v3586) hF3674 rfl
            refine Ar.fall 16 rfl ?_
            refine At.enter rfl ?_
            refine q_vret ?_
            refine At.enter rfl ?_
            refine r_aload_n e3570 ?_
            refine q_getI (Sh.int hI3689.1 kx_176 rfl) v3586 (gI_sI_eq hI3670.1 kx_176 rfl _) ?_
            refine r_iconst (-1) rfl ?_
            refine r_ics 90 rfl (fun c3691 => ?_) (fun c3691 => ?_)
            · have c3691_ : v3586.toInt ≠ (-1) := en_i_ne_t c3691
              refine At.enter rfl ?_
              refine r_iconst 0 rfl ?_
              refine Ar.fall 95 rfl ?_
              refine At.enter rfl ?_
              refine r_iretz (by decide) ?_
              have zv3692 : (0 : Int32).toInt = 0 := rfl
              have x3693 := rX.e hI3689 (b := 2) ((gI_sI_eq hI3670.1 kx_176 rfl _))
              have x3694 := rX.e hI3565 (b := 2) (hv3588)
              have x3695 := rX.e hI3689 (b := 4) ((((gI_sI_ne (by decide)).trans (hF3671.1 176 4 mf_X5_isSingle_176_176_4)).trans hv3586))
              have x3696 := rX.e hI3565 (b := 4) (hv3586)
              have x3697 := rX.e hI3565 (b := 3) (hv3679)
              have ck := CDX.k3 q3573
              exact ⟨_, rfl, hI3689, hF3690, _, rfl, by decide, ⟨_, skp2453, by first | (exact Or.inr ⟨by omega, by omega, RPX.bad q3574 (by omega) (by omega)⟩) | (exact Or.inl ⟨by omega, by omega, RPX.fin q3574 (by omega) (TKX.someC q3573 ((hF3566.2.1 175 (by decide))) ((hF3566.1 174 1 (by decide)))).choose_spec (by omega)⟩) | (exact Or.inr ⟨by omega, by omega, RPX.fail q3574 (by omega) (TKX.someC q3573 ((hF3566.2.1 175 (by decide))) ((hF3566.1 174 1 (by decide)))).choose_spec (by omega) (by omega) (by omega)⟩)⟩⟩
            · have c3691_ : v3586.toInt = (-1) := en_i_ne_f c3691
              exfalso; omega
      · have c3677_ : v3672.toInt ≠ 0 := en_k_eq_f c3677
        have i3698 := BL.yes hb3676 (by omega)
        refine At.enter rfl ?_
        refine r_aload_n e3570 ?_
        refine r_callV 60 rfl [.ref 176] [] (Nat.le_of_ble_eq_true rfl) rfl (T_X5_step_176 _ hI3670 (TKX.c q3573 ((hF3671.2.1 175 ma_X5_isSingle_176_175)) ((hF3671.1 174 1 mf_X5_isSingle_176_174_1)) ((hF3671.1 176 3 mf_X5_isSingle_176_176_3)) ((hF3671.1 176 4 mf_X5_isSingle_176_176_4)) ((hF3671.1 176 5 mf_X5_isSingle_176_176_5))).1 (TKX.c q3573 ((hF3671.2.1 175 ma_X5_isSingle_176_175)) ((hF3671.1 174 1 mf_X5_isSingle_176_174_1)) ((hF3671.1 176 3 mf_X5_isSingle_176_176_3)) ((hF3671.1 176 4 mf_X5_isSingle_176_176_4)) ((hF3671.1 176 5 mf_X5_isSingle_176_176_5))).2.1.le.2.1) ?_
        rintro _ _ ⟨g3699, rfl, hI3700, hF3701, rfl, hr3703⟩
        refine At.stn ?_
        have hF3704 := Fr.tr hF3674 hF3701 rfl rfl
        have tok3705_ := hr3703.2
        rw [TX.c ((hF3671.2.1 175 ma_X5_isSingle_176_175)), nX.c ((hF3671.1 174 1 mf_X5_isSingle_176_174_1)), rX.c (b := 5) ((hF3671.1 176 5 mf_X5_isSingle_176_176_5))] at tok3705_
        have tok3705 := TKX.tok q3573 tok3705_
        rw [TX.c ((hF3566.2.1 175 (by decide))), nX.c ((hF3566.1 174 1 (by decide)))] at tok3705
        have hT3706 := hr3703.1
        have x3707 := rX.e hI3670 (b := 4) (((hF3671.1 176 4 mf_X5_isSingle_176_176_4).trans hv3586))
        obtain ⟨v3708, hv3708⟩ : ∃ v, gI g3699 176 4 = v := ⟨_, rfl⟩
        have rv3708 := RgF.at hI3700.2.1 (p := 176) (b := 4) rfl
        rw [hv3708] at rv3708
        dsimp only at rv3708
        have tv3708 := congrArg Int32.toInt hv3708
        have x3709 := rX.e hI3700 (b := 4) (hv3708)
        refine At.enter rfl ?_
        refine r_aload_n e3570 ?_
        refine r_callV 64 rfl [.ref 176] [] (Nat.le_of_ble_eq_true rfl) rfl (T_X5_readClause_176 _ hI3700 hT3706) ?_
        rintro _ _ ⟨g3710, rfl, hI3711, hF3712, rfl, hr3714⟩
        refine At.stn ?_
        have hF3715 := Fr.tr hF3704 hF3712 rfl rfl
        obtain ⟨o3716, o3717, o3718⟩ := hr3714
        rw [TX.ci hI3700 (((hF3701.2.1 175 ma_X5_step_176_175).trans ((hF3671.2.1 175 ma_X5_isSingle_176_175).trans (hF3566.2.1 175 (by decide))))), nX.ci hI3700 (((hF3701.1 174 1 mf_X5_step_176_174_1).trans ((hF3671.1 174 1 mf_X5_isSingle_176_174_1).trans (hF3566.1 174 1 (by decide)))))] at o3718
        have y3719 := o3717.1
        have x3720 := rX.e hI3700 (b := 2) ((((hF3701.1 176 2 mf_X5_step_176_176_2).trans (hF3671.1 176 2 mf_X5_isSingle_176_176_2)).trans hv3588))
        obtain ⟨v3721, hv3721⟩ : ∃ v, gI g3710 176 2 = v := ⟨_, rfl⟩
        have tv3721 := congrArg Int32.toInt hv3721
        have x3722 := rX.e hI3711 (b := 2) (hv3721)
        have x3723 := rX.e hI3700 (b := 4) (hv3708)
        obtain ⟨v3724, hv3724⟩ : ∃ v, gI g3710 176 4 = v := ⟨_, rfl⟩
        have rv3724 := RgF.at hI3711.2.1 (p := 176) (b := 4) rfl
        rw [hv3724] at rv3724
        dsimp only at rv3724
        have tv3724 := congrArg Int32.toInt hv3724
        have x3725 := rX.e hI3711 (b := 4) (hv3724)
        refine At.enter rfl ?_
        refine q_iinc e3571 (x3563.toInt + 1) rfl (by omega) (fun v3726 hv3726 => ?_)
        refine r_goto ?_
        have y3727 := ((PRG0.step q3573 tok3705_ (rX.c (b := 2) (((hF3701.1 176 2 mf_X5_step_176_176_2).trans (hF3671.1 176 2 mf_X5_isSingle_176_176_2)))) (by omega)).2.2 (by rw [(rX.c (b := 2) (((hF3701.1 176 2 mf_X5_step_176_176_2).trans (hF3671.1 176 2 mf_X5_isSingle_176_176_2))))]; omega)).2
        have x3728 := rX.e hI3565 (b := 4) (hv3586)
        have x3729 := rX.e hI3565 (b := 2) (hv3588)
        have x3730 := rX.e hI3711 (b := 4) (hv3724)
        exact ih3569 (400 - v3726.toInt) _ _ ⟨v3726, by first | rfl | omega, hI3711, hF3715, (w_p1 (by decide) (Or.inr rfl) e3570), (w_e1 _ _ _), by omega, o3716, (o3718 _ (CLX.head q3574 (fun _ => by rw [show kX g3699 = kX g3564 from congrArg Int32.toInt (((hF3701.1 177 3 mf_X5_step_176_177_3).trans (hF3671.1 177 3 mf_X5_isSingle_176_177_3)))]; exact S.semi tok3705 (by omega)) (rX.c (b := 2) (((hF3701.1 176 2 mf_X5_step_176_176_2).trans (hF3671.1 176 2 mf_X5_isSingle_176_176_2)))) (rX.c (b := 6) (((hF3701.1 176 6 mf_X5_step_176_176_6).trans (hF3671.1 176 6 mf_X5_isSingle_176_176_6)))))), by omega⟩ ⟨by omega, by omega⟩
