def F_X11_readExpression_231 : List (Nat × Nat) := [(231, 9), (231, 10), (231, 11), (231, 12), (231, 13), (231, 14), (231, 17), (231, 20), (231, 23), (231, 24)]
def A_X11_readExpression_231 : List Nat := [238, 239, 240, 241]
set_option maxRecDepth 100000 in
set_option maxHeartbeats 4000000 in
theorem T_X11_readExpression_231 (d : Nat) {N : Nat} {g0 : List en_E} (hI0 : HI g0) (a1 : Int32) (h_a1 : 0 ≤ a1.toInt ∧ a1.toInt ≤ 1) (h1 : ((gI g0 231 9).toInt ≤ (gI g0 231 10).toInt ∧ (gI g0 231 10).toInt ≤ (gI g0 231 8).toInt ∧ 0 ≤ (gI g0 231 11).toInt ∧ (gI g0 231 11).toInt ≤ 3 * ((gI g0 231 10).toInt - (gI g0 231 9).toInt))) (h2 : (gI g0 231 14).toInt = 0) (h3 : (gI g0 231 17).toInt ≤ (gI g0 231 9).toInt) (hW : W26 g0) : Ev (d + 7) 208 [.ref 231, .int a1] (g0, N) (fun w h' => ∃ g', h' = (g', N) ∧ HI g' ∧ Fr F_X11_readExpression_231 A_X11_readExpression_231 g0 g' ∧ w = none ∧ ((gI g' 231 9).toInt ≤ (gI g' 231 10).toInt ∧ (gI g' 231 10).toInt ≤ (gI g' 231 8).toInt ∧ 0 ≤ (gI g' 231 11).toInt ∧ (gI g' 231 11).toInt ≤ 3 * ((gI g' 231 10).toInt - (gI g' 231 9).toInt) ∧ W26 g' ∧ (gI g0 231 9).toInt ≤ (gI g' 231 9).toInt ∧ XPR g0 g')) := by
  have hF0 : Fr F_X11_readExpression_231 A_X11_readExpression_231 g0 g0 := Fr.rf
  obtain ⟨v1, hv1⟩ : ∃ v, gI g0 231 8 = v := ⟨_, rfl⟩
  have rv1 := RgF.at hI0.2.1 (p := 231) (b := 8) rfl
  rw [hv1] at rv1
  dsimp only at rv1
  have tv1 := congrArg Int32.toInt hv1
  obtain ⟨v2, hv2⟩ : ∃ v, gI g0 231 9 = v := ⟨_, rfl⟩
  have rv2 := RgF.at hI0.2.1 (p := 231) (b := 9) rfl
  rw [hv2] at rv2
  dsimp only at rv2
  have tv2 := congrArg Int32.toInt hv2
  obtain ⟨v3, hv3⟩ : ∃ v, gI g0 231 10 = v := ⟨_, rfl⟩
  have rv3 := RgF.at hI0.2.1 (p := 231) (b := 10) rfl
  rw [hv3] at rv3
  dsimp only at rv3
  have tv3 := congrArg Int32.toInt hv3
  obtain ⟨v4, hv4⟩ : ∃ v, gI g0 231 11 = v := ⟨_, rfl⟩
  have tv4 := congrArg Int32.toInt hv4
  obtain ⟨v5, hv5⟩ : ∃ v, gJ g0 231 12 = v := ⟨_, rfl⟩
  have tv5 := congrArg Int64.toInt hv5
  obtain ⟨v6, hv6⟩ : ∃ v, gI g0 231 14 = v := ⟨_, rfl⟩
  have tv6 := congrArg Int32.toInt hv6
  obtain ⟨v7, hv7⟩ : ∃ v, gI g0 231 17 = v := ⟨_, rfl⟩
  have rv7 := RgF.at hI0.2.1 (p := 231) (b := 17) rfl
  rw [hv7] at rv7
  dsimp only at rv7
  have tv7 := congrArg Int32.toInt hv7
  obtain ⟨v8, hv8⟩ : ∃ v, gI g0 231 23 = v := ⟨_, rfl⟩
  have rv8 := RgF.at hI0.2.1 (p := 231) (b := 23) rfl
  rw [hv8] at rv8
  dsimp only at rv8
  have tv8 := congrArg Int32.toInt hv8
  refine Ev.mk rfl rfl ⟨Nat.le_of_ble_eq_true rfl, Or.inr (q_rc hI0.1 kx_231 rfl)⟩ ?_
  show At _ none _ _ (0, [(0, .ref 231), (1, .int a1)], [], (_, _)) _
  refine At.enter rfl ?_
  refine r_aload_n rfl ?_
  refine r_iconst 0 rfl ?_
  refine q_putI (Sh.int hI0.1 kx_231 rfl) rfl ?_
  have hI3811 := HI.wI1 hI0 kx_231 rfl (p := 231) (b := 23) (v := 0) rfl (by decide)
  have hF3812 := Fr.wI (p := 231) (b := 23) (v := 0) hF0 rfl
  refine r_aload_n rfl ?_
  refine r_iconst 0 rfl ?_
  refine q_putI (Sh.int hI3811.1 kx_231 rfl) rfl ?_
  have hI3813 := HI.wI0 hI3811 kx_231 rfl (p := 231) (b := 24) (v := 0) rfl
  have hF3814 := Fr.wI (p := 231) (b := 24) (v := 0) hF3812 rfl
  refine r_iload_n rfl ?_
  refine r_ifs 14 rfl (fun c3815 => ?_) (fun c3815 => ?_)
  · have c3815_ : a1.toInt = 0 := en_k_eq_t c3815
    refine At.enter rfl ?_
    refine r_iconst 1 rfl ?_
    refine Ar.fall 19 rfl ?_
    refine At.enter rfl ?_
    refine r_istore_n ([(2, .int 1), (0, .ref 231), (1, .int a1)]) rfl ?_
    refine Ar.fall 20 rfl ?_
    have z_4515 : (1 : Int32).toInt = 1 := rfl
    have x4516 := HI.eqI hI3813 (p := 231) (b := 8) ((((gI_sI_ne (by decide)).trans (gI_sI_ne (by decide))).trans hv1))
    have x4517 := HI.eqI hI3813 (p := 231) (b := 9) ((((gI_sI_ne (by decide)).trans (gI_sI_ne (by decide))).trans hv2))
    have x4518 := HI.eqI hI3813 (p := 231) (b := 10) ((((gI_sI_ne (by decide)).trans (gI_sI_ne (by decide))).trans hv3))
    have x4519 := HI.eqI hI3813 (p := 231) (b := 11) ((((gI_sI_ne (by decide)).trans (gI_sI_ne (by decide))).trans hv4))
    have x4520 := HI.eqJ hI3813 (b := 12) ((((gJ_sI_ne (by decide)).trans (gJ_sI_ne (by decide))).trans hv5))
    have x4521 := HI.eqI hI3813 (p := 231) (b := 14) ((((gI_sI_ne (by decide)).trans (gI_sI_ne (by decide))).trans hv6))
    have x4522 := HI.eqI hI3813 (p := 231) (b := 17) ((((gI_sI_ne (by decide)).trans (gI_sI_ne (by decide))).trans hv7))
    have x4523 := HI.eqI hI3813 (p := 231) (b := 23) (((gI_sI_ne (by decide)).trans (gI_sI_eq hI0.1 kx_231 rfl _)))
    have zv4524 : (0 : Int32).toInt = 0 := rfl
    refine w_loopI (fun n_ l_ g_ => ∃ x4491 : Int32, ∃ x4492 : Int32, ∃ x4493 : Int32, n_ = 5 * (400 - x4492.toInt) + tw (x4491.toInt) + 10 * bw (x4493.toInt) ∧ HI g_ ∧ Fr F_X11_readExpression_231 A_X11_readExpression_231 g0 g_ ∧ gI g_ 231 9 = x4492 ∧ gI g_ 231 14 = x4493 ∧ en_get 0 l_ = some (.ref 231) ∧ en_get 1 l_ = some (.int a1) ∧ en_get 2 l_ = some (.int x4491) ∧ (0 ≤ x4491.toInt ∧ x4491.toInt ≤ 4) ∧ (0 ≤ x4492.toInt ∧ x4492.toInt ≤ 400) ∧ ((gI g_ 231 9).toInt ≤ (gI g_ 231 10).toInt) ∧ ((gI g_ 231 10).toInt ≤ (gI g_ 231 8).toInt) ∧ (0 ≤ (gI g_ 231 11).toInt) ∧ ((gI g_ 231 11).toInt ≤ 3 * ((gI g_ 231 10).toInt - (gI g_ 231 9).toInt)) ∧ ((gI g_ 231 17).toInt + (gI g_ 231 23).toInt ≤ 400) ∧ ((gI g0 231 9).toInt ≤ (gI g_ 231 9).toInt) ∧ (W26 g_) ∧ (TURN g_ (gI g0 231 17).toInt x4491.toInt (pE g0 238) (pE g0 239))) ?_ (5 * (400 - v2.toInt) + tw (1) + 10 * bw (v6.toInt)) ⟨1, v2, v6, by first | rfl | omega, hI3813, hF3814, (((gI_sI_ne (by decide)).trans (gI_sI_ne (by decide))).trans hv2), (((gI_sI_ne (by decide)).trans (gI_sI_ne (by decide))).trans hv6), rfl, rfl, rfl, by decide, by omega, by omega, by omega, by omega, by omega, by omega, by omega, (W26.cong hW hI3813 (((gI_sI_ne (by decide)).trans (gI_sI_ne (by decide)))) (((gI_sI_ne (by decide)).trans (gI_sI_ne (by decide)))) (((gI_sI_ne (by decide)).trans (gI_sI_ne (by decide)))) (((gJ_sI_ne (by decide)).trans (gJ_sI_ne (by decide))))), (fun _ => ⟨by omega, PT.start hI3813 (((gA_sI).trans (gA_sI))) (((gA_sI).trans (gA_sI))) (((gI_sI_ne (by decide)).trans (gI_sI_ne (by decide)))) (by show (gI _ 231 23).toInt = 0; omega) (by show 0 ≤ (gI _ 231 17).toInt; omega) (by omega)⟩)⟩
    rintro n4498 l4497 g4494 ⟨x4491, x4492, x4493, hm4525, hI4495, hF4496, e4500, e4501, e4502, e4503, e4504, r4505, r4506, q4507, q4508, q4509, q4510, q4511, q4512, q4513, q4514⟩ ih4499
    have tv4526 := congrArg Int32.toInt e4500
    have tv4527 := congrArg Int32.toInt e4501
    have x4528 := HI.eqI hI4495 (p := 231) (b := 8) (((hF4496.1 231 8 (by decide)).trans hv1))
    have x4529 := HI.eqI hI4495 (p := 231) (b := 9) (e4500)
    obtain ⟨v4530, hv4530⟩ : ∃ v, gI g4494 231 10 = v := ⟨_, rfl⟩
    have rv4530 := RgF.at hI4495.2.1 (p := 231) (b := 10) rfl
    rw [hv4530] at rv4530
    dsimp only at rv4530
    have tv4530 := congrArg Int32.toInt hv4530
    have x4531 := HI.eqI hI4495 (p := 231) (b := 10) (hv4530)
    obtain ⟨v4532, hv4532⟩ : ∃ v, gI g4494 231 11 = v := ⟨_, rfl⟩
    have tv4532 := congrArg Int32.toInt hv4532
    have x4533 := HI.eqI hI4495 (p := 231) (b := 11) (hv4532)
    obtain ⟨v4534, hv4534⟩ : ∃ v, gJ g4494 231 12 = v := ⟨_, rfl⟩
    have x4535 := HI.eqJ hI4495 (b := 12) (hv4534)
    have x4536 := HI.eqI hI4495 (p := 231) (b := 14) (e4501)
    obtain ⟨v4537, hv4537⟩ : ∃ v, gI g4494 231 17 = v := ⟨_, rfl⟩
    have rv4537 := RgF.at hI4495.2.1 (p := 231) (b := 17) rfl
    rw [hv4537] at rv4537
    dsimp only at rv4537
    have tv4537 := congrArg Int32.toInt hv4537
    have x4538 := HI.eqI hI4495 (p := 231) (b := 17) (hv4537)
    obtain ⟨v4539, hv4539⟩ : ∃ v, gI g4494 231 23 = v := ⟨_, rfl⟩
    have rv4539 := RgF.at hI4495.2.1 (p := 231) (b := 23) rfl
    rw [hv4539] at rv4539
    dsimp only at rv4539
    have tv4539 := congrArg Int32.toInt hv4539
    have x4540 := HI.eqI hI4495 (p := 231) (b := 23) (hv4539)
    refine At.enter rfl ?_
    refine r_aload_n e4502 ?_
    refine q_getI (Sh.int hI4495.1 kx_231 rfl) x4493 e4501 ?_
    refine r_ifs 27 rfl (fun c4541 => ?_) (fun c4541 => ?_)
    · have c4541_ : x4493.toInt ≠ 0 := en_k_ne_t c4541
      refine At.enter rfl ?_
      refine r_aload_n e4502 ?_
      refine r_iconst 1 rfl ?_
      have x4542 := HI.eqI hI4495 (p := 231) (b := 17) (hv4537)
      have x4543 := HI.eqI hI4495 (p := 231) (b := 23) (hv4539)
      have zv4544 : (1 : Int32).toInt = 1 := rfl
      refine r_callV 81 rfl [.ref 231, .int 1] [] (Nat.le_of_ble_eq_true rfl) rfl (T_X11_settle_231 _ hI4495 1 (by decide) (by omega)) ?_
      rintro _ _ ⟨g4545, rfl, hI4546, hF4547, rfl, hr4549⟩
      refine At.stn ?_
      have hF4550 := Fr.tr hF4496 hF4547 rfl rfl
      have zv4551 : (1 : Int32).toInt = 1 := rfl
      have x4552 := HI.eqI hI4495 (p := 231) (b := 17) (hv4537)
      have x4553 := HI.eqI hI4495 (p := 231) (b := 23) (hv4539)
      obtain ⟨v4554, hv4554⟩ : ∃ v, gI g4545 231 17 = v := ⟨_, rfl⟩
      have rv4554 := RgF.at hI4546.2.1 (p := 231) (b := 17) rfl
      rw [hv4554] at rv4554
      dsimp only at rv4554
      have tv4554 := congrArg Int32.toInt hv4554
      have x4555 := HI.eqI hI4546 (p := 231) (b := 17) (hv4554)
      obtain ⟨v4556, hv4556⟩ : ∃ v, gI g4545 231 23 = v := ⟨_, rfl⟩
      have rv4556 := RgF.at hI4546.2.1 (p := 231) (b := 23) rfl
      rw [hv4556] at rv4556
      dsimp only at rv4556
      have tv4556 := congrArg Int32.toInt hv4556
      have x4557 := HI.eqI hI4546 (p := 231) (b := 23) (hv4556)
      have y4558 : (gI _ 231 23).toInt ≤ (gI _ 231 23).toInt := hr4549.1
      have y4559 : (gI _ 231 17).toInt + (gI _ 231 23).toInt ≤ (gI _ 231 17).toInt + (gI _ 231 23).toInt := hr4549.2.1
      refine At.enter rfl ?_
      refine r_vret ?_
      have x4560 := HI.eqI hI4546 (p := 231) (b := 8) ((((hF4547.1 231 8 (by decide)).trans (hF4496.1 231 8 (by decide))).trans hv1))
      have x4561 := HI.eqI hI4546 (p := 231) (b := 9) (((hF4547.1 231 9 (by decide)).trans e4500))
      have x4562 := HI.eqI hI4546 (p := 231) (b := 10) (((hF4547.1 231 10 (by decide)).trans hv4530))
      have x4563 := HI.eqI hI4546 (p := 231) (b := 11) (((hF4547.1 231 11 (by decide)).trans hv4532))
      have x4564 := HI.eqJ hI4546 (b := 12) (((hF4547.2.2 231 12 (by decide)).trans hv4534))
      have x4565 := HI.eqI hI4546 (p := 231) (b := 14) (((hF4547.1 231 14 (by decide)).trans e4501))
      have x4566 := HI.eqI hI4546 (p := 231) (b := 17) (hv4554)
      have x4567 := HI.eqI hI4546 (p := 231) (b := 23) (hv4556)
      have x4568 := HI.eqI hI0 (p := 231) (b := 9) (hv2)
      have x4569 := HI.eqI hI0 (p := 231) (b := 17) (hv7)
      have w264570 := W26.cong q4513 hI4546 ((hF4547.1 231 9 (by decide))) ((hF4547.1 231 10 (by decide))) ((hF4547.1 231 11 (by decide))) ((hF4547.2.2 231 12 (by decide)))
      exact ⟨_, rfl, hI4546, hF4550, rfl, ⟨by omega, by omega, by omega, by omega, w264570, by omega, (fun hbad => False.elim (by omega))⟩⟩
    · have c4541_ : x4493.toInt = 0 := en_k_ne_f c4541
      refine At.enter rfl ?_
      refine r_iload_n e4504 ?_
      refine r_iconst 4 rfl ?_
      refine r_ics 32 rfl (fun c4571 => ?_) (fun c4571 => ?_)
      · have c4571_ : x4491.toInt = 4 := en_i_eq_t c4571
        refine At.enter rfl ?_
        refine r_aload_n e4502 ?_
        refine r_iconst 1 rfl ?_
        have x4572 := HI.eqI hI4495 (p := 231) (b := 17) (hv4537)
        have x4573 := HI.eqI hI4495 (p := 231) (b := 23) (hv4539)
        have zv4574 : (1 : Int32).toInt = 1 := rfl
        refine r_callV 81 rfl [.ref 231, .int 1] [] (Nat.le_of_ble_eq_true rfl) rfl (T_X11_settle_231 _ hI4495 1 (by decide) (by omega)) ?_
        rintro _ _ ⟨g4575, rfl, hI4576, hF4577, rfl, hr4579⟩
        refine At.stn ?_
        have hF4580 := Fr.tr hF4496 hF4577 rfl rfl
        have zv4581 : (1 : Int32).toInt = 1 := rfl
        have x4582 := HI.eqI hI4495 (p := 231) (b := 17) (hv4537)
        have x4583 := HI.eqI hI4495 (p := 231) (b := 23) (hv4539)
        obtain ⟨v4584, hv4584⟩ : ∃ v, gI g4575 231 17 = v := ⟨_, rfl⟩
        have rv4584 := RgF.at hI4576.2.1 (p := 231) (b := 17) rfl
        rw [hv4584] at rv4584
        dsimp only at rv4584
        have tv4584 := congrArg Int32.toInt hv4584
        have x4585 := HI.eqI hI4576 (p := 231) (b := 17) (hv4584)
        obtain ⟨v4586, hv4586⟩ : ∃ v, gI g4575 231 23 = v := ⟨_, rfl⟩
        have rv4586 := RgF.at hI4576.2.1 (p := 231) (b := 23) rfl
        rw [hv4586] at rv4586
        dsimp only at rv4586
        have tv4586 := congrArg Int32.toInt hv4586
        have x4587 := HI.eqI hI4576 (p := 231) (b := 23) (hv4586)
        have y4588 : (gI _ 231 23).toInt ≤ (gI _ 231 23).toInt := hr4579.1
        have y4589 : (gI _ 231 17).toInt + (gI _ 231 23).toInt ≤ (gI _ 231 17).toInt + (gI _ 231 23).toInt := hr4579.2.1
        refine At.enter rfl ?_
        refine r_vret ?_
        have x4590 := HI.eqI hI4576 (p := 231) (b := 8) ((((hF4577.1 231 8 (by decide)).trans (hF4496.1 231 8 (by decide))).trans hv1))
        have x4591 := HI.eqI hI4576 (p := 231) (b := 9) (((hF4577.1 231 9 (by decide)).trans e4500))
        have x4592 := HI.eqI hI4576 (p := 231) (b := 10) (((hF4577.1 231 10 (by decide)).trans hv4530))
        have x4593 := HI.eqI hI4576 (p := 231) (b := 11) (((hF4577.1 231 11 (by decide)).trans hv4532))
        have x4594 := HI.eqJ hI4576 (b := 12) (((hF4577.2.2 231 12 (by decide)).trans hv4534))
        have x4595 := HI.eqI hI4576 (p := 231) (b := 14) (((hF4577.1 231 14 (by decide)).trans e4501))
        have x4596 := HI.eqI hI4576 (p := 231) (b := 17) (hv4584)
        have x4597 := HI.eqI hI4576 (p := 231) (b := 23) (hv4586)
        have x4598 := HI.eqI hI0 (p := 231) (b := 9) (hv2)
        have x4599 := HI.eqI hI0 (p := 231) (b := 17) (hv7)
        have w264600 := W26.cong q4513 hI4576 ((hF4577.1 231 9 (by decide))) ((hF4577.1 231 10 (by decide))) ((hF4577.1 231 11 (by decide))) ((hF4577.2.2 231 12 (by decide)))
        exact ⟨_, rfl, hI4576, hF4580, rfl, ⟨by omega, by omega, by omega, by omega, w264600, by omega, (fun hbad => ⟨by have y := (q4514 (by omega)).1; omega, (EXPR.of ((q4514 (by omega)).2.2.1 (by omega)) ((q4514 (by omega)).2.2.2.2 (by omega)) hr4579 (by omega) (by show 0 ≤ (gI _ 231 23).toInt; omega) (by show (gI _ 231 17).toInt ≤ 400; omega) rfl rfl rfl).2⟩)⟩⟩
      · have c4571_ : x4491.toInt ≠ 4 := en_i_eq_f c4571
        refine At.enter rfl ?_
        refine r_iload_n e4504 ?_
        refine r_ifs 36 rfl (fun c4601 => ?_) (fun c4601 => ?_)
        · have c4601_ : x4491.toInt ≠ 0 := en_k_ne_t c4601
          refine At.enter rfl ?_
          refine r_iload_n e4504 ?_
          refine r_iconst 1 rfl ?_
          refine r_ics 48 rfl (fun c4602 => ?_) (fun c4602 => ?_)
          · have c4602_ : x4491.toInt ≠ 1 := en_i_ne_t c4602
            refine At.enter rfl ?_
            refine r_iload_n e4504 ?_
            refine r_iconst 3 rfl ?_
            refine r_ics 60 rfl (fun c4603 => ?_) (fun c4603 => ?_)
            · have c4603_ : x4491.toInt ≠ 3 := en_i_ne_t c4603
              refine At.enter rfl ?_
              refine r_aload_n e4502 ?_
              have x4604 := HI.eqI hI4495 (p := 231) (b := 8) (((hF4496.1 231 8 (by decide)).trans hv1))
              have x4605 := HI.eqI hI4495 (p := 231) (b := 9) (e4500)
              have x4606 := HI.eqI hI4495 (p := 231) (b := 10) (hv4530)
              have x4607 := HI.eqI hI4495 (p := 231) (b := 11) (hv4532)
              have x4608 := HI.eqJ hI4495 (b := 12) (hv4534)
              have x4609 := HI.eqI hI4495 (p := 231) (b := 14) (e4501)
              have x4610 := HI.eqI hI4495 (p := 231) (b := 17) (hv4537)
              have x4611 := HI.eqI hI4495 (p := 231) (b := 23) (hv4539)
              have y4612 := (q4514 (by omega)).1
              refine r_callV 72 rfl [.ref 231] [] (Nat.le_of_ble_eq_true rfl) rfl (T_X11_behindTest_231 _ hI4495 (gI g0 231 17).toInt (pE g0 238) (pE g0 239) (by refine ⟨?_, ?_, ?_, ?_⟩ <;> omega) (by omega) (by omega) q4513 (PT.eq (q4514 (by omega)).2 (by omega))) ?_
              rintro _ _ ⟨g4613, rfl, hI4614, hF4615, v4616, rfl, hr4617⟩
              refine At.sti ?_
              have hF4618 := Fr.tr hF4496 hF4615 rfl rfl
              have x4619 := HI.eqI hI4495 (p := 231) (b := 9) (e4500)
              have x4620 := HI.eqI hI4614 (p := 231) (b := 8) ((((hF4615.1 231 8 (by decide)).trans (hF4496.1 231 8 (by decide))).trans hv1))
              obtain ⟨v4621, hv4621⟩ : ∃ v, gI g4613 231 9 = v := ⟨_, rfl⟩
              have rv4621 := RgF.at hI4614.2.1 (p := 231) (b := 9) rfl
              rw [hv4621] at rv4621
              dsimp only at rv4621
              have tv4621 := congrArg Int32.toInt hv4621
              have x4622 := HI.eqI hI4614 (p := 231) (b := 9) (hv4621)
              obtain ⟨v4623, hv4623⟩ : ∃ v, gI g4613 231 10 = v := ⟨_, rfl⟩
              have rv4623 := RgF.at hI4614.2.1 (p := 231) (b := 10) rfl
              rw [hv4623] at rv4623
              dsimp only at rv4623
              have tv4623 := congrArg Int32.toInt hv4623
              have x4624 := HI.eqI hI4614 (p := 231) (b := 10) (hv4623)
              obtain ⟨v4625, hv4625⟩ : ∃ v, gI g4613 231 11 = v := ⟨_, rfl⟩
              have tv4625 := congrArg Int32.toInt hv4625
              have x4626 := HI.eqI hI4614 (p := 231) (b := 11) (hv4625)
              obtain ⟨v4627, hv4627⟩ : ∃ v, gJ g4613 231 12 = v := ⟨_, rfl⟩
              have x4628 := HI.eqJ hI4614 (b := 12) (hv4627)
              obtain ⟨v4629, hv4629⟩ : ∃ v, gI g4613 231 14 = v := ⟨_, rfl⟩
              have tv4629 := congrArg Int32.toInt hv4629
              have x4630 := HI.eqI hI4614 (p := 231) (b := 14) (hv4629)
              obtain ⟨v4631, hv4631⟩ : ∃ v, gI g4613 231 17 = v := ⟨_, rfl⟩
              have rv4631 := RgF.at hI4614.2.1 (p := 231) (b := 17) rfl
              rw [hv4631] at rv4631
              dsimp only at rv4631
              have tv4631 := congrArg Int32.toInt hv4631
              have x4632 := HI.eqI hI4614 (p := 231) (b := 17) (hv4631)
              obtain ⟨v4633, hv4633⟩ : ∃ v, gI g4613 231 23 = v := ⟨_, rfl⟩
              have rv4633 := RgF.at hI4614.2.1 (p := 231) (b := 23) rfl
              rw [hv4633] at rv4633
              dsimp only at rv4633
              have tv4633 := congrArg Int32.toInt hv4633
              have x4634 := HI.eqI hI4614 (p := 231) (b := 23) (hv4633)
              obtain ⟨c4635, c4636, c4637, c4638, c4639, c4640, c4641, c4642, c4643⟩ := hr4617.2
              refine At.enter rfl ?_
              refine r_istore_n _ rfl ?_
              refine r_goto ?_
              have w4644 := tw_s x4491.toInt
              have w4645 := bw_s x4493.toInt
              have w4646 := tw_s v4616.toInt
              have w4647 := bw_s v4629.toInt
              have x4648 := HI.eqI hI4614 (p := 231) (b := 8) ((((hF4615.1 231 8 (by decide)).trans (hF4496.1 231 8 (by decide))).trans hv1))
              have x4649 := HI.eqI hI4614 (p := 231) (b := 9) (hv4621)
              have x4650 := HI.eqI hI4614 (p := 231) (b := 10) (hv4623)
              have x4651 := HI.eqI hI4614 (p := 231) (b := 11) (hv4625)
              have x4652 := HI.eqJ hI4614 (b := 12) (hv4627)
              have x4653 := HI.eqI hI4614 (p := 231) (b := 14) (hv4629)
              have x4654 := HI.eqI hI4614 (p := 231) (b := 17) (hv4631)
              have x4655 := HI.eqI hI4614 (p := 231) (b := 23) (hv4633)
              have y4656 := c4643
              unfold PRG at y4656
              have bv4657 := q_bnd v4629
              exact ih4499 (5 * (400 - v4621.toInt) + tw (v4616.toInt) + 10 * bw (v4629.toInt)) _ _ ⟨v4616, v4621, v4629, by first | rfl | omega, hI4614, hF4618, hv4621, hv4629, (w_p1 (by decide) (Or.inr rfl) e4502), (w_p1 (by decide) (Or.inr rfl) e4503), (w_e1 _ _ _), by omega, by omega, by omega, by omega, by omega, by omega, by omega, by omega, c4639, c4642⟩ ⟨by omega, by omega⟩
            · have c4603_ : x4491.toInt = 3 := en_i_ne_f c4603
              refine At.enter rfl ?_
              refine r_aload_n e4502 ?_
              refine r_iload_n e4503 ?_
              have x4658 := HI.eqI hI4495 (p := 231) (b := 8) (((hF4496.1 231 8 (by decide)).trans hv1))
              have x4659 := HI.eqI hI4495 (p := 231) (b := 9) (e4500)
              have x4660 := HI.eqI hI4495 (p := 231) (b := 10) (hv4530)
              have x4661 := HI.eqI hI4495 (p := 231) (b := 11) (hv4532)
              have x4662 := HI.eqJ hI4495 (b := 12) (hv4534)
              have x4663 := HI.eqI hI4495 (p := 231) (b := 14) (e4501)
              have x4664 := HI.eqI hI4495 (p := 231) (b := 17) (hv4537)
              have x4665 := HI.eqI hI4495 (p := 231) (b := 23) (hv4539)
              have y4666 := (q4514 (by omega)).1
              refine r_callV 65 rfl [.ref 231, .int a1] [] (Nat.le_of_ble_eq_true rfl) rfl (T_X11_behindSum_231 _ hI4495 a1 (by omega) (gI g0 231 17).toInt (pE g0 238) (pE g0 239) (by refine ⟨?_, ?_, ?_, ?_⟩ <;> omega) (by omega) (by omega) q4513 (PT.eq (q4514 (by omega)).2 (by omega))) ?_
              rintro _ _ ⟨g4667, rfl, hI4668, hF4669, v4670, rfl, hr4671⟩
              refine At.sti ?_
              have hF4672 := Fr.tr hF4496 hF4669 rfl rfl
              have x4673 := HI.eqI hI4495 (p := 231) (b := 9) (e4500)
              have x4674 := HI.eqI hI4668 (p := 231) (b := 8) ((((hF4669.1 231 8 (by decide)).trans (hF4496.1 231 8 (by decide))).trans hv1))
              obtain ⟨v4675, hv4675⟩ : ∃ v, gI g4667 231 9 = v := ⟨_, rfl⟩
              have rv4675 := RgF.at hI4668.2.1 (p := 231) (b := 9) rfl
              rw [hv4675] at rv4675
              dsimp only at rv4675
              have tv4675 := congrArg Int32.toInt hv4675
              have x4676 := HI.eqI hI4668 (p := 231) (b := 9) (hv4675)
              obtain ⟨v4677, hv4677⟩ : ∃ v, gI g4667 231 10 = v := ⟨_, rfl⟩
              have rv4677 := RgF.at hI4668.2.1 (p := 231) (b := 10) rfl
              rw [hv4677] at rv4677
              dsimp only at rv4677
              have tv4677 := congrArg Int32.toInt hv4677
              have x4678 := HI.eqI hI4668 (p := 231) (b := 10) (hv4677)
              obtain ⟨v4679, hv4679⟩ : ∃ v, gI g4667 231 11 = v := ⟨_, rfl⟩
              have tv4679 := congrArg Int32.toInt hv4679
              have x4680 := HI.eqI hI4668 (p := 231) (b := 11) (hv4679)
              obtain ⟨v4681, hv4681⟩ : ∃ v, gJ g4667 231 12 = v := ⟨_, rfl⟩
              have x4682 := HI.eqJ hI4668 (b := 12) (hv4681)
              obtain ⟨v4683, hv4683⟩ : ∃ v, gI g4667 231 14 = v := ⟨_, rfl⟩
              have tv4683 := congrArg Int32.toInt hv4683
              have x4684 := HI.eqI hI4668 (p := 231) (b := 14) (hv4683)
              obtain ⟨v4685, hv4685⟩ : ∃ v, gI g4667 231 17 = v := ⟨_, rfl⟩
              have rv4685 := RgF.at hI4668.2.1 (p := 231) (b := 17) rfl
              rw [hv4685] at rv4685
              dsimp only at rv4685
              have tv4685 := congrArg Int32.toInt hv4685
              have x4686 := HI.eqI hI4668 (p := 231) (b := 17) (hv4685)
              obtain ⟨v4687, hv4687⟩ : ∃ v, gI g4667 231 23 = v := ⟨_, rfl⟩
              have rv4687 := RgF.at hI4668.2.1 (p := 231) (b := 23) rfl
              rw [hv4687] at rv4687
              dsimp only at rv4687
              have tv4687 := congrArg Int32.toInt hv4687
              have x4688 := HI.eqI hI4668 (p := 231) (b := 23) (hv4687)
              obtain ⟨c4689, c4690, c4691, c4692, c4693, c4694, c4695, c4696, c4697⟩ := hr4671.2
              refine At.enter rfl ?_
              refine r_goto ?_
              refine At.enter rfl ?_
              refine r_istore_n _ rfl ?_
              refine r_goto ?_
              have w4698 := tw_s x4491.toInt
              have w4699 := bw_s x4493.toInt
              have w4700 := tw_s v4670.toInt
              have w4701 := bw_s v4683.toInt
              have x4702 := HI.eqI hI4668 (p := 231) (b := 8) ((((hF4669.1 231 8 (by decide)).trans (hF4496.1 231 8 (by decide))).trans hv1))
              have x4703 := HI.eqI hI4668 (p := 231) (b := 9) (hv4675)
              have x4704 := HI.eqI hI4668 (p := 231) (b := 10) (hv4677)
              have x4705 := HI.eqI hI4668 (p := 231) (b := 11) (hv4679)
              have x4706 := HI.eqJ hI4668 (b := 12) (hv4681)
              have x4707 := HI.eqI hI4668 (p := 231) (b := 14) (hv4683)
              have x4708 := HI.eqI hI4668 (p := 231) (b := 17) (hv4685)
              have x4709 := HI.eqI hI4668 (p := 231) (b := 23) (hv4687)
              have y4710 := c4697
              unfold PRG at y4710
              have bv4711 := q_bnd v4683
              exact ih4499 (5 * (400 - v4675.toInt) + tw (v4670.toInt) + 10 * bw (v4683.toInt)) _ _ ⟨v4670, v4675, v4683, by first | rfl | omega, hI4668, hF4672, hv4675, hv4683, (w_p1 (by decide) (Or.inr rfl) e4502), (w_p1 (by decide) (Or.inr rfl) e4503), (w_e1 _ _ _), by omega, by omega, by omega, by omega, by omega, by omega, by omega, by omega, c4693, c4696⟩ ⟨by omega, by omega⟩
          · have c4602_ : x4491.toInt = 1 := en_i_ne_f c4602
            refine At.enter rfl ?_
            refine r_aload_n e4502 ?_
            have x4712 := HI.eqI hI4495 (p := 231) (b := 8) (((hF4496.1 231 8 (by decide)).trans hv1))
            have x4713 := HI.eqI hI4495 (p := 231) (b := 9) (e4500)
            have x4714 := HI.eqI hI4495 (p := 231) (b := 10) (hv4530)
            have x4715 := HI.eqI hI4495 (p := 231) (b := 11) (hv4532)
            have x4716 := HI.eqJ hI4495 (b := 12) (hv4534)
            have x4717 := HI.eqI hI4495 (p := 231) (b := 14) (e4501)
            have x4718 := HI.eqI hI4495 (p := 231) (b := 17) (hv4537)
            have x4719 := HI.eqI hI4495 (p := 231) (b := 23) (hv4539)
            have y4720 := (q4514 (by omega)).1
            refine r_callV 52 rfl [.ref 231] [] (Nat.le_of_ble_eq_true rfl) rfl (T_X11_readPart_231 _ hI4495 (gI g0 231 17).toInt (pE g0 238) (pE g0 239) (by refine ⟨?_, ?_, ?_, ?_⟩ <;> omega) (by omega) (by omega) q4513 (PT.eq (q4514 (by omega)).2 (by omega))) ?_
            rintro _ _ ⟨g4721, rfl, hI4722, hF4723, v4724, rfl, hr4725⟩
            refine At.sti ?_
            have hF4726 := Fr.tr hF4496 hF4723 rfl rfl
            have x4727 := HI.eqI hI4495 (p := 231) (b := 9) (e4500)
            have x4728 := HI.eqI hI4722 (p := 231) (b := 8) ((((hF4723.1 231 8 (by decide)).trans (hF4496.1 231 8 (by decide))).trans hv1))
            obtain ⟨v4729, hv4729⟩ : ∃ v, gI g4721 231 9 = v := ⟨_, rfl⟩
            have rv4729 := RgF.at hI4722.2.1 (p := 231) (b := 9) rfl
            rw [hv4729] at rv4729
            dsimp only at rv4729
            have tv4729 := congrArg Int32.toInt hv4729
            have x4730 := HI.eqI hI4722 (p := 231) (b := 9) (hv4729)
            obtain ⟨v4731, hv4731⟩ : ∃ v, gI g4721 231 10 = v := ⟨_, rfl⟩
            have rv4731 := RgF.at hI4722.2.1 (p := 231) (b := 10) rfl
            rw [hv4731] at rv4731
            dsimp only at rv4731
            have tv4731 := congrArg Int32.toInt hv4731
            have x4732 := HI.eqI hI4722 (p := 231) (b := 10) (hv4731)
            obtain ⟨v4733, hv4733⟩ : ∃ v, gI g4721 231 11 = v := ⟨_, rfl⟩
            have tv4733 := congrArg Int32.toInt hv4733
            have x4734 := HI.eqI hI4722 (p := 231) (b := 11) (hv4733)
            obtain ⟨v4735, hv4735⟩ : ∃ v, gJ g4721 231 12 = v := ⟨_, rfl⟩
            have x4736 := HI.eqJ hI4722 (b := 12) (hv4735)
            obtain ⟨v4737, hv4737⟩ : ∃ v, gI g4721 231 14 = v := ⟨_, rfl⟩
            have tv4737 := congrArg Int32.toInt hv4737
            have x4738 := HI.eqI hI4722 (p := 231) (b := 14) (hv4737)
            obtain ⟨v4739, hv4739⟩ : ∃ v, gI g4721 231 17 = v := ⟨_, rfl⟩
            have rv4739 := RgF.at hI4722.2.1 (p := 231) (b := 17) rfl
            rw [hv4739] at rv4739
            dsimp only at rv4739
            have tv4739 := congrArg Int32.toInt hv4739
            have x4740 := HI.eqI hI4722 (p := 231) (b := 17) (hv4739)
            obtain ⟨v4741, hv4741⟩ : ∃ v, gI g4721 231 23 = v := ⟨_, rfl⟩
            have rv4741 := RgF.at hI4722.2.1 (p := 231) (b := 23) rfl
            rw [hv4741] at rv4741
            dsimp only at rv4741
            have tv4741 := congrArg Int32.toInt hv4741
            have x4742 := HI.eqI hI4722 (p := 231) (b := 23) (hv4741)
            obtain ⟨c4743, c4744, c4745, c4746, c4747, c4748, c4749, c4750, c4751⟩ := hr4725.2
            refine At.enter rfl ?_
            refine r_goto ?_
            refine At.enter rfl ?_
            refine r_istore_n _ rfl ?_
            refine r_goto ?_
            have w4752 := tw_s x4491.toInt
            have w4753 := bw_s x4493.toInt
            have w4754 := tw_s v4724.toInt
            have w4755 := bw_s v4737.toInt
            have x4756 := HI.eqI hI4722 (p := 231) (b := 8) ((((hF4723.1 231 8 (by decide)).trans (hF4496.1 231 8 (by decide))).trans hv1))
            have x4757 := HI.eqI hI4722 (p := 231) (b := 9) (hv4729)
            have x4758 := HI.eqI hI4722 (p := 231) (b := 10) (hv4731)
            have x4759 := HI.eqI hI4722 (p := 231) (b := 11) (hv4733)
            have x4760 := HI.eqJ hI4722 (b := 12) (hv4735)
            have x4761 := HI.eqI hI4722 (p := 231) (b := 14) (hv4737)
            have x4762 := HI.eqI hI4722 (p := 231) (b := 17) (hv4739)
            have x4763 := HI.eqI hI4722 (p := 231) (b := 23) (hv4741)
            have y4764 := c4751
            unfold PRG at y4764
            have bv4765 := q_bnd v4737
            exact ih4499 (5 * (400 - v4729.toInt) + tw (v4724.toInt) + 10 * bw (v4737.toInt)) _ _ ⟨v4724, v4729, v4737, by first | rfl | omega, hI4722, hF4726, hv4729, hv4737, (w_p1 (by decide) (Or.inr rfl) e4502), (w_p1 (by decide) (Or.inr rfl) e4503), (w_e1 _ _ _), by omega, by omega, by omega, by omega, by omega, by omega, by omega, by omega, c4747, c4750⟩ ⟨by omega, by omega⟩
        · have c4601_ : x4491.toInt = 0 := en_k_ne_f c4601
          refine At.enter rfl ?_
          refine r_aload_n e4502 ?_
          have x4766 := HI.eqI hI4495 (p := 231) (b := 8) (((hF4496.1 231 8 (by decide)).trans hv1))
          have x4767 := HI.eqI hI4495 (p := 231) (b := 9) (e4500)
          have x4768 := HI.eqI hI4495 (p := 231) (b := 10) (hv4530)
          have x4769 := HI.eqI hI4495 (p := 231) (b := 11) (hv4532)
          have x4770 := HI.eqJ hI4495 (b := 12) (hv4534)
          have x4771 := HI.eqI hI4495 (p := 231) (b := 14) (e4501)
          have x4772 := HI.eqI hI4495 (p := 231) (b := 17) (hv4537)
          have x4773 := HI.eqI hI4495 (p := 231) (b := 23) (hv4539)
          have y4774 := (q4514 (by omega)).1
          refine r_callV 40 rfl [.ref 231] [] (Nat.le_of_ble_eq_true rfl) rfl (T_X11_readPlain_231 _ hI4495 (gI g0 231 17).toInt (pE g0 238) (pE g0 239) (by refine ⟨?_, ?_, ?_, ?_⟩ <;> omega) (by omega) (by omega) q4513 (PT.eq (q4514 (by omega)).2 (by omega))) ?_
          rintro _ _ ⟨g4775, rfl, hI4776, hF4777, v4778, rfl, hr4779⟩
          refine At.sti ?_
          have hF4780 := Fr.tr hF4496 hF4777 rfl rfl
          have x4781 := HI.eqI hI4495 (p := 231) (b := 9) (e4500)
          have x4782 := HI.eqI hI4776 (p := 231) (b := 8) ((((hF4777.1 231 8 (by decide)).trans (hF4496.1 231 8 (by decide))).trans hv1))
          obtain ⟨v4783, hv4783⟩ : ∃ v, gI g4775 231 9 = v := ⟨_, rfl⟩
          have rv4783 := RgF.at hI4776.2.1 (p := 231) (b := 9) rfl
          rw [hv4783] at rv4783
          dsimp only at rv4783
          have tv4783 := congrArg Int32.toInt hv4783
          have x4784 := HI.eqI hI4776 (p := 231) (b := 9) (hv4783)
          obtain ⟨v4785, hv4785⟩ : ∃ v, gI g4775 231 10 = v := ⟨_, rfl⟩
          have rv4785 := RgF.at hI4776.2.1 (p := 231) (b := 10) rfl
          rw [hv4785] at rv4785
          dsimp only at rv4785
          have tv4785 := congrArg Int32.toInt hv4785
          have x4786 := HI.eqI hI4776 (p := 231) (b := 10) (hv4785)
          obtain ⟨v4787, hv4787⟩ : ∃ v, gI g4775 231 11 = v := ⟨_, rfl⟩
          have tv4787 := congrArg Int32.toInt hv4787
          have x4788 := HI.eqI hI4776 (p := 231) (b := 11) (hv4787)
          obtain ⟨v4789, hv4789⟩ : ∃ v, gJ g4775 231 12 = v := ⟨_, rfl⟩
          have x4790 := HI.eqJ hI4776 (b := 12) (hv4789)
          obtain ⟨v4791, hv4791⟩ : ∃ v, gI g4775 231 14 = v := ⟨_, rfl⟩
          have tv4791 := congrArg Int32.toInt hv4791
          have x4792 := HI.eqI hI4776 (p := 231) (b := 14) (hv4791)
          obtain ⟨v4793, hv4793⟩ : ∃ v, gI g4775 231 17 = v := ⟨_, rfl⟩
          have rv4793 := RgF.at hI4776.2.1 (p := 231) (b := 17) rfl
          rw [hv4793] at rv4793
          dsimp only at rv4793
          have tv4793 := congrArg Int32.toInt hv4793
          have x4794 := HI.eqI hI4776 (p := 231) (b := 17) (hv4793)
          obtain ⟨v4795, hv4795⟩ : ∃ v, gI g4775 231 23 = v := ⟨_, rfl⟩
          have rv4795 := RgF.at hI4776.2.1 (p := 231) (b := 23) rfl
          rw [hv4795] at rv4795
          dsimp only at rv4795
          have tv4795 := congrArg Int32.toInt hv4795
          have x4796 := HI.eqI hI4776 (p := 231) (b := 23) (hv4795)
          obtain ⟨c4797, c4798, c4799, c4800, c4801, c4802, c4803, c4804, c4805⟩ := hr4779.2
          refine At.enter rfl ?_
          refine r_goto ?_
          refine At.enter rfl ?_
          refine r_istore_n _ rfl ?_
          refine r_goto ?_
          have w4806 := tw_s x4491.toInt
          have w4807 := bw_s x4493.toInt
          have w4808 := tw_s v4778.toInt
          have w4809 := bw_s v4791.toInt
          have x4810 := HI.eqI hI4776 (p := 231) (b := 8) ((((hF4777.1 231 8 (by decide)).trans (hF4496.1 231 8 (by decide))).trans hv1))
          have x4811 := HI.eqI hI4776 (p := 231) (b := 9) (hv4783)
          have x4812 := HI.eqI hI4776 (p := 231) (b := 10) (hv4785)
          have x4813 := HI.eqI hI4776 (p := 231) (b := 11) (hv4787)
          have x4814 := HI.eqJ hI4776 (b := 12) (hv4789)
          have x4815 := HI.eqI hI4776 (p := 231) (b := 14) (hv4791)
          have x4816 := HI.eqI hI4776 (p := 231) (b := 17) (hv4793)
          have x4817 := HI.eqI hI4776 (p := 231) (b := 23) (hv4795)
          have y4818 := c4805
          unfold PRG at y4818
          have bv4819 := q_bnd v4791
          exact ih4499 (5 * (400 - v4783.toInt) + tw (v4778.toInt) + 10 * bw (v4791.toInt)) _ _ ⟨v4778, v4783, v4791, by first | rfl | omega, hI4776, hF4780, hv4783, hv4791, (w_p1 (by decide) (Or.inr rfl) e4502), (w_p1 (by decide) (Or.inr rfl) e4503), (w_e1 _ _ _), by omega, by omega, by omega, by omega, by omega, by omega, by omega, by omega, c4801, c4804⟩ ⟨by omega, by omega⟩
  · have c3815_ : a1.toInt ≠ 0 := en_k_eq_f c3815
    refine At.enter rfl ?_
    refine r_iconst 0 rfl ?_
    refine r_goto ?_
    refine At.enter rfl ?_
    refine r_istore_n ([(2, .int 0), (0, .ref 231), (1, .int a1)]) rfl ?_
    refine Ar.fall 20 rfl ?_
    have z_5558 : (0 : Int32).toInt = 0 := rfl
    have x5559 := HI.eqI hI3813 (p := 231) (b := 8) ((((gI_sI_ne (by decide)).trans (gI_sI_ne (by decide))).trans hv1))
    have x5560 := HI.eqI hI3813 (p := 231) (b := 9) ((((gI_sI_ne (by decide)).trans (gI_sI_ne (by decide))).trans hv2))
    have x5561 := HI.eqI hI3813 (p := 231) (b := 10) ((((gI_sI_ne (by decide)).trans (gI_sI_ne (by decide))).trans hv3))
    have x5562 := HI.eqI hI3813 (p := 231) (b := 11) ((((gI_sI_ne (by decide)).trans (gI_sI_ne (by decide))).trans hv4))
    have x5563 := HI.eqJ hI3813 (b := 12) ((((gJ_sI_ne (by decide)).trans (gJ_sI_ne (by decide))).trans hv5))
    have x5564 := HI.eqI hI3813 (p := 231) (b := 14) ((((gI_sI_ne (by decide)).trans (gI_sI_ne (by decide))).trans hv6))
    have x5565 := HI.eqI hI3813 (p := 231) (b := 17) ((((gI_sI_ne (by decide)).trans (gI_sI_ne (by decide))).trans hv7))
    have x5566 := HI.eqI hI3813 (p := 231) (b := 23) (((gI_sI_ne (by decide)).trans (gI_sI_eq hI0.1 kx_231 rfl _)))
    have zv5567 : (0 : Int32).toInt = 0 := rfl
    refine w_loopI (fun n_ l_ g_ => ∃ x5534 : Int32, ∃ x5535 : Int32, ∃ x5536 : Int32, n_ = 5 * (400 - x5535.toInt) + tw (x5534.toInt) + 10 * bw (x5536.toInt) ∧ HI g_ ∧ Fr F_X11_readExpression_231 A_X11_readExpression_231 g0 g_ ∧ gI g_ 231 9 = x5535 ∧ gI g_ 231 14 = x5536 ∧ en_get 0 l_ = some (.ref 231) ∧ en_get 1 l_ = some (.int a1) ∧ en_get 2 l_ = some (.int x5534) ∧ (0 ≤ x5534.toInt ∧ x5534.toInt ≤ 4) ∧ (0 ≤ x5535.toInt ∧ x5535.toInt ≤ 400) ∧ ((gI g_ 231 9).toInt ≤ (gI g_ 231 10).toInt) ∧ ((gI g_ 231 10).toInt ≤ (gI g_ 231 8).toInt) ∧ (0 ≤ (gI g_ 231 11).toInt) ∧ ((gI g_ 231 11).toInt ≤ 3 * ((gI g_ 231 10).toInt - (gI g_ 231 9).toInt)) ∧ ((gI g_ 231 17).toInt + (gI g_ 231 23).toInt ≤ 400) ∧ ((gI g0 231 9).toInt ≤ (gI g_ 231 9).toInt) ∧ (W26 g_) ∧ (TURN g_ (gI g0 231 17).toInt x5534.toInt (pE g0 238) (pE g0 239))) ?_ (5 * (400 - v2.toInt) + tw (0) + 10 * bw (v6.toInt)) ⟨0, v2, v6, by first | rfl | omega, hI3813, hF3814, (((gI_sI_ne (by decide)).trans (gI_sI_ne (by decide))).trans hv2), (((gI_sI_ne (by decide)).trans (gI_sI_ne (by decide))).trans hv6), rfl, rfl, rfl, by decide, by omega, by omega, by omega, by omega, by omega, by omega, by omega, (W26.cong hW hI3813 (((gI_sI_ne (by decide)).trans (gI_sI_ne (by decide)))) (((gI_sI_ne (by decide)).trans (gI_sI_ne (by decide)))) (((gI_sI_ne (by decide)).trans (gI_sI_ne (by decide)))) (((gJ_sI_ne (by decide)).trans (gJ_sI_ne (by decide))))), (fun _ => ⟨by omega, PT.start hI3813 (((gA_sI).trans (gA_sI))) (((gA_sI).trans (gA_sI))) (((gI_sI_ne (by decide)).trans (gI_sI_ne (by decide)))) (by show (gI _ 231 23).toInt = 0; omega) (by show 0 ≤ (gI _ 231 17).toInt; omega) (by omega)⟩)⟩
    rintro n5541 l5540 g5537 ⟨x5534, x5535, x5536, hm5568, hI5538, hF5539, e5543, e5544, e5545, e5546, e5547, r5548, r5549, q5550, q5551, q5552, q5553, q5554, q5555, q5556, q5557⟩ ih5542
    have tv5569 := congrArg Int32.toInt e5543
    have tv5570 := congrArg Int32.toInt e5544
    have x5571 := HI.eqI hI5538 (p := 231) (b := 8) (((hF5539.1 231 8 (by decide)).trans hv1))
    have x5572 := HI.eqI hI5538 (p := 231) (b := 9) (e5543)
    obtain ⟨v5573, hv5573⟩ : ∃ v, gI g5537 231 10 = v := ⟨_, rfl⟩
    have rv5573 := RgF.at hI5538.2.1 (p := 231) (b := 10) rfl
    rw [hv5573] at rv5573
    dsimp only at rv5573
    have tv5573 := congrArg Int32.toInt hv5573
    have x5574 := HI.eqI hI5538 (p := 231) (b := 10) (hv5573)
    obtain ⟨v5575, hv5575⟩ : ∃ v, gI g5537 231 11 = v := ⟨_, rfl⟩
    have tv5575 := congrArg Int32.toInt hv5575
    have x5576 := HI.eqI hI5538 (p := 231) (b := 11) (hv5575)
    obtain ⟨v5577, hv5577⟩ : ∃ v, gJ g5537 231 12 = v := ⟨_, rfl⟩
    have x5578 := HI.eqJ hI5538 (b := 12) (hv5577)
    have x5579 := HI.eqI hI5538 (p := 231) (b := 14) (e5544)
    obtain ⟨v5580, hv5580⟩ : ∃ v, gI g5537 231 17 = v := ⟨_, rfl⟩
    have rv5580 := RgF.at hI5538.2.1 (p := 231) (b := 17) rfl
    rw [hv5580] at rv5580
    dsimp only at rv5580
    have tv5580 := congrArg Int32.toInt hv5580
    have x5581 := HI.eqI hI5538 (p := 231) (b := 17) (hv5580)
    obtain ⟨v5582, hv5582⟩ : ∃ v, gI g5537 231 23 = v := ⟨_, rfl⟩
    have rv5582 := RgF.at hI5538.2.1 (p := 231) (b := 23) rfl
    rw [hv5582] at rv5582
    dsimp only at rv5582
    have tv5582 := congrArg Int32.toInt hv5582
    have x5583 := HI.eqI hI5538 (p := 231) (b := 23) (hv5582)
    refine At.enter rfl ?_
    refine r_aload_n e5545 ?_
    refine q_getI (Sh.int hI5538.1 kx_231 rfl) x5536 e5544 ?_
    refine r_ifs 27 rfl (fun c5584 => ?_) (fun c5584 => ?_)
    · have c5584_ : x5536.toInt ≠ 0 := en_k_ne_t c5584
      refine At.enter rfl ?_
      refine r_aload_n e5545 ?_
      refine r_iconst 1 rfl ?_
      have x5585 := HI.eqI hI5538 (p := 231) (b := 17) (hv5580)
      have x5586 := HI.eqI hI5538 (p := 231) (b := 23) (hv5582)
      have zv5587 : (1 : Int32).toInt = 1 := rfl
      refine r_callV 81 rfl [.ref 231, .int 1] [] (Nat.le_of_ble_eq_true rfl) rfl (T_X11_settle_231 _ hI5538 1 (by decide) (by omega)) ?_
      rintro _ _ ⟨g5588, rfl, hI5589, hF5590, rfl, hr5592⟩
      refine At.stn ?_
      have hF5593 := Fr.tr hF5539 hF5590 rfl rfl
      have zv5594 : (1 : Int32).toInt = 1 := rfl
      have x5595 := HI.eqI hI5538 (p := 231) (b := 17) (hv5580)
      have x5596 := HI.eqI hI5538 (p := 231) (b := 23) (hv5582)
      obtain ⟨v5597, hv5597⟩ : ∃ v, gI g5588 231 17 = v := ⟨_, rfl⟩
      have rv5597 := RgF.at hI5589.2.1 (p := 231) (b := 17) rfl
      rw [hv5597] at rv5597
      dsimp only at rv5597
      have tv5597 := congrArg Int32.toInt hv5597
      have x5598 := HI.eqI hI5589 (p := 231) (b := 17) (hv5597)
      obtain ⟨v5599, hv5599⟩ : ∃ v, gI g5588 231 23 = v := ⟨_, rfl⟩
      have rv5599 := RgF.at hI5589.2.1 (p := 231) (b := 23) rfl
      rw [hv5599] at rv5599
      dsimp only at rv5599
      have tv5599 := congrArg Int32.toInt hv5599
      have x5600 := HI.eqI hI5589 (p := 231) (b := 23) (hv5599)
      have y5601 : (gI _ 231 23).toInt ≤ (gI _ 231 23).toInt := hr5592.1
      have y5602 : (gI _ 231 17).toInt + (gI _ 231 23).toInt ≤ (gI _ 231 17).toInt + (gI _ 231 23).toInt := hr5592.2.1
      refine At.enter rfl ?_
      refine r_vret ?_
      have x5603 := HI.eqI hI5589 (p := 231) (b := 8) ((((hF5590.1 231 8 (by decide)).trans (hF5539.1 231 8 (by decide))).trans hv1))
      have x5604 := HI.eqI hI5589 (p := 231) (b := 9) (((hF5590.1 231 9 (by decide)).trans e5543))
      have x5605 := HI.eqI hI5589 (p := 231) (b := 10) (((hF5590.1 231 10 (by decide)).trans hv5573))
      have x5606 := HI.eqI hI5589 (p := 231) (b := 11) (((hF5590.1 231 11 (by decide)).trans hv5575))
      have x5607 := HI.eqJ hI5589 (b := 12) (((hF5590.2.2 231 12 (by decide)).trans hv5577))
      have x5608 := HI.eqI hI5589 (p := 231) (b := 14) (((hF5590.1 231 14 (by decide)).trans e5544))
      have x5609 := HI.eqI hI5589 (p := 231) (b := 17) (hv5597)
      have x5610 := HI.eqI hI5589 (p := 231) (b := 23) (hv5599)
      have x5611 := HI.eqI hI0 (p := 231) (b := 9) (hv2)
      have x5612 := HI.eqI hI0 (p := 231) (b := 17) (hv7)
      have w265613 := W26.cong q5556 hI5589 ((hF5590.1 231 9 (by decide))) ((hF5590.1 231 10 (by decide))) ((hF5590.1 231 11 (by decide))) ((hF5590.2.2 231 12 (by decide)))
      exact ⟨_, rfl, hI5589, hF5593, rfl, ⟨by omega, by omega, by omega, by omega, w265613, by omega, (fun hbad => False.elim (by omega))⟩⟩
    · have c5584_ : x5536.toInt = 0 := en_k_ne_f c5584
      refine At.enter rfl ?_
      refine r_iload_n e5547 ?_
      refine r_iconst 4 rfl ?_
      refine r_ics 32 rfl (fun c5614 => ?_) (fun c5614 => ?_)
      · have c5614_ : x5534.toInt = 4 := en_i_eq_t c5614
        refine At.enter rfl ?_
        refine r_aload_n e5545 ?_
        refine r_iconst 1 rfl ?_
        have x5615 := HI.eqI hI5538 (p := 231) (b := 17) (hv5580)
        have x5616 := HI.eqI hI5538 (p := 231) (b := 23) (hv5582)
        have zv5617 : (1 : Int32).toInt = 1 := rfl
        refine r_callV 81 rfl [.ref 231, .int 1] [] (Nat.le_of_ble_eq_true rfl) rfl (T_X11_settle_231 _ hI5538 1 (by decide) (by omega)) ?_
        rintro _ _ ⟨g5618, rfl, hI5619, hF5620, rfl, hr5622⟩
        refine At.stn ?_
        have hF5623 := Fr.tr hF5539 hF5620 rfl rfl
        have zv5624 : (1 : Int32).toInt = 1 := rfl
        have x5625 := HI.eqI hI5538 (p := 231) (b := 17) (hv5580)
        have x5626 := HI.eqI hI5538 (p := 231) (b := 23) (hv5582)
        obtain ⟨v5627, hv5627⟩ : ∃ v, gI g5618 231 17 = v := ⟨_, rfl⟩
        have rv5627 := RgF.at hI5619.2.1 (p := 231) (b := 17) rfl
        rw [hv5627] at rv5627
        dsimp only at rv5627
        have tv5627 := congrArg Int32.toInt hv5627
        have x5628 := HI.eqI hI5619 (p := 231) (b := 17) (hv5627)
        obtain ⟨v5629, hv5629⟩ : ∃ v, gI g5618 231 23 = v := ⟨_, rfl⟩
        have rv5629 := RgF.at hI5619.2.1 (p := 231) (b := 23) rfl
        rw [hv5629] at rv5629
        dsimp only at rv5629
        have tv5629 := congrArg Int32.toInt hv5629
        have x5630 := HI.eqI hI5619 (p := 231) (b := 23) (hv5629)
        have y5631 : (gI _ 231 23).toInt ≤ (gI _ 231 23).toInt := hr5622.1
        have y5632 : (gI _ 231 17).toInt + (gI _ 231 23).toInt ≤ (gI _ 231 17).toInt + (gI _ 231 23).toInt := hr5622.2.1
        refine At.enter rfl ?_
        refine r_vret ?_
        have x5633 := HI.eqI hI5619 (p := 231) (b := 8) ((((hF5620.1 231 8 (by decide)).trans (hF5539.1 231 8 (by decide))).trans hv1))
        have x5634 := HI.eqI hI5619 (p := 231) (b := 9) (((hF5620.1 231 9 (by decide)).trans e5543))
        have x5635 := HI.eqI hI5619 (p := 231) (b := 10) (((hF5620.1 231 10 (by decide)).trans hv5573))
        have x5636 := HI.eqI hI5619 (p := 231) (b := 11) (((hF5620.1 231 11 (by decide)).trans hv5575))
        have x5637 := HI.eqJ hI5619 (b := 12) (((hF5620.2.2 231 12 (by decide)).trans hv5577))
        have x5638 := HI.eqI hI5619 (p := 231) (b := 14) (((hF5620.1 231 14 (by decide)).trans e5544))
        have x5639 := HI.eqI hI5619 (p := 231) (b := 17) (hv5627)
        have x5640 := HI.eqI hI5619 (p := 231) (b := 23) (hv5629)
        have x5641 := HI.eqI hI0 (p := 231) (b := 9) (hv2)
        have x5642 := HI.eqI hI0 (p := 231) (b := 17) (hv7)
        have w265643 := W26.cong q5556 hI5619 ((hF5620.1 231 9 (by decide))) ((hF5620.1 231 10 (by decide))) ((hF5620.1 231 11 (by decide))) ((hF5620.2.2 231 12 (by decide)))
        exact ⟨_, rfl, hI5619, hF5623, rfl, ⟨by omega, by omega, by omega, by omega, w265643, by omega, (fun hbad => ⟨by have y := (q5557 (by omega)).1; omega, (EXPR.of ((q5557 (by omega)).2.2.1 (by omega)) ((q5557 (by omega)).2.2.2.2 (by omega)) hr5622 (by omega) (by show 0 ≤ (gI _ 231 23).toInt; omega) (by show (gI _ 231 17).toInt ≤ 400; omega) rfl rfl rfl).2⟩)⟩⟩
      · have c5614_ : x5534.toInt ≠ 4 := en_i_eq_f c5614
        refine At.enter rfl ?_
        refine r_iload_n e5547 ?_
        refine r_ifs 36 rfl (fun c5644 => ?_) (fun c5644 => ?_)
        · have c5644_ : x5534.toInt ≠ 0 := en_k_ne_t c5644
          refine At.enter rfl ?_
          refine r_iload_n e5547 ?_
          refine r_iconst 1 rfl ?_
          refine r_ics 48 rfl (fun c5645 => ?_) (fun c5645 => ?_)
          · have c5645_ : x5534.toInt ≠ 1 := en_i_ne_t c5645
            refine At.enter rfl ?_
            refine r_iload_n e5547 ?_
            refine r_iconst 3 rfl ?_
            refine r_ics 60 rfl (fun c5646 => ?_) (fun c5646 => ?_)
            · have c5646_ : x5534.toInt ≠ 3 := en_i_ne_t c5646
              refine At.enter rfl ?_
              refine r_aload_n e5545 ?_
              have x5647 := HI.eqI hI5538 (p := 231) (b := 8) (((hF5539.1 231 8 (by decide)).trans hv1))
              have x5648 := HI.eqI hI5538 (p := 231) (b := 9) (e5543)
              have x5649 := HI.eqI hI5538 (p := 231) (b := 10) (hv5573)
              have x5650 := HI.eqI hI5538 (p := 231) (b := 11) (hv5575)
              have x5651 := HI.eqJ hI5538 (b := 12) (hv5577)
              have x5652 := HI.eqI hI5538 (p := 231) (b := 14) (e5544)
              have x5653 := HI.eqI hI5538 (p := 231) (b := 17) (hv5580)
              have x5654 := HI.eqI hI5538 (p := 231) (b := 23) (hv5582)
              have y5655 := (q5557 (by omega)).1
              refine r_callV 72 rfl [.ref 231] [] (Nat.le_of_ble_eq_true rfl) rfl (T_X11_behindTest_231 _ hI5538 (gI g0 231 17).toInt (pE g0 238) (pE g0 239) (by refine ⟨?_, ?_, ?_, ?_⟩ <;> omega) (by omega) (by omega) q5556 (PT.eq (q5557 (by omega)).2 (by omega))) ?_
              rintro _ _ ⟨g5656, rfl, hI5657, hF5658, v5659, rfl, hr5660⟩
              refine At.sti ?_
              have hF5661 := Fr.tr hF5539 hF5658 rfl rfl
              have x5662 := HI.eqI hI5538 (p := 231) (b := 9) (e5543)
              have x5663 := HI.eqI hI5657 (p := 231) (b := 8) ((((hF5658.1 231 8 (by decide)).trans (hF5539.1 231 8 (by decide))).trans hv1))
              obtain ⟨v5664, hv5664⟩ : ∃ v, gI g5656 231 9 = v := ⟨_, rfl⟩
              have rv5664 := RgF.at hI5657.2.1 (p := 231) (b := 9) rfl
              rw [hv5664] at rv5664
              dsimp only at rv5664
              have tv5664 := congrArg Int32.toInt hv5664
              have x5665 := HI.eqI hI5657 (p := 231) (b := 9) (hv5664)
              obtain ⟨v5666, hv5666⟩ : ∃ v, gI g5656 231 10 = v := ⟨_, rfl⟩
              have rv5666 := RgF.at hI5657.2.1 (p := 231) (b := 10) rfl
              rw [hv5666] at rv5666
              dsimp only at rv5666
              have tv5666 := congrArg Int32.toInt hv5666
              have x5667 := HI.eqI hI5657 (p := 231) (b := 10) (hv5666)
              obtain ⟨v5668, hv5668⟩ : ∃ v, gI g5656 231 11 = v := ⟨_, rfl⟩
              have tv5668 := congrArg Int32.toInt hv5668
              have x5669 := HI.eqI hI5657 (p := 231) (b := 11) (hv5668)
              obtain ⟨v5670, hv5670⟩ : ∃ v, gJ g5656 231 12 = v := ⟨_, rfl⟩
              have x5671 := HI.eqJ hI5657 (b := 12) (hv5670)
              obtain ⟨v5672, hv5672⟩ : ∃ v, gI g5656 231 14 = v := ⟨_, rfl⟩
              have tv5672 := congrArg Int32.toInt hv5672
              have x5673 := HI.eqI hI5657 (p := 231) (b := 14) (hv5672)
              obtain ⟨v5674, hv5674⟩ : ∃ v, gI g5656 231 17 = v := ⟨_, rfl⟩
              have rv5674 := RgF.at hI5657.2.1 (p := 231) (b := 17) rfl
              rw [hv5674] at rv5674
              dsimp only at rv5674
              have tv5674 := congrArg Int32.toInt hv5674
              have x5675 := HI.eqI hI5657 (p := 231) (b := 17) (hv5674)
              obtain ⟨v5676, hv5676⟩ : ∃ v, gI g5656 231 23 = v := ⟨_, rfl⟩
              have rv5676 := RgF.at hI5657.2.1 (p := 231) (b := 23) rfl
              rw [hv5676] at rv5676
              dsimp only at rv5676
              have tv5676 := congrArg Int32.toInt hv5676
              have x5677 := HI.eqI hI5657 (p := 231) (b := 23) (hv5676)
              obtain ⟨c5678, c5679, c5680, c5681, c5682, c5683, c5684, c5685, c5686⟩ := hr5660.2
              refine At.enter rfl ?_
              refine r_istore_n _ rfl ?_
              refine r_goto ?_
              have w5687 := tw_s x5534.toInt
              have w5688 := bw_s x5536.toInt
              have w5689 := tw_s v5659.toInt
              have w5690 := bw_s v5672.toInt
              have x5691 := HI.eqI hI5657 (p := 231) (b := 8) ((((hF5658.1 231 8 (by decide)).trans (hF5539.1 231 8 (by decide))).trans hv1))
              have x5692 := HI.eqI hI5657 (p := 231) (b := 9) (hv5664)
              have x5693 := HI.eqI hI5657 (p := 231) (b := 10) (hv5666)
              have x5694 := HI.eqI hI5657 (p := 231) (b := 11) (hv5668)
              have x5695 := HI.eqJ hI5657 (b := 12) (hv5670)
              have x5696 := HI.eqI hI5657 (p := 231) (b := 14) (hv5672)
              have x5697 := HI.eqI hI5657 (p := 231) (b := 17) (hv5674)
              have x5698 := HI.eqI hI5657 (p := 231) (b := 23) (hv5676)
              have y5699 := c5686
              unfold PRG at y5699
              have bv5700 := q_bnd v5672
              exact ih5542 (5 * (400 - v5664.toInt) + tw (v5659.toInt) + 10 * bw (v5672.toInt)) _ _ ⟨v5659, v5664, v5672, by first | rfl | omega, hI5657, hF5661, hv5664, hv5672, (w_p1 (by decide) (Or.inr rfl) e5545), (w_p1 (by decide) (Or.inr rfl) e5546), (w_e1 _ _ _), by omega, by omega, by omega, by omega, by omega, by omega, by omega, by omega, c5682, c5685⟩ ⟨by omega, by omega⟩
            · have c5646_ : x5534.toInt = 3 := en_i_ne_f c5646
              refine At.enter rfl ?_
              refine r_aload_n e5545 ?_
              refine r_iload_n e5546 ?_
              have x5701 := HI.eqI hI5538 (p := 231) (b := 8) (((hF5539.1 231 8 (by decide)).trans hv1))
              have x5702 := HI.eqI hI5538 (p := 231) (b := 9) (e5543)
              have x5703 := HI.eqI hI5538 (p := 231) (b := 10) (hv5573)
              have x5704 := HI.eqI hI5538 (p := 231) (b := 11) (hv5575)
              have x5705 := HI.eqJ hI5538 (b := 12) (hv5577)
              have x5706 := HI.eqI hI5538 (p := 231) (b := 14) (e5544)
              have x5707 := HI.eqI hI5538 (p := 231) (b := 17) (hv5580)
              have x5708 := HI.eqI hI5538 (p := 231) (b := 23) (hv5582)
              have y5709 := (q5557 (by omega)).1
              refine r_callV 65 rfl [.ref 231, .int a1] [] (Nat.le_of_ble_eq_true rfl) rfl (T_X11_behindSum_231 _ hI5538 a1 (by omega) (gI g0 231 17).toInt (pE g0 238) (pE g0 239) (by refine ⟨?_, ?_, ?_, ?_⟩ <;> omega) (by omega) (by omega) q5556 (PT.eq (q5557 (by omega)).2 (by omega))) ?_
              rintro _ _ ⟨g5710, rfl, hI5711, hF5712, v5713, rfl, hr5714⟩
              refine At.sti ?_
              have hF5715 := Fr.tr hF5539 hF5712 rfl rfl
              have x5716 := HI.eqI hI5538 (p := 231) (b := 9) (e5543)
              have x5717 := HI.eqI hI5711 (p := 231) (b := 8) ((((hF5712.1 231 8 (by decide)).trans (hF5539.1 231 8 (by decide))).trans hv1))
              obtain ⟨v5718, hv5718⟩ : ∃ v, gI g5710 231 9 = v := ⟨_, rfl⟩
              have rv5718 := RgF.at hI5711.2.1 (p := 231) (b := 9) rfl
              rw [hv5718] at rv5718
              dsimp only at rv5718
              have tv5718 := congrArg Int32.toInt hv5718
              have x5719 := HI.eqI hI5711 (p := 231) (b := 9) (hv5718)
              obtain ⟨v5720, hv5720⟩ : ∃ v, gI g5710 231 10 = v := ⟨_, rfl⟩
              have rv5720 := RgF.at hI5711.2.1 (p := 231) (b := 10) rfl
              rw [hv5720] at rv5720
              dsimp only at rv5720
              have tv5720 := congrArg Int32.toInt hv5720
              have x5721 := HI.eqI hI5711 (p := 231) (b := 10) (hv5720)
              obtain ⟨v5722, hv5722⟩ : ∃ v, gI g5710 231 11 = v := ⟨_, rfl⟩
              have tv5722 := congrArg Int32.toInt hv5722
              have x5723 := HI.eqI hI5711 (p := 231) (b := 11) (hv5722)
              obtain ⟨v5724, hv5724⟩ : ∃ v, gJ g5710 231 12 = v := ⟨_, rfl⟩
              have x5725 := HI.eqJ hI5711 (b := 12) (hv5724)
              obtain ⟨v5726, hv5726⟩ : ∃ v, gI g5710 231 14 = v := ⟨_, rfl⟩
              have tv5726 := congrArg Int32.toInt hv5726
              have x5727 := HI.eqI hI5711 (p := 231) (b := 14) (hv5726)
              obtain ⟨v5728, hv5728⟩ : ∃ v, gI g5710 231 17 = v := ⟨_, rfl⟩
              have rv5728 := RgF.at hI5711.2.1 (p := 231) (b := 17) rfl
              rw [hv5728] at rv5728
              dsimp only at rv5728
              have tv5728 := congrArg Int32.toInt hv5728
              have x5729 := HI.eqI hI5711 (p := 231) (b := 17) (hv5728)
              obtain ⟨v5730, hv5730⟩ : ∃ v, gI g5710 231 23 = v := ⟨_, rfl⟩
              have rv5730 := RgF.at hI5711.2.1 (p := 231) (b := 23) rfl
              rw [hv5730] at rv5730
              dsimp only at rv5730
              have tv5730 := congrArg Int32.toInt hv5730
              have x5731 := HI.eqI hI5711 (p := 231) (b := 23) (hv5730)
              obtain ⟨c5732, c5733, c5734, c5735, c5736, c5737, c5738, c5739, c5740⟩ := hr5714.2
              refine At.enter rfl ?_
              refine r_goto ?_
              refine At.enter rfl ?_
              refine r_istore_n _ rfl ?_
              refine r_goto ?_
              have w5741 := tw_s x5534.toInt
              have w5742 := bw_s x5536.toInt
              have w5743 := tw_s v5713.toInt
              have w5744 := bw_s v5726.toInt
              have x5745 := HI.eqI hI5711 (p := 231) (b := 8) ((((hF5712.1 231 8 (by decide)).trans (hF5539.1 231 8 (by decide))).trans hv1))
              have x5746 := HI.eqI hI5711 (p := 231) (b := 9) (hv5718)
              have x5747 := HI.eqI hI5711 (p := 231) (b := 10) (hv5720)
              have x5748 := HI.eqI hI5711 (p := 231) (b := 11) (hv5722)
              have x5749 := HI.eqJ hI5711 (b := 12) (hv5724)
              have x5750 := HI.eqI hI5711 (p := 231) (b := 14) (hv5726)
              have x5751 := HI.eqI hI5711 (p := 231) (b := 17) (hv5728)
              have x5752 := HI.eqI hI5711 (p := 231) (b := 23) (hv5730)
              have y5753 := c5740
              unfold PRG at y5753
              have bv5754 := q_bnd v5726
              exact ih5542 (5 * (400 - v5718.toInt) + tw (v5713.toInt) + 10 * bw (v5726.toInt)) _ _ ⟨v5713, v5718, v5726, by first | rfl | omega, hI5711, hF5715, hv5718, hv5726, (w_p1 (by decide) (Or.inr rfl) e5545), (w_p1 (by decide) (Or.inr rfl) e5546), (w_e1 _ _ _), by omega, by omega, by omega, by omega, by omega, by omega, by omega, by omega, c5736, c5739⟩ ⟨by omega, by omega⟩
          · have c5645_ : x5534.toInt = 1 := en_i_ne_f c5645
            refine At.enter rfl ?_
            refine r_aload_n e5545 ?_
            have x5755 := HI.eqI hI5538 (p := 231) (b := 8) (((hF5539.1 231 8 (by decide)).trans hv1))
            have x5756 := HI.eqI hI5538 (p := 231) (b := 9) (e5543)
            have x5757 := HI.eqI hI5538 (p := 231) (b := 10) (hv5573)
            have x5758 := HI.eqI hI5538 (p := 231) (b := 11) (hv5575)
            have x5759 := HI.eqJ hI5538 (b := 12) (hv5577)
            have x5760 := HI.eqI hI5538 (p := 231) (b := 14) (e5544)
            have x5761 := HI.eqI hI5538 (p := 231) (b := 17) (hv5580)
            have x5762 := HI.eqI hI5538 (p := 231) (b := 23) (hv5582)
            have y5763 := (q5557 (by omega)).1
            refine r_callV 52 rfl [.ref 231] [] (Nat.le_of_ble_eq_true rfl) rfl (T_X11_readPart_231 _ hI5538 (gI g0 231 17).toInt (pE g0 238) (pE g0 239) (by refine ⟨?_, ?_, ?_, ?_⟩ <;> omega) (by omega) (by omega) q5556 (PT.eq (q5557 (by omega)).2 (by omega))) ?_
            rintro _ _ ⟨g5764, rfl, hI5765, hF5766, v5767, rfl, hr5768⟩
            refine At.sti ?_
            have hF5769 := Fr.tr hF5539 hF5766 rfl rfl
            have x5770 := HI.eqI hI5538 (p := 231) (b := 9) (e5543)
            have x5771 := HI.eqI hI5765 (p := 231) (b := 8) ((((hF5766.1 231 8 (by decide)).trans (hF5539.1 231 8 (by decide))).trans hv1))
            obtain ⟨v5772, hv5772⟩ : ∃ v, gI g5764 231 9 = v := ⟨_, rfl⟩
            have rv5772 := RgF.at hI5765.2.1 (p := 231) (b := 9) rfl
            rw [hv5772] at rv5772
            dsimp only at rv5772
            have tv5772 := congrArg Int32.toInt hv5772
            have x5773 := HI.eqI hI5765 (p := 231) (b := 9) (hv5772)
            obtain ⟨v5774, hv5774⟩ : ∃ v, gI g5764 231 10 = v := ⟨_, rfl⟩
            have rv5774 := RgF.at hI5765.2.1 (p := 231) (b := 10) rfl
            rw [hv5774] at rv5774
            dsimp only at rv5774
            have tv5774 := congrArg Int32.toInt hv5774
            have x5775 := HI.eqI hI5765 (p := 231) (b := 10) (hv5774)
            obtain ⟨v5776, hv5776⟩ : ∃ v, gI g5764 231 11 = v := ⟨_, rfl⟩
            have tv5776 := congrArg Int32.toInt hv5776
            have x5777 := HI.eqI hI5765 (p := 231) (b := 11) (hv5776)
            obtain ⟨v5778, hv5778⟩ : ∃ v, gJ g5764 231 12 = v := ⟨_, rfl⟩
            have x5779 := HI.eqJ hI5765 (b := 12) (hv5778)
            obtain ⟨v5780, hv5780⟩ : ∃ v, gI g5764 231 14 = v := ⟨_, rfl⟩
            have tv5780 := congrArg Int32.toInt hv5780
            have x5781 := HI.eqI hI5765 (p := 231) (b := 14) (hv5780)
            obtain ⟨v5782, hv5782⟩ : ∃ v, gI g5764 231 17 = v := ⟨_, rfl⟩
            have rv5782 := RgF.at hI5765.2.1 (p := 231) (b := 17) rfl
            rw [hv5782] at rv5782
            dsimp only at rv5782
            have tv5782 := congrArg Int32.toInt hv5782
            have x5783 := HI.eqI hI5765 (p := 231) (b := 17) (hv5782)
            obtain ⟨v5784, hv5784⟩ : ∃ v, gI g5764 231 23 = v := ⟨_, rfl⟩
            have rv5784 := RgF.at hI5765.2.1 (p := 231) (b := 23) rfl
            rw [hv5784] at rv5784
            dsimp only at rv5784
            have tv5784 := congrArg Int32.toInt hv5784
            have x5785 := HI.eqI hI5765 (p := 231) (b := 23) (hv5784)
            obtain ⟨c5786, c5787, c5788, c5789, c5790, c5791, c5792, c5793, c5794⟩ := hr5768.2
            refine At.enter rfl ?_
            refine r_goto ?_
            refine At.enter rfl ?_
            refine r_istore_n _ rfl ?_
            refine r_goto ?_
            have w5795 := tw_s x5534.toInt
            have w5796 := bw_s x5536.toInt
            have w5797 := tw_s v5767.toInt
            have w5798 := bw_s v5780.toInt
            have x5799 := HI.eqI hI5765 (p := 231) (b := 8) ((((hF5766.1 231 8 (by decide)).trans (hF5539.1 231 8 (by decide))).trans hv1))
            have x5800 := HI.eqI hI5765 (p := 231) (b := 9) (hv5772)
            have x5801 := HI.eqI hI5765 (p := 231) (b := 10) (hv5774)
            have x5802 := HI.eqI hI5765 (p := 231) (b := 11) (hv5776)
            have x5803 := HI.eqJ hI5765 (b := 12) (hv5778)
            have x5804 := HI.eqI hI5765 (p := 231) (b := 14) (hv5780)
            have x5805 := HI.eqI hI5765 (p := 231) (b := 17) (hv5782)
            have x5806 := HI.eqI hI5765 (p := 231) (b := 23) (hv5784)
            have y5807 := c5794
            unfold PRG at y5807
            have bv5808 := q_bnd v5780
            exact ih5542 (5 * (400 - v5772.toInt) + tw (v5767.toInt) + 10 * bw (v5780.toInt)) _ _ ⟨v5767, v5772, v5780, by first | rfl | omega, hI5765, hF5769, hv5772, hv5780, (w_p1 (by decide) (Or.inr rfl) e5545), (w_p1 (by decide) (Or.inr rfl) e5546), (w_e1 _ _ _), by omega, by omega, by omega, by omega, by omega, by omega, by omega, by omega, c5790, c5793⟩ ⟨by omega, by omega⟩
        · have c5644_ : x5534.toInt = 0 := en_k_ne_f c5644
          refine At.enter rfl ?_
          refine r_aload_n e5545 ?_
          have x5809 := HI.eqI hI5538 (p := 231) (b := 8) (((hF5539.1 231 8 (by decide)).trans hv1))
          have x5810 := HI.eqI hI5538 (p := 231) (b := 9) (e5543)
          have x5811 := HI.eqI hI5538 (p := 231) (b := 10) (hv5573)
          have x5812 := HI.eqI hI5538 (p := 231) (b := 11) (hv5575)
          have x5813 := HI.eqJ hI5538 (b := 12) (hv5577)
          have x5814 := HI.eqI hI5538 (p := 231) (b := 14) (e5544)
          have x5815 := HI.eqI hI5538 (p := 231) (b := 17) (hv5580)
          have x5816 := HI.eqI hI5538 (p := 231) (b := 23) (hv5582)
          have y5817 := (q5557 (by omega)).1
          refine r_callV 40 rfl [.ref 231] [] (Nat.le_of_ble_eq_true rfl) rfl (T_X11_readPlain_231 _ hI5538 (gI g0 231 17).toInt (pE g0 238) (pE g0 239) (by refine ⟨?_, ?_, ?_, ?_⟩ <;> omega) (by omega) (by omega) q5556 (PT.eq (q5557 (by omega)).2 (by omega))) ?_
          rintro _ _ ⟨g5818, rfl, hI5819, hF5820, v5821, rfl, hr5822⟩
          refine At.sti ?_
          have hF5823 := Fr.tr hF5539 hF5820 rfl rfl
          have x5824 := HI.eqI hI5538 (p := 231) (b := 9) (e5543)
          have x5825 := HI.eqI hI5819 (p := 231) (b := 8) ((((hF5820.1 231 8 (by decide)).trans (hF5539.1 231 8 (by decide))).trans hv1))
          obtain ⟨v5826, hv5826⟩ : ∃ v, gI g5818 231 9 = v := ⟨_, rfl⟩
          have rv5826 := RgF.at hI5819.2.1 (p := 231) (b := 9) rfl
          rw [hv5826] at rv5826
          dsimp only at rv5826
          have tv5826 := congrArg Int32.toInt hv5826
          have x5827 := HI.eqI hI5819 (p := 231) (b := 9) (hv5826)
          obtain ⟨v5828, hv5828⟩ : ∃ v, gI g5818 231 10 = v := ⟨_, rfl⟩
          have rv5828 := RgF.at hI5819.2.1 (p := 231) (b := 10) rfl
          rw [hv5828] at rv5828
          dsimp only at rv5828
          have tv5828 := congrArg Int32.toInt hv5828
          have x5829 := HI.eqI hI5819 (p := 231) (b := 10) (hv5828)
          obtain ⟨v5830, hv5830⟩ : ∃ v, gI g5818 231 11 = v := ⟨_, rfl⟩
          have tv5830 := congrArg Int32.toInt hv5830
          have x5831 := HI.eqI hI5819 (p := 231) (b := 11) (hv5830)
          obtain ⟨v5832, hv5832⟩ : ∃ v, gJ g5818 231 12 = v := ⟨_, rfl⟩
          have x5833 := HI.eqJ hI5819 (b := 12) (hv5832)
          obtain ⟨v5834, hv5834⟩ : ∃ v, gI g5818 231 14 = v := ⟨_, rfl⟩
          have tv5834 := congrArg Int32.toInt hv5834
          have x5835 := HI.eqI hI5819 (p := 231) (b := 14) (hv5834)
          obtain ⟨v5836, hv5836⟩ : ∃ v, gI g5818 231 17 = v := ⟨_, rfl⟩
          have rv5836 := RgF.at hI5819.2.1 (p := 231) (b := 17) rfl
          rw [hv5836] at rv5836
          dsimp only at rv5836
          have tv5836 := congrArg Int32.toInt hv5836
          have x5837 := HI.eqI hI5819 (p := 231) (b := 17) (hv5836)
          obtain ⟨v5838, hv5838⟩ : ∃ v, gI g5818 231 23 = v := ⟨_, rfl⟩
          have rv5838 := RgF.at hI5819.2.1 (p := 231) (b := 23) rfl
          rw [hv5838] at rv5838
          dsimp only at rv5838
          have tv5838 := congrArg Int32.toInt hv5838
          have x5839 := HI.eqI hI5819 (p := 231) (b := 23) (hv5838)
          obtain ⟨c5840, c5841, c5842, c5843, c5844, c5845, c5846, c5847, c5848⟩ := hr5822.2
          refine At.enter rfl ?_
          refine r_goto ?_
          refine At.enter rfl ?_
          refine r_istore_n _ rfl ?_
          refine r_goto ?_
          have w5849 := tw_s x5534.toInt
          have w5850 := bw_s x5536.toInt
          have w5851 := tw_s v5821.toInt
          have w5852 := bw_s v5834.toInt
          have x5853 := HI.eqI hI5819 (p := 231) (b := 8) ((((hF5820.1 231 8 (by decide)).trans (hF5539.1 231 8 (by decide))).trans hv1))
          have x5854 := HI.eqI hI5819 (p := 231) (b := 9) (hv5826)
          have x5855 := HI.eqI hI5819 (p := 231) (b := 10) (hv5828)
          have x5856 := HI.eqI hI5819 (p := 231) (b := 11) (hv5830)
          have x5857 := HI.eqJ hI5819 (b := 12) (hv5832)
          have x5858 := HI.eqI hI5819 (p := 231) (b := 14) (hv5834)
          have x5859 := HI.eqI hI5819 (p := 231) (b := 17) (hv5836)
          have x5860 := HI.eqI hI5819 (p := 231) (b := 23) (hv5838)
          have y5861 := c5848
          unfold PRG at y5861
          have bv5862 := q_bnd v5834
          exact ih5542 (5 * (400 - v5826.toInt) + tw (v5821.toInt) + 10 * bw (v5834.toInt)) _ _ ⟨v5821, v5826, v5834, by first | rfl | omega, hI5819, hF5823, hv5826, hv5834, (w_p1 (by decide) (Or.inr rfl) e5545), (w_p1 (by decide) (Or.inr rfl) e5546), (w_e1 _ _ _), by omega, by omega, by omega, by omega, by omega, by omega, by omega, by omega, c5844, c5847⟩ ⟨by omega, by omega⟩
