def F_X5_read_176 : List (Nat × Nat) := [(176, 2), (176, 3), (176, 4), (176, 5), (176, 6), (177, 0), (177, 3), (177, 4)]
def A_X5_read_176 : List Nat := [178, 179, 180, 181, 182, 183]
theorem mf_X5_isSingle_176_176_2 : memF F_X5_isSingle_176 176 2 = false := by decide
theorem ma_X5_isSingle_176_178 : memA A_X5_isSingle_176 178 = false := by decide
theorem ma_X5_isSingle_176_179 : memA A_X5_isSingle_176 179 = false := by decide
theorem mf_X5_isSingle_176_177_0 : memF F_X5_isSingle_176 177 0 = false := by decide
theorem ma_X5_isSingle_176_180 : memA A_X5_isSingle_176 180 = false := by decide
theorem ma_X5_isSingle_176_181 : memA A_X5_isSingle_176 181 = false := by decide
theorem ma_X5_isSingle_176_182 : memA A_X5_isSingle_176 182 = false := by decide
theorem ma_X5_isSingle_176_183 : memA A_X5_isSingle_176 183 = false := by decide
theorem mf_X5_isSingle_176_177_3 : memF F_X5_isSingle_176 177 3 = false := by decide
theorem mf_X5_isSingle_176_177_4 : memF F_X5_isSingle_176 177 4 = false := by decide
theorem mf_X5_isSingle_176_176_6 : memF F_X5_isSingle_176 176 6 = false := by decide
set_option maxRecDepth 100000 in
set_option maxHeartbeats 4000000 in
theorem T_X5_read_176 (d : Nat) {N : Nat} {g0 : List en_E} (hI0 : HI g0) (hB : BYX g0) : Ev (d + 422) 63 [.ref 176] (g0, N) (fun w h' => ∃ g', h' = (g', N) ∧ HI g' ∧ Fr F_X5_read_176 A_X5_read_176 g0 g' ∧ ∃ r : Int32, w = some (.int r) ∧ (0 ≤ r.toInt ∧ r.toInt ≤ 1) ∧ (RPX g0 g' r.toInt ∧ RPG g0 g' r.toInt ∧ SPK g')) := by
  have hF0 : Fr F_X5_read_176 A_X5_read_176 g0 g0 := Fr.rf
  refine Ev.mk rfl rfl ⟨Nat.le_of_ble_eq_true rfl, Or.inr (q_rc hI0.1 kx_176 rfl)⟩ ?_
  show At _ none _ _ (0, [(0, .ref 176)], [], (_, _)) _
  refine At.enter rfl ?_
  refine r_aload_n rfl ?_
  refine r_iconst (-1) rfl ?_
  refine q_putI (Sh.int hI0.1 kx_176 rfl) rfl ?_
  have hI2511 := HI.wI0 hI0 kx_176 rfl (p := 176) (b := 2) (v := (-1)) rfl
  have hF2512 := Fr.wI (p := 176) (b := 2) (v := (-1)) hF0 rfl
  refine r_aload_n rfl ?_
  refine r_iconst 0 rfl ?_
  refine q_putI (Sh.int hI2511.1 kx_176 rfl) rfl ?_
  have hI2513 := HI.wI1 hI2511 kx_176 rfl (p := 176) (b := 5) (v := 0) rfl (by decide)
  have hF2514 := Fr.wI (p := 176) (b := 5) (v := 0) hF2512 rfl
  refine r_aload_n rfl ?_
  refine r_iconst 0 rfl ?_
  refine q_putI (Sh.int hI2513.1 kx_176 rfl) rfl ?_
  have hI2515 := HI.wI0 hI2513 kx_176 rfl (p := 176) (b := 6) (v := 0) rfl
  have hF2516 := Fr.wI (p := 176) (b := 6) (v := 0) hF2514 rfl
  refine r_aload_n rfl ?_
  refine q_getR (Sh.ref hI2515.1 kx_176 rfl) ?_
  refine q_inlV 22 rfl [.ref 177] [] (Nat.le_of_ble_eq_true rfl) rfl ?_
  refine Ev.mk rfl rfl ⟨Nat.le_of_ble_eq_true rfl, Or.inr (q_rc hI2515.1 kx_177 rfl)⟩ ?_
  show At _ none _ _ (0, [(0, .ref 177)], [], (_, _)) _
  refine At.enter rfl ?_
  refine r_aload_n rfl ?_
  refine r_iconst 0 rfl ?_
  refine q_putI (Sh.int hI2515.1 kx_177 rfl) rfl ?_
  have hI2517 := HI.wI1 hI2515 kx_177 rfl (p := 177) (b := 0) (v := 0) rfl (by decide)
  have hF2518 := Fr.wI (p := 177) (b := 0) (v := 0) hF2516 rfl
  refine r_aload_n rfl ?_
  refine r_iconst 0 rfl ?_
  refine q_putI (Sh.int hI2517.1 kx_177 rfl) rfl ?_
  have hI2519 := HI.wI1 hI2517 kx_177 rfl (p := 177) (b := 3) (v := 0) rfl (by decide)
  have hF2520 := Fr.wI (p := 177) (b := 3) (v := 0) hF2518 rfl
  refine r_aload_n rfl ?_
  refine r_iconst 0 rfl ?_
  refine q_putI (Sh.int hI2519.1 kx_177 rfl) rfl ?_
  have hI2521 := HI.wI0 hI2519 kx_177 rfl (p := 177) (b := 4) (v := 0) rfl
  have hF2522 := Fr.wI (p := 177) (b := 4) (v := 0) hF2520 rfl
  refine q_vret ?_
  refine At.enter rfl ?_
  refine r_aload_n rfl ?_
  have x2523 := rX.e hI2521 (b := 5) (((gI_sI_ne (by decide)).trans ((gI_sI_ne (by decide)).trans ((gI_sI_ne (by decide)).trans ((gI_sI_ne (by decide)).trans (gI_sI_eq hI2511.1 kx_176 rfl _))))))
  have zv2524 : (0 : Int32).toInt = 0 := rfl
  obtain ⟨v2525, hv2525⟩ : ∃ v, gI g0 174 1 = v := ⟨_, rfl⟩
  have rv2525 := RgF.at hI0.2.1 (p := 174) (b := 1) rfl
  rw [hv2525] at rv2525
  dsimp only at rv2525
  have tv2525 := congrArg Int32.toInt hv2525
  have x2526 := nX.e hI2521 ((((gI_sI_ne (by decide)).trans ((gI_sI_ne (by decide)).trans ((gI_sI_ne (by decide)).trans ((gI_sI_ne (by decide)).trans ((gI_sI_ne (by decide)).trans (gI_sI_ne (by decide))))))).trans hv2525))
  refine r_callV 26 rfl [.ref 176] [] (Nat.le_of_ble_eq_true rfl) rfl (T_X5_step_176 _ hI2521 (BYX.c hB (((gA_sI).trans ((gA_sI).trans ((gA_sI).trans ((gA_sI).trans ((gA_sI).trans (gA_sI))))))) (((gI_sI_ne (by decide)).trans ((gI_sI_ne (by decide)).trans ((gI_sI_ne (by decide)).trans ((gI_sI_ne (by decide)).trans ((gI_sI_ne (by decide)).trans (gI_sI_ne (by decide))))))))) (by omega)) ?_
  rintro _ _ ⟨g2527, rfl, hI2528, hF2529, rfl, hr2531⟩
  refine At.stn ?_
  have hF2532 := Fr.tr hF2522 hF2529 rfl rfl
  have skp2533 := hr2531.2
  rw [TX.ci hI2521 (((gA_sI).trans ((gA_sI).trans ((gA_sI).trans ((gA_sI).trans ((gA_sI).trans (gA_sI))))))), nX.ci hI2521 (((gI_sI_ne (by decide)).trans ((gI_sI_ne (by decide)).trans ((gI_sI_ne (by decide)).trans ((gI_sI_ne (by decide)).trans ((gI_sI_ne (by decide)).trans (gI_sI_ne (by decide)))))))), rX.e hI2521 (b := 5) (((gI_sI_ne (by decide)).trans ((gI_sI_ne (by decide)).trans ((gI_sI_ne (by decide)).trans ((gI_sI_ne (by decide)).trans (gI_sI_eq hI2511.1 kx_176 rfl _)))))), show (0 : Int32).toInt = 0 from rfl] at skp2533
  have hT2534 := hr2531.1
  obtain ⟨v2535, hv2535⟩ : ∃ v, gI g0 176 4 = v := ⟨_, rfl⟩
  have rv2535 := RgF.at hI0.2.1 (p := 176) (b := 4) rfl
  rw [hv2535] at rv2535
  dsimp only at rv2535
  have tv2535 := congrArg Int32.toInt hv2535
  have x2536 := rX.e hI2521 (b := 4) ((((gI_sI_ne (by decide)).trans ((gI_sI_ne (by decide)).trans ((gI_sI_ne (by decide)).trans ((gI_sI_ne (by decide)).trans ((gI_sI_ne (by decide)).trans (gI_sI_ne (by decide))))))).trans hv2535))
  obtain ⟨v2537, hv2537⟩ : ∃ v, gI g2527 176 4 = v := ⟨_, rfl⟩
  have rv2537 := RgF.at hI2528.2.1 (p := 176) (b := 4) rfl
  rw [hv2537] at rv2537
  dsimp only at rv2537
  have tv2537 := congrArg Int32.toInt hv2537
  have x2538 := rX.e hI2528 (b := 4) (hv2537)
  refine At.enter rfl ?_
  refine r_aload_n rfl ?_
  refine r_callV 30 rfl [.ref 176] [] (Nat.le_of_ble_eq_true rfl) rfl (T_X5_readClause_176 _ hI2528 hT2534) ?_
  rintro _ _ ⟨g2539, rfl, hI2540, hF2541, rfl, hr2543⟩
  refine At.stn ?_
  have hF2544 := Fr.tr hF2532 hF2541 rfl rfl
  obtain ⟨o2545, o2546, o2547⟩ := hr2543.1
  rw [TX.ci hI2528 (((hF2529.2.1 175 ma_X5_step_176_175).trans ((gA_sI).trans ((gA_sI).trans ((gA_sI).trans ((gA_sI).trans ((gA_sI).trans (gA_sI)))))))), nX.ci hI2528 (((hF2529.1 174 1 mf_X5_step_176_174_1).trans ((gI_sI_ne (by decide)).trans ((gI_sI_ne (by decide)).trans ((gI_sI_ne (by decide)).trans ((gI_sI_ne (by decide)).trans ((gI_sI_ne (by decide)).trans (gI_sI_ne (by decide)))))))))] at o2547
  have cg2548 := hr2543.2.1
  have cg2549 := hr2543.2.2
  rw [TX.ci hI2528 (((hF2529.2.1 175 ma_X5_step_176_175).trans ((gA_sI).trans ((gA_sI).trans ((gA_sI).trans ((gA_sI).trans ((gA_sI).trans (gA_sI)))))))), nX.ci hI2528 (((hF2529.1 174 1 mf_X5_step_176_174_1).trans ((gI_sI_ne (by decide)).trans ((gI_sI_ne (by decide)).trans ((gI_sI_ne (by decide)).trans ((gI_sI_ne (by decide)).trans ((gI_sI_ne (by decide)).trans (gI_sI_ne (by decide)))))))))] at cg2548
  have y2550 := o2546.1
  have x2551 := rX.e hI2528 (b := 2) (((hF2529.1 176 2 mf_X5_step_176_176_2).trans ((gI_sI_ne (by decide)).trans ((gI_sI_ne (by decide)).trans ((gI_sI_ne (by decide)).trans ((gI_sI_ne (by decide)).trans ((gI_sI_ne (by decide)).trans (gI_sI_eq hI0.1 kx_176 rfl _))))))))
  have zv2552 : ((-1) : Int32).toInt = (-1) := rfl
  obtain ⟨v2553, hv2553⟩ : ∃ v, gI g2539 176 2 = v := ⟨_, rfl⟩
  have tv2553 := congrArg Int32.toInt hv2553
  have x2554 := rX.e hI2540 (b := 2) (hv2553)
  have x2555 := rX.e hI2528 (b := 4) (hv2537)
  obtain ⟨v2556, hv2556⟩ : ∃ v, gI g2539 176 4 = v := ⟨_, rfl⟩
  have rv2556 := RgF.at hI2540.2.1 (p := 176) (b := 4) rfl
  rw [hv2556] at rv2556
  dsimp only at rv2556
  have tv2556 := congrArg Int32.toInt hv2556
  have x2557 := rX.e hI2540 (b := 4) (hv2556)
  refine At.enter rfl ?_
  refine r_iconst 0 rfl ?_
  refine r_istore_n ([(1, .int 0), (0, .ref 176)]) rfl ?_
  refine Ar.fall 32 rfl ?_
  have z_3694 : (0 : Int32).toInt = 0 := rfl
  have x3695 := rX.e hI2528 (b := 2) (((hF2529.1 176 2 mf_X5_step_176_176_2).trans ((gI_sI_ne (by decide)).trans ((gI_sI_ne (by decide)).trans ((gI_sI_ne (by decide)).trans ((gI_sI_ne (by decide)).trans ((gI_sI_ne (by decide)).trans (gI_sI_eq hI0.1 kx_176 rfl _))))))))
  have zv3696 : ((-1) : Int32).toInt = (-1) := rfl
  have x3697 := rX.e hI2528 (b := 4) (hv2537)
  have x3698 := rX.e hI2528 (b := 6) (((hF2529.1 176 6 mf_X5_step_176_176_6).trans ((gI_sI_ne (by decide)).trans ((gI_sI_ne (by decide)).trans ((gI_sI_ne (by decide)).trans (gI_sI_eq hI2513.1 kx_176 rfl _))))))
  have zv3699 : (0 : Int32).toInt = 0 := rfl
  have x3700 := kX.e hI2528 (((hF2529.1 177 3 mf_X5_step_176_177_3).trans ((gI_sI_ne (by decide)).trans (gI_sI_eq hI2517.1 kx_177 rfl _))))
  have zv3701 : (0 : Int32).toInt = 0 := rfl
  have x3702 := rX.e hI2540 (b := 4) (hv2556)
  have y3703 : lX g2527 = 0 := congrArg Int32.toInt (((hF2529.1 177 0 mf_X5_step_176_177_0).trans ((gI_sI_ne (by decide)).trans ((gI_sI_ne (by decide)).trans (gI_sI_eq hI2515.1 kx_177 rfl _)))))
  have zv3704 : (0 : Int32).toInt = 0 := rfl
  refine w_loopI (fun n_ l_ g_ => ∃ x3679 : Int32, n_ = 400 - x3679.toInt ∧ HI g_ ∧ Fr F_X5_read_176 A_X5_read_176 g0 g_ ∧ en_get 0 l_ = some (.ref 176) ∧ en_get 1 l_ = some (.int x3679) ∧ (0 ≤ x3679.toInt ∧ x3679.toInt ≤ 400) ∧ (TKX g_) ∧ (CST (TX g0) (nX g0) (6, [], 0, 0, rX g2527 4) g_ 8 [] (kX g_)) ∧ (x3679.toInt ≤ rX g_ 4) ∧ (RGX (TX g0) (nX g0) (rX g2527 4) g_) ∧ (SPK g_)) ?_ (400 - 0) ⟨0, by first | rfl | omega, hI2540, hF2544, rfl, rfl, by decide, o2545, (o2547 _ (CST.start (by omega) (by omega) (by omega))), by omega, (RGX_start cg2548 (fun z => by have pr : _ ∧ _ ∧ _ := o2546; omega) (by omega) (by omega) (by omega) (by omega) (fun z => (CST.m50 (show CST (TX g0) (nX g0) (6, [], 0, 0, rX g2527 4) _ 8 [] _ from (o2547 _ (CST.start (by omega) (by omega) (by omega)))) z).2)), (cg2549 (SPK_z (by show (gI _ 177 3).toInt ≤ 0; have e := congrArg Int32.toInt (((hF2529.1 177 3 mf_X5_step_176_177_3).trans ((gI_sI_ne (by decide)).trans (gI_sI_eq hI2517.1 kx_177 rfl _)))); omega)) (by show 0 ≤ (gI _ 177 3).toInt; have e := congrArg Int32.toInt (((hF2529.1 177 3 mf_X5_step_176_177_3).trans ((gI_sI_ne (by decide)).trans (gI_sI_eq hI2517.1 kx_177 rfl _)))); omega))⟩
  rintro n3684 l3683 g3680 ⟨x3679, hm3705, hI3681, hF3682, e3686, e3687, r3688, q3689, q3690, q3691, q3692, q3693⟩ ih3685
  obtain ⟨v3706, hv3706⟩ : ∃ v, gI g3680 176 4 = v := ⟨_, rfl⟩
  have rv3706 := RgF.at hI3681.2.1 (p := 176) (b := 4) rfl
  rw [hv3706] at rv3706
  dsimp only at rv3706
  have tv3706 := congrArg Int32.toInt hv3706
  have x3707 := rX.e hI3681 (b := 4) (hv3706)
  obtain ⟨v3708, hv3708⟩ : ∃ v, gI g3680 176 2 = v := ⟨_, rfl⟩
  have tv3708 := congrArg Int32.toInt hv3708
  have x3709 := rX.e hI3681 (b := 2) (hv3708)
  have ce3710 := fun hz => CDX.end_ q3689 hz
  refine At.enter rfl ?_
  refine r_iload_n e3687 ?_
  refine r_sipush 400 rfl ?_
  refine r_ics 39 rfl (fun c3711 => ?_) (fun c3711 => ?_)
  · have c3711_ : x3679.toInt ≥ 400 := en_i_ge_t c3711
    refine At.enter rfl ?_
    refine r_aload_n e3686 ?_
    obtain ⟨v3712, hv3712⟩ : ∃ v, gI g3680 176 3 = v := ⟨_, rfl⟩
    refine q_getI (Sh.int hI3681.1 kx_176 rfl) v3712 hv3712 ?_
    refine r_iconst 3 rfl ?_
    refine r_ics 78 rfl (fun c3713 => ?_) (fun c3713 => ?_)
    · have c3713_ : v3712.toInt = 3 := en_i_eq_t c3713
      refine At.enter rfl ?_
      refine r_aload_n e3686 ?_
      refine q_getI (Sh.int hI3681.1 kx_176 rfl) v3708 hv3708 ?_
      refine r_iconst (-1) rfl ?_
      refine r_ics 90 rfl (fun c3714 => ?_) (fun c3714 => ?_)
      · have c3714_ : v3708.toInt ≠ (-1) := en_i_ne_t c3714
        refine At.enter rfl ?_
        refine r_iconst 0 rfl ?_
        refine Ar.fall 95 rfl ?_
        refine At.enter rfl ?_
        refine r_iretz (by decide) ?_
        have zv3715 : (0 : Int32).toInt = 0 := rfl
        have x3716 := rX.e hI3681 (b := 2) (hv3708)
        have x3717 := rX.e hI3681 (b := 2) (hv3708)
        have x3718 := rX.e hI3681 (b := 4) (hv3706)
        have x3719 := rX.e hI3681 (b := 4) (hv3706)
        have x3720 := rX.e hI3681 (b := 3) (hv3712)
        have ck := CDX.k3 q3689
        exact ⟨_, rfl, hI3681, hF3682, _, rfl, by decide, ⟨⟨_, skp2533, by first | (exact Or.inr ⟨by omega, by omega, RPX.bad q3690 (by omega) (by omega)⟩) | (exact Or.inl ⟨by omega, by omega, RPX.fin q3690 (by omega) (TKX.someC q3689 ((hF3682.2.1 175 (by decide))) ((hF3682.1 174 1 (by decide)))).choose_spec (by omega)⟩) | (exact Or.inr ⟨by omega, by omega, RPX.fail q3690 (by omega) (TKX.someC q3689 ((hF3682.2.1 175 (by decide))) ((hF3682.1 174 1 (by decide)))).choose_spec (by omega) (by omega) (by omega)⟩)⟩, (by first | exact (fun hr => absurd hr (by omega)) | exact RPG_mk skp2533 q3692 (by omega) (TKX.someC q3689 ((hF3682.2.1 175 (by decide))) ((hF3682.1 174 1 (by decide)))).choose_spec (by omega) (by omega) SCX.rf rfl rfl rfl rfl rfl), q3693⟩⟩
      · have c3714_ : v3708.toInt = (-1) := en_i_ne_f c3714
        refine At.enter rfl ?_
        refine r_iconst 1 rfl ?_
        refine r_goto ?_
        refine At.enter rfl ?_
        refine r_iretz (by decide) ?_
        have zv3721 : (1 : Int32).toInt = 1 := rfl
        have x3722 := rX.e hI3681 (b := 2) (hv3708)
        have x3723 := rX.e hI3681 (b := 2) (hv3708)
        have x3724 := rX.e hI3681 (b := 4) (hv3706)
        have x3725 := rX.e hI3681 (b := 4) (hv3706)
        have x3726 := rX.e hI3681 (b := 3) (hv3712)
        have ck := CDX.k3 q3689
        exact ⟨_, rfl, hI3681, hF3682, _, rfl, by decide, ⟨⟨_, skp2533, by first | (exact Or.inr ⟨by omega, by omega, RPX.bad q3690 (by omega) (by omega)⟩) | (exact Or.inl ⟨by omega, by omega, RPX.fin q3690 (by omega) (TKX.someC q3689 ((hF3682.2.1 175 (by decide))) ((hF3682.1 174 1 (by decide)))).choose_spec (by omega)⟩) | (exact Or.inr ⟨by omega, by omega, RPX.fail q3690 (by omega) (TKX.someC q3689 ((hF3682.2.1 175 (by decide))) ((hF3682.1 174 1 (by decide)))).choose_spec (by omega) (by omega) (by omega)⟩)⟩, (by first | exact (fun hr => absurd hr (by omega)) | exact RPG_mk skp2533 q3692 (by omega) (TKX.someC q3689 ((hF3682.2.1 175 (by decide))) ((hF3682.1 174 1 (by decide)))).choose_spec (by omega) (by omega) SCX.rf rfl rfl rfl rfl rfl), q3693⟩⟩
    · have c3713_ : v3712.toInt ≠ 3 := en_i_eq_f c3713
      refine At.enter rfl ?_
      refine r_aload_n e3686 ?_
      refine q_inlV 82 rfl [.ref 176] [] (Nat.le_of_ble_eq_true rfl) rfl ?_
      refine Ev.mk rfl rfl ⟨Nat.le_of_ble_eq_true rfl, Or.inr (q_rc hI3681.1 kx_176 rfl)⟩ ?_
      show At _ none _ _ (0, [(0, .ref 176)], [], (_, _)) _
      refine At.enter rfl ?_
      refine r_aload_n rfl ?_
      refine q_getI (Sh.int hI3681.1 kx_176 rfl) v3708 hv3708 ?_
      refine r_iconst (-1) rfl ?_
      refine r_ics 8 rfl (fun c3727 => ?_) (fun c3727 => ?_)
      · have c3727_ : v3708.toInt ≠ (-1) := en_i_ne_t c3727
        refine At.enter rfl ?_
        refine q_vret ?_
        refine At.enter rfl ?_
        refine r_aload_n e3686 ?_
        refine q_getI (Sh.int hI3681.1 kx_176 rfl) v3708 hv3708 ?_
        refine r_iconst (-1) rfl ?_
        refine r_ics 90 rfl (fun c3728 => ?_) (fun c3728 => ?_)
        · have c3728_ : v3708.toInt ≠ (-1) := en_i_ne_t c3728
          refine At.enter rfl ?_
          refine r_iconst 0 rfl ?_
          refine Ar.fall 95 rfl ?_
          refine At.enter rfl ?_
          refine r_iretz (by decide) ?_
          have zv3729 : (0 : Int32).toInt = 0 := rfl
          have x3730 := rX.e hI3681 (b := 2) (hv3708)
          have x3731 := rX.e hI3681 (b := 2) (hv3708)
          have x3732 := rX.e hI3681 (b := 4) (hv3706)
          have x3733 := rX.e hI3681 (b := 4) (hv3706)
          have x3734 := rX.e hI3681 (b := 3) (hv3712)
          have ck := CDX.k3 q3689
          exact ⟨_, rfl, hI3681, hF3682, _, rfl, by decide, ⟨⟨_, skp2533, by first | (exact Or.inr ⟨by omega, by omega, RPX.bad q3690 (by omega) (by omega)⟩) | (exact Or.inl ⟨by omega, by omega, RPX.fin q3690 (by omega) (TKX.someC q3689 ((hF3682.2.1 175 (by decide))) ((hF3682.1 174 1 (by decide)))).choose_spec (by omega)⟩) | (exact Or.inr ⟨by omega, by omega, RPX.fail q3690 (by omega) (TKX.someC q3689 ((hF3682.2.1 175 (by decide))) ((hF3682.1 174 1 (by decide)))).choose_spec (by omega) (by omega) (by omega)⟩)⟩, (by first | exact (fun hr => absurd hr (by omega)) | exact RPG_mk skp2533 q3692 (by omega) (TKX.someC q3689 ((hF3682.2.1 175 (by decide))) ((hF3682.1 174 1 (by decide)))).choose_spec (by omega) (by omega) SCX.rf rfl rfl rfl rfl rfl), q3693⟩⟩
        · have c3728_ : v3708.toInt = (-1) := en_i_ne_f c3728
          refine At.enter rfl ?_
          refine r_iconst 1 rfl ?_
          refine r_goto ?_
          refine At.enter rfl ?_
          refine r_iretz (by decide) ?_
          have zv3735 : (1 : Int32).toInt = 1 := rfl
          have x3736 := rX.e hI3681 (b := 2) (hv3708)
          have x3737 := rX.e hI3681 (b := 2) (hv3708)
          have x3738 := rX.e hI3681 (b := 4) (hv3706)
          have x3739 := rX.e hI3681 (b := 4) (hv3706)
          have x3740 := rX.e hI3681 (b := 3) (hv3712)
          have ck := CDX.k3 q3689
          exact ⟨_, rfl, hI3681, hF3682, _, rfl, by decide, ⟨⟨_, skp2533, by first | (exact Or.inr ⟨by omega, by omega, RPX.bad q3690 (by omega) (by omega)⟩) | (exact Or.inl ⟨by omega, by omega, RPX.fin q3690 (by omega) (TKX.someC q3689 ((hF3682.2.1 175 (by decide))) ((hF3682.1 174 1 (by decide)))).choose_spec (by omega)⟩) | (exact Or.inr ⟨by omega, by omega, RPX.fail q3690 (by omega) (TKX.someC q3689 ((hF3682.2.1 175 (by decide))) ((hF3682.1 174 1 (by decide)))).choose_spec (by omega) (by omega) (by omega)⟩)⟩, (by first | exact (fun hr => absurd hr (by omega)) | exact RPG_mk skp2533 q3692 (by omega) (TKX.someC q3689 ((hF3682.2.1 175 (by decide))) ((hF3682.1 174 1 (by decide)))).choose_spec (by omega) (by omega) SCX.rf rfl rfl rfl rfl rfl), q3693⟩⟩
      · have c3727_ : v3708.toInt = (-1) := en_i_ne_f c3727
        refine At.enter rfl ?_
        refine r_aload_n rfl ?_
        refine r_aload_n rfl ?_
        refine q_getI (Sh.int hI3681.1 kx_176 rfl) v3706 hv3706 ?_
        refine q_putI (Sh.int hI3681.1 kx_176 rfl) rfl ?_
        have hI3741 := HI.wI0 hI3681 kx_176 rfl (p := 176) (b := 2) (v := v3706) rfl
        have hF3742 := Fr.wI (p := 176) (b := 2) (v := v3706) hF3682 rfl
        refine Ar.fall 16 rfl ?_
        refine At.enter rfl ?_
        refine q_vret ?_
        refine At.enter rfl ?_
        refine r_aload_n e3686 ?_
        refine q_getI (Sh.int hI3741.1 kx_176 rfl) v3706 (gI_sI_eq hI3681.1 kx_176 rfl _) ?_
        refine r_iconst (-1) rfl ?_
        refine r_ics 90 rfl (fun c3743 => ?_) (fun c3743 => ?_)
        · have c3743_ : v3706.toInt ≠ (-1) := en_i_ne_t c3743
          refine At.enter rfl ?_
          refine r_iconst 0 rfl ?_
          refine Ar.fall 95 rfl ?_
          refine At.enter rfl ?_
          refine r_iretz (by decide) ?_
          have zv3744 : (0 : Int32).toInt = 0 := rfl
          have x3745 := rX.e hI3741 (b := 2) ((gI_sI_eq hI3681.1 kx_176 rfl _))
          have x3746 := rX.e hI3681 (b := 2) (hv3708)
          have x3747 := rX.e hI3741 (b := 4) (((gI_sI_ne (by decide)).trans hv3706))
          have x3748 := rX.e hI3681 (b := 4) (hv3706)
          have x3749 := rX.e hI3681 (b := 3) (hv3712)
          have ck := CDX.k3 q3689
          exact ⟨_, rfl, hI3741, hF3742, _, rfl, by decide, ⟨⟨_, skp2533, by first | (exact Or.inr ⟨by omega, by omega, RPX.bad q3690 (by omega) (by omega)⟩) | (exact Or.inl ⟨by omega, by omega, RPX.fin q3690 (by omega) (TKX.someC q3689 ((hF3682.2.1 175 (by decide))) ((hF3682.1 174 1 (by decide)))).choose_spec (by omega)⟩) | (exact Or.inr ⟨by omega, by omega, RPX.fail q3690 (by omega) (TKX.someC q3689 ((hF3682.2.1 175 (by decide))) ((hF3682.1 174 1 (by decide)))).choose_spec (by omega) (by omega) (by omega)⟩)⟩, (by first | exact (fun hr => absurd hr (by omega)) | exact RPG_mk skp2533 q3692 (by omega) (TKX.someC q3689 ((hF3682.2.1 175 (by decide))) ((hF3682.1 174 1 (by decide)))).choose_spec (by omega) (by omega) (SCX.mk ((gA_sI)) ((gA_sI)) ((gI_sI_ne (by decide)))) ((gA_sI)) ((gA_sI)) ((gA_sI)) ((gA_sI)) (congrArg Int32.toInt ((gI_sI_ne (by decide))))), (SPK_c q3693 ((gI_sI_ne (by decide))) ((gA_sI)) ((gI_sI_ne (by decide))))⟩⟩
        · have c3743_ : v3706.toInt = (-1) := en_i_ne_f c3743
          exfalso; omega
  · have c3711_ : x3679.toInt < 400 := en_i_ge_f c3711
    refine At.enter rfl ?_
    refine r_aload_n e3686 ?_
    refine q_getI (Sh.int hI3681.1 kx_176 rfl) v3708 hv3708 ?_
    refine r_iconst (-1) rfl ?_
    refine r_ics 47 rfl (fun c3750 => ?_) (fun c3750 => ?_)
    · have c3750_ : v3708.toInt ≠ (-1) := en_i_ne_t c3750
      refine At.enter rfl ?_
      refine r_aload_n e3686 ?_
      obtain ⟨v3751, hv3751⟩ : ∃ v, gI g3680 176 3 = v := ⟨_, rfl⟩
      refine q_getI (Sh.int hI3681.1 kx_176 rfl) v3751 hv3751 ?_
      refine r_iconst 3 rfl ?_
      refine r_ics 78 rfl (fun c3752 => ?_) (fun c3752 => ?_)
      · have c3752_ : v3751.toInt = 3 := en_i_eq_t c3752
        refine At.enter rfl ?_
        refine r_aload_n e3686 ?_
        refine q_getI (Sh.int hI3681.1 kx_176 rfl) v3708 hv3708 ?_
        refine r_iconst (-1) rfl ?_
        refine r_ics 90 rfl (fun c3753 => ?_) (fun c3753 => ?_)
        · have c3753_ : v3708.toInt ≠ (-1) := en_i_ne_t c3753
          refine At.enter rfl ?_
          refine r_iconst 0 rfl ?_
          refine Ar.fall 95 rfl ?_
          refine At.enter rfl ?_
          refine r_iretz (by decide) ?_
          have zv3754 : (0 : Int32).toInt = 0 := rfl
          have x3755 := rX.e hI3681 (b := 2) (hv3708)
          have x3756 := rX.e hI3681 (b := 2) (hv3708)
          have x3757 := rX.e hI3681 (b := 4) (hv3706)
          have x3758 := rX.e hI3681 (b := 4) (hv3706)
          have x3759 := rX.e hI3681 (b := 3) (hv3751)
          have ck := CDX.k3 q3689
          exact ⟨_, rfl, hI3681, hF3682, _, rfl, by decide, ⟨⟨_, skp2533, by first | (exact Or.inr ⟨by omega, by omega, RPX.bad q3690 (by omega) (by omega)⟩) | (exact Or.inl ⟨by omega, by omega, RPX.fin q3690 (by omega) (TKX.someC q3689 ((hF3682.2.1 175 (by decide))) ((hF3682.1 174 1 (by decide)))).choose_spec (by omega)⟩) | (exact Or.inr ⟨by omega, by omega, RPX.fail q3690 (by omega) (TKX.someC q3689 ((hF3682.2.1 175 (by decide))) ((hF3682.1 174 1 (by decide)))).choose_spec (by omega) (by omega) (by omega)⟩)⟩, (by first | exact (fun hr => absurd hr (by omega)) | exact RPG_mk skp2533 q3692 (by omega) (TKX.someC q3689 ((hF3682.2.1 175 (by decide))) ((hF3682.1 174 1 (by decide)))).choose_spec (by omega) (by omega) SCX.rf rfl rfl rfl rfl rfl), q3693⟩⟩
        · have c3753_ : v3708.toInt = (-1) := en_i_ne_f c3753
          refine At.enter rfl ?_
          refine r_iconst 1 rfl ?_
          refine r_goto ?_
          refine At.enter rfl ?_
          refine r_iretz (by decide) ?_
          have zv3760 : (1 : Int32).toInt = 1 := rfl
          have x3761 := rX.e hI3681 (b := 2) (hv3708)
          have x3762 := rX.e hI3681 (b := 2) (hv3708)
          have x3763 := rX.e hI3681 (b := 4) (hv3706)
          have x3764 := rX.e hI3681 (b := 4) (hv3706)
          have x3765 := rX.e hI3681 (b := 3) (hv3751)
          have ck := CDX.k3 q3689
          exact ⟨_, rfl, hI3681, hF3682, _, rfl, by decide, ⟨⟨_, skp2533, by first | (exact Or.inr ⟨by omega, by omega, RPX.bad q3690 (by omega) (by omega)⟩) | (exact Or.inl ⟨by omega, by omega, RPX.fin q3690 (by omega) (TKX.someC q3689 ((hF3682.2.1 175 (by decide))) ((hF3682.1 174 1 (by decide)))).choose_spec (by omega)⟩) | (exact Or.inr ⟨by omega, by omega, RPX.fail q3690 (by omega) (TKX.someC q3689 ((hF3682.2.1 175 (by decide))) ((hF3682.1 174 1 (by decide)))).choose_spec (by omega) (by omega) (by omega)⟩)⟩, (by first | exact (fun hr => absurd hr (by omega)) | exact RPG_mk skp2533 q3692 (by omega) (TKX.someC q3689 ((hF3682.2.1 175 (by decide))) ((hF3682.1 174 1 (by decide)))).choose_spec (by omega) (by omega) SCX.rf rfl rfl rfl rfl rfl), q3693⟩⟩
      · have c3752_ : v3751.toInt ≠ 3 := en_i_eq_f c3752
        refine At.enter rfl ?_
        refine r_aload_n e3686 ?_
        refine q_inlV 82 rfl [.ref 176] [] (Nat.le_of_ble_eq_true rfl) rfl ?_
        refine Ev.mk rfl rfl ⟨Nat.le_of_ble_eq_true rfl, Or.inr (q_rc hI3681.1 kx_176 rfl)⟩ ?_
        show At _ none _ _ (0, [(0, .ref 176)], [], (_, _)) _
        refine At.enter rfl ?_
        refine r_aload_n rfl ?_
        refine q_getI (Sh.int hI3681.1 kx_176 rfl) v3708 hv3708 ?_
        refine r_iconst (-1) rfl ?_
        refine r_ics 8 rfl (fun c3766 => ?_) (fun c3766 => ?_)
        · have c3766_ : v3708.toInt ≠ (-1) := en_i_ne_t c3766
          refine At.enter rfl ?_
          refine q_vret ?_
          refine At.enter rfl ?_
          refine r_aload_n e3686 ?_
          refine q_getI (Sh.int hI3681.1 kx_176 rfl) v3708 hv3708 ?_
          refine r_iconst (-1) rfl ?_
          refine r_ics 90 rfl (fun c3767 => ?_) (fun c3767 => ?_)
          · have c3767_ : v3708.toInt ≠ (-1) := en_i_ne_t c3767
            refine At.enter rfl ?_
            refine r_iconst 0 rfl ?_
            refine Ar.fall 95 rfl ?_
            refine At.enter rfl ?_
            refine r_iretz (by decide) ?_
            have zv3768 : (0 : Int32).toInt = 0 := rfl
            have x3769 := rX.e hI3681 (b := 2) (hv3708)
            have x3770 := rX.e hI3681 (b := 2) (hv3708)
            have x3771 := rX.e hI3681 (b := 4) (hv3706)
            have x3772 := rX.e hI3681 (b := 4) (hv3706)
            have x3773 := rX.e hI3681 (b := 3) (hv3751)
            have ck := CDX.k3 q3689
            exact ⟨_, rfl, hI3681, hF3682, _, rfl, by decide, ⟨⟨_, skp2533, by first | (exact Or.inr ⟨by omega, by omega, RPX.bad q3690 (by omega) (by omega)⟩) | (exact Or.inl ⟨by omega, by omega, RPX.fin q3690 (by omega) (TKX.someC q3689 ((hF3682.2.1 175 (by decide))) ((hF3682.1 174 1 (by decide)))).choose_spec (by omega)⟩) | (exact Or.inr ⟨by omega, by omega, RPX.fail q3690 (by omega) (TKX.someC q3689 ((hF3682.2.1 175 (by decide))) ((hF3682.1 174 1 (by decide)))).choose_spec (by omega) (by omega) (by omega)⟩)⟩, (by first | exact (fun hr => absurd hr (by omega)) | exact RPG_mk skp2533 q3692 (by omega) (TKX.someC q3689 ((hF3682.2.1 175 (by decide))) ((hF3682.1 174 1 (by decide)))).choose_spec (by omega) (by omega) SCX.rf rfl rfl rfl rfl rfl), q3693⟩⟩
          · have c3767_ : v3708.toInt = (-1) := en_i_ne_f c3767
            refine At.enter rfl ?_
            refine r_iconst 1 rfl ?_
            refine r_goto ?_
            refine At.enter rfl ?_
            refine r_iretz (by decide) ?_
            have zv3774 : (1 : Int32).toInt = 1 := rfl
            have x3775 := rX.e hI3681 (b := 2) (hv3708)
            have x3776 := rX.e hI3681 (b := 2) (hv3708)
            have x3777 := rX.e hI3681 (b := 4) (hv3706)
            have x3778 := rX.e hI3681 (b := 4) (hv3706)
            have x3779 := rX.e hI3681 (b := 3) (hv3751)
            have ck := CDX.k3 q3689
            exact ⟨_, rfl, hI3681, hF3682, _, rfl, by decide, ⟨⟨_, skp2533, by first | (exact Or.inr ⟨by omega, by omega, RPX.bad q3690 (by omega) (by omega)⟩) | (exact Or.inl ⟨by omega, by omega, RPX.fin q3690 (by omega) (TKX.someC q3689 ((hF3682.2.1 175 (by decide))) ((hF3682.1 174 1 (by decide)))).choose_spec (by omega)⟩) | (exact Or.inr ⟨by omega, by omega, RPX.fail q3690 (by omega) (TKX.someC q3689 ((hF3682.2.1 175 (by decide))) ((hF3682.1 174 1 (by decide)))).choose_spec (by omega) (by omega) (by omega)⟩)⟩, (by first | exact (fun hr => absurd hr (by omega)) | exact RPG_mk skp2533 q3692 (by omega) (TKX.someC q3689 ((hF3682.2.1 175 (by decide))) ((hF3682.1 174 1 (by decide)))).choose_spec (by omega) (by omega) SCX.rf rfl rfl rfl rfl rfl), q3693⟩⟩
        · have c3766_ : v3708.toInt = (-1) := en_i_ne_f c3766
          refine At.enter rfl ?_
          refine r_aload_n rfl ?_
          refine r_aload_n rfl ?_
          refine q_getI (Sh.int hI3681.1 kx_176 rfl) v3706 hv3706 ?_
          refine q_putI (Sh.int hI3681.1 kx_176 rfl) rfl ?_
          have hI3780 := HI.wI0 hI3681 kx_176 rfl (p := 176) (b := 2) (v := v3706) rfl
          have hF3781 := Fr.wI (p := 176) (b := 2) (v := v3706) hF3682 rfl
          refine Ar.fall 16 rfl ?_
          refine At.enter rfl ?_
          refine q_vret ?_
          refine At.enter rfl ?_
          refine r_aload_n e3686 ?_
          refine q_getI (Sh.int hI3780.1 kx_176 rfl) v3706 (gI_sI_eq hI3681.1 kx_176 rfl _) ?_
          refine r_iconst (-1) rfl ?_
          refine r_ics 90 rfl (fun c3782 => ?_) (fun c3782 => ?_)
          · have c3782_ : v3706.toInt ≠ (-1) := en_i_ne_t c3782
            refine At.enter rfl ?_
            refine r_iconst 0 rfl ?_
            refine Ar.fall 95 rfl ?_
            refine At.enter rfl ?_
            refine r_iretz (by decide) ?_
            have zv3783 : (0 : Int32).toInt = 0 := rfl
            have x3784 := rX.e hI3780 (b := 2) ((gI_sI_eq hI3681.1 kx_176 rfl _))
            have x3785 := rX.e hI3681 (b := 2) (hv3708)
            have x3786 := rX.e hI3780 (b := 4) (((gI_sI_ne (by decide)).trans hv3706))
            have x3787 := rX.e hI3681 (b := 4) (hv3706)
            have x3788 := rX.e hI3681 (b := 3) (hv3751)
            have ck := CDX.k3 q3689
            exact ⟨_, rfl, hI3780, hF3781, _, rfl, by decide, ⟨⟨_, skp2533, by first | (exact Or.inr ⟨by omega, by omega, RPX.bad q3690 (by omega) (by omega)⟩) | (exact Or.inl ⟨by omega, by omega, RPX.fin q3690 (by omega) (TKX.someC q3689 ((hF3682.2.1 175 (by decide))) ((hF3682.1 174 1 (by decide)))).choose_spec (by omega)⟩) | (exact Or.inr ⟨by omega, by omega, RPX.fail q3690 (by omega) (TKX.someC q3689 ((hF3682.2.1 175 (by decide))) ((hF3682.1 174 1 (by decide)))).choose_spec (by omega) (by omega) (by omega)⟩)⟩, (by first | exact (fun hr => absurd hr (by omega)) | exact RPG_mk skp2533 q3692 (by omega) (TKX.someC q3689 ((hF3682.2.1 175 (by decide))) ((hF3682.1 174 1 (by decide)))).choose_spec (by omega) (by omega) (SCX.mk ((gA_sI)) ((gA_sI)) ((gI_sI_ne (by decide)))) ((gA_sI)) ((gA_sI)) ((gA_sI)) ((gA_sI)) (congrArg Int32.toInt ((gI_sI_ne (by decide))))), (SPK_c q3693 ((gI_sI_ne (by decide))) ((gA_sI)) ((gI_sI_ne (by decide))))⟩⟩
          · have c3782_ : v3706.toInt = (-1) := en_i_ne_f c3782
            exfalso; omega
    · have c3750_ : v3708.toInt = (-1) := en_i_ne_f c3750
      refine At.enter rfl ?_
      refine r_aload_n e3686 ?_
      refine r_bipush 59 rfl ?_
      refine r_callV 53 rfl [.ref 176, .int 59] [] (Nat.le_of_ble_eq_true rfl) rfl (T_X5_isSingle_176 _ hI3681 59 (by decide)) ?_
      rintro _ _ ⟨g3789, rfl, hI3790, hF3791, v3792, rfl, hr3793⟩
      refine At.sti ?_
      have hF3794 := Fr.tr hF3682 hF3791 rfl rfl
      have zv3795 : (59 : Int32).toInt = 59 := rfl
      have hb3796 : BL (CDX g3680 = 14) v3792.toInt := ISX.code (c := 14) hr3793.2 q3689 (isSC_d (by omega)) (by decide)
      refine At.enter rfl ?_
      refine r_ifs 56 rfl (fun c3797 => ?_) (fun c3797 => ?_)
      · have c3797_ : v3792.toInt = 0 := en_k_eq_t c3797
        have i3798 := BL.no hb3796 (by omega)
        refine At.enter rfl ?_
        refine r_aload_n e3686 ?_
        obtain ⟨v3799, hv3799⟩ : ∃ v, gI g3680 176 3 = v := ⟨_, rfl⟩
        refine q_getI (Sh.int hI3790.1 kx_176 rfl) v3799 ((hF3791.1 176 3 mf_X5_isSingle_176_176_3).trans hv3799) ?_
        refine r_iconst 3 rfl ?_
        refine r_ics 78 rfl (fun c3800 => ?_) (fun c3800 => ?_)
        · have c3800_ : v3799.toInt = 3 := en_i_eq_t c3800
          refine At.enter rfl ?_
          refine r_aload_n e3686 ?_
          refine q_getI (Sh.int hI3790.1 kx_176 rfl) v3708 ((hF3791.1 176 2 mf_X5_isSingle_176_176_2).trans hv3708) ?_
          refine r_iconst (-1) rfl ?_
          refine r_ics 90 rfl (fun c3801 => ?_) (fun c3801 => ?_)
          · have c3801_ : v3708.toInt ≠ (-1) := en_i_ne_t c3801
            exfalso; omega
          · have c3801_ : v3708.toInt = (-1) := en_i_ne_f c3801
            refine At.enter rfl ?_
            refine r_iconst 1 rfl ?_
            refine r_goto ?_
            refine At.enter rfl ?_
            refine r_iretz (by decide) ?_
            have zv3802 : (1 : Int32).toInt = 1 := rfl
            have x3803 := rX.e hI3790 (b := 2) (((hF3791.1 176 2 mf_X5_isSingle_176_176_2).trans hv3708))
            have x3804 := rX.e hI3681 (b := 2) (hv3708)
            have x3805 := rX.e hI3790 (b := 4) (((hF3791.1 176 4 mf_X5_isSingle_176_176_4).trans hv3706))
            have x3806 := rX.e hI3681 (b := 4) (hv3706)
            have x3807 := rX.e hI3681 (b := 3) (hv3799)
            have ck := CDX.k3 q3689
            exact ⟨_, rfl, hI3790, hF3794, _, rfl, by decide, ⟨⟨_, skp2533, by first | (exact Or.inr ⟨by omega, by omega, RPX.bad q3690 (by omega) (by omega)⟩) | (exact Or.inl ⟨by omega, by omega, RPX.fin q3690 (by omega) (TKX.someC q3689 ((hF3682.2.1 175 (by decide))) ((hF3682.1 174 1 (by decide)))).choose_spec (by omega)⟩) | (exact Or.inr ⟨by omega, by omega, RPX.fail q3690 (by omega) (TKX.someC q3689 ((hF3682.2.1 175 (by decide))) ((hF3682.1 174 1 (by decide)))).choose_spec (by omega) (by omega) (by omega)⟩)⟩, (by first | exact (fun hr => absurd hr (by omega)) | exact RPG_mk skp2533 q3692 (by omega) (TKX.someC q3689 ((hF3682.2.1 175 (by decide))) ((hF3682.1 174 1 (by decide)))).choose_spec (by omega) (by omega) (SCX.mk ((hF3791.2.1 178 ma_X5_isSingle_176_178)) ((hF3791.2.1 179 ma_X5_isSingle_176_179)) ((hF3791.1 177 0 mf_X5_isSingle_176_177_0))) ((hF3791.2.1 180 ma_X5_isSingle_176_180)) ((hF3791.2.1 181 ma_X5_isSingle_176_181)) ((hF3791.2.1 182 ma_X5_isSingle_176_182)) ((hF3791.2.1 183 ma_X5_isSingle_176_183)) (congrArg Int32.toInt ((hF3791.1 177 3 mf_X5_isSingle_176_177_3)))), (SPK_c q3693 ((hF3791.1 177 4 mf_X5_isSingle_176_177_4)) ((hF3791.2.1 180 ma_X5_isSingle_176_180)) ((hF3791.1 177 3 mf_X5_isSingle_176_177_3)))⟩⟩
        · have c3800_ : v3799.toInt ≠ 3 := en_i_eq_f c3800
          refine At.enter rfl ?_
          refine r_aload_n e3686 ?_
          refine q_inlV 82 rfl [.ref 176] [] (Nat.le_of_ble_eq_true rfl) rfl ?_
          refine Ev.mk rfl rfl ⟨Nat.le_of_ble_eq_true rfl, Or.inr (q_rc hI3790.1 kx_176 rfl)⟩ ?_
          show At _ none _ _ (0, [(0, .ref 176)], [], (_, _)) _
          refine At.enter rfl ?_
          refine r_aload_n rfl ?_
          refine q_getI (Sh.int hI3790.1 kx_176 rfl) v3708 ((hF3791.1 176 2 mf_X5_isSingle_176_176_2).trans hv3708) ?_
          refine r_iconst (-1) rfl ?_
          refine r_ics 8 rfl (fun c3808 => ?_) (fun c3808 => ?_)
          · have c3808_ : v3708.toInt ≠ (-1) := en_i_ne_t c3808
            exfalso; omega
          · have c3808_ : v3708.toInt = (-1) := en_i_ne_f c3808
            refine At.enter rfl ?_
            refine r_aload_n rfl ?_
            refine r_aload_n rfl ?_
            refine q_getI (Sh.int hI3790.1 kx_176 rfl) v3706 ((hF3791.1 176 4 mf_X5_isSingle_176_176_4).trans hv3706) ?_
            refine q_putI (Sh.int hI3790.1 kx_176 rfl) rfl ?_
            have hI3809 := HI.wI0 hI3790 kx_176 rfl (p := 176) (b := 2) (v := v3706) rfl
            have hF3810 := Fr.wI (p := 176) (b := 2) (v := v3706) hF3794 rfl
            refine Ar.fall 16 rfl ?_
            refine At.enter rfl ?_
            refine q_vret ?_
            refine At.enter rfl ?_
            refine r_aload_n e3686 ?_
            refine q_getI (Sh.int hI3809.1 kx_176 rfl) v3706 (gI_sI_eq hI3790.1 kx_176 rfl _) ?_
            refine r_iconst (-1) rfl ?_
            refine r_ics 90 rfl (fun c3811 => ?_) (fun c3811 => ?_)
            · have c3811_ : v3706.toInt ≠ (-1) := en_i_ne_t c3811
              refine At.enter rfl ?_
              refine r_iconst 0 rfl ?_
              refine Ar.fall 95 rfl ?_
              refine At.enter rfl ?_
              refine r_iretz (by decide) ?_
              have zv3812 : (0 : Int32).toInt = 0 := rfl
              have x3813 := rX.e hI3809 (b := 2) ((gI_sI_eq hI3790.1 kx_176 rfl _))
              have x3814 := rX.e hI3681 (b := 2) (hv3708)
              have x3815 := rX.e hI3809 (b := 4) ((((gI_sI_ne (by decide)).trans (hF3791.1 176 4 mf_X5_isSingle_176_176_4)).trans hv3706))
              have x3816 := rX.e hI3681 (b := 4) (hv3706)
              have x3817 := rX.e hI3681 (b := 3) (hv3799)
              have ck := CDX.k3 q3689
              exact ⟨_, rfl, hI3809, hF3810, _, rfl, by decide, ⟨⟨_, skp2533, by first | (exact Or.inr ⟨by omega, by omega, RPX.bad q3690 (by omega) (by omega)⟩) | (exact Or.inl ⟨by omega, by omega, RPX.fin q3690 (by omega) (TKX.someC q3689 ((hF3682.2.1 175 (by decide))) ((hF3682.1 174 1 (by decide)))).choose_spec (by omega)⟩) | (exact Or.inr ⟨by omega, by omega, RPX.fail q3690 (by omega) (TKX.someC q3689 ((hF3682.2.1 175 (by decide))) ((hF3682.1 174 1 (by decide)))).choose_spec (by omega) (by omega) (by omega)⟩)⟩, (by first | exact (fun hr => absurd hr (by omega)) | exact RPG_mk skp2533 q3692 (by omega) (TKX.someC q3689 ((hF3682.2.1 175 (by decide))) ((hF3682.1 174 1 (by decide)))).choose_spec (by omega) (by omega) (SCX.mk (((gA_sI).trans (hF3791.2.1 178 ma_X5_isSingle_176_178))) (((gA_sI).trans (hF3791.2.1 179 ma_X5_isSingle_176_179))) (((gI_sI_ne (by decide)).trans (hF3791.1 177 0 mf_X5_isSingle_176_177_0)))) (((gA_sI).trans (hF3791.2.1 180 ma_X5_isSingle_176_180))) (((gA_sI).trans (hF3791.2.1 181 ma_X5_isSingle_176_181))) (((gA_sI).trans (hF3791.2.1 182 ma_X5_isSingle_176_182))) (((gA_sI).trans (hF3791.2.1 183 ma_X5_isSingle_176_183))) (congrArg Int32.toInt (((gI_sI_ne (by decide)).trans (hF3791.1 177 3 mf_X5_isSingle_176_177_3))))), (SPK_c q3693 (((gI_sI_ne (by decide)).trans (hF3791.1 177 4 mf_X5_isSingle_176_177_4))) (((gA_sI).trans (hF3791.2.1 180 ma_X5_isSingle_176_180))) (((gI_sI_ne (by decide)).trans (hF3791.1 177 3 mf_X5_isSingle_176_177_3))))⟩⟩
            · have c3811_ : v3706.toInt = (-1) := en_i_ne_f c3811
              exfalso; omega
      · have c3797_ : v3792.toInt ≠ 0 := en_k_eq_f c3797
        have i3818 := BL.yes hb3796 (by omega)
        refine At.enter rfl ?_
        refine r_aload_n e3686 ?_
        refine r_callV 60 rfl [.ref 176] [] (Nat.le_of_ble_eq_true rfl) rfl (T_X5_step_176 _ hI3790 (TKX.c q3689 ((hF3791.2.1 175 ma_X5_isSingle_176_175)) ((hF3791.1 174 1 mf_X5_isSingle_176_174_1)) ((hF3791.1 176 3 mf_X5_isSingle_176_176_3)) ((hF3791.1 176 4 mf_X5_isSingle_176_176_4)) ((hF3791.1 176 5 mf_X5_isSingle_176_176_5))).1 (TKX.c q3689 ((hF3791.2.1 175 ma_X5_isSingle_176_175)) ((hF3791.1 174 1 mf_X5_isSingle_176_174_1)) ((hF3791.1 176 3 mf_X5_isSingle_176_176_3)) ((hF3791.1 176 4 mf_X5_isSingle_176_176_4)) ((hF3791.1 176 5 mf_X5_isSingle_176_176_5))).2.1.le.2.1) ?_
        rintro _ _ ⟨g3819, rfl, hI3820, hF3821, rfl, hr3823⟩
        refine At.stn ?_
        have hF3824 := Fr.tr hF3794 hF3821 rfl rfl
        have tok3825_ := hr3823.2
        rw [TX.c ((hF3791.2.1 175 ma_X5_isSingle_176_175)), nX.c ((hF3791.1 174 1 mf_X5_isSingle_176_174_1)), rX.c (b := 5) ((hF3791.1 176 5 mf_X5_isSingle_176_176_5))] at tok3825_
        have tok3825 := TKX.tok q3689 tok3825_
        rw [TX.c ((hF3682.2.1 175 (by decide))), nX.c ((hF3682.1 174 1 (by decide)))] at tok3825
        have hT3826 := hr3823.1
        have x3827 := rX.e hI3790 (b := 4) (((hF3791.1 176 4 mf_X5_isSingle_176_176_4).trans hv3706))
        obtain ⟨v3828, hv3828⟩ : ∃ v, gI g3819 176 4 = v := ⟨_, rfl⟩
        have rv3828 := RgF.at hI3820.2.1 (p := 176) (b := 4) rfl
        rw [hv3828] at rv3828
        dsimp only at rv3828
        have tv3828 := congrArg Int32.toInt hv3828
        have x3829 := rX.e hI3820 (b := 4) (hv3828)
        refine At.enter rfl ?_
        refine r_aload_n e3686 ?_
        refine r_callV 64 rfl [.ref 176] [] (Nat.le_of_ble_eq_true rfl) rfl (T_X5_readClause_176 _ hI3820 hT3826) ?_
        rintro _ _ ⟨g3830, rfl, hI3831, hF3832, rfl, hr3834⟩
        refine At.stn ?_
        have hF3835 := Fr.tr hF3824 hF3832 rfl rfl
        obtain ⟨o3836, o3837, o3838⟩ := hr3834.1
        rw [TX.ci hI3820 (((hF3821.2.1 175 ma_X5_step_176_175).trans ((hF3791.2.1 175 ma_X5_isSingle_176_175).trans (hF3682.2.1 175 (by decide))))), nX.ci hI3820 (((hF3821.1 174 1 mf_X5_step_176_174_1).trans ((hF3791.1 174 1 mf_X5_isSingle_176_174_1).trans (hF3682.1 174 1 (by decide)))))] at o3838
        have cg3839 := hr3834.2.1
        have cg3840 := hr3834.2.2
        rw [TX.ci hI3820 (((hF3821.2.1 175 ma_X5_step_176_175).trans ((hF3791.2.1 175 ma_X5_isSingle_176_175).trans (hF3682.2.1 175 (by decide))))), nX.ci hI3820 (((hF3821.1 174 1 mf_X5_step_176_174_1).trans ((hF3791.1 174 1 mf_X5_isSingle_176_174_1).trans (hF3682.1 174 1 (by decide)))))] at cg3839
        have y3841 := o3837.1
        have x3842 := rX.e hI3820 (b := 2) ((((hF3821.1 176 2 mf_X5_step_176_176_2).trans (hF3791.1 176 2 mf_X5_isSingle_176_176_2)).trans hv3708))
        obtain ⟨v3843, hv3843⟩ : ∃ v, gI g3830 176 2 = v := ⟨_, rfl⟩
        have tv3843 := congrArg Int32.toInt hv3843
        have x3844 := rX.e hI3831 (b := 2) (hv3843)
        have x3845 := rX.e hI3820 (b := 4) (hv3828)
        obtain ⟨v3846, hv3846⟩ : ∃ v, gI g3830 176 4 = v := ⟨_, rfl⟩
        have rv3846 := RgF.at hI3831.2.1 (p := 176) (b := 4) rfl
        rw [hv3846] at rv3846
        dsimp only at rv3846
        have tv3846 := congrArg Int32.toInt hv3846
        have x3847 := rX.e hI3831 (b := 4) (hv3846)
        refine At.enter rfl ?_
        refine q_iinc e3687 (x3679.toInt + 1) rfl (by omega) (fun v3848 hv3848 => ?_)
        refine r_goto ?_
        have y3849 := ((PRG0.step q3689 tok3825_ (rX.c (b := 2) (((hF3821.1 176 2 mf_X5_step_176_176_2).trans (hF3791.1 176 2 mf_X5_isSingle_176_176_2)))) (by omega)).2.2 (by rw [(rX.c (b := 2) (((hF3821.1 176 2 mf_X5_step_176_176_2).trans (hF3791.1 176 2 mf_X5_isSingle_176_176_2))))]; omega)).2
        have x3850 := rX.e hI3681 (b := 4) (hv3706)
        have x3851 := rX.e hI3681 (b := 2) (hv3708)
        have x3852 := rX.e hI3831 (b := 4) (hv3846)
        exact ih3685 (400 - v3848.toInt) _ _ ⟨v3848, by first | rfl | omega, hI3831, hF3835, (w_p1 (by decide) (Or.inr rfl) e3686), (w_e1 _ _ _), by omega, o3836, (o3838 _ (CLX.head q3690 (fun _ => by rw [show kX g3819 = kX g3680 from congrArg Int32.toInt (((hF3821.1 177 3 mf_X5_step_176_177_3).trans (hF3791.1 177 3 mf_X5_isSingle_176_177_3)))]; exact S.semi tok3825 (by omega)) (rX.c (b := 2) (((hF3821.1 176 2 mf_X5_step_176_176_2).trans (hF3791.1 176 2 mf_X5_isSingle_176_176_2)))) (rX.c (b := 6) (((hF3821.1 176 6 mf_X5_step_176_176_6).trans (hF3791.1 176 6 mf_X5_isSingle_176_176_6)))))), by omega, (RGX_next q3692 tok3825 (by omega) (SCX.mk (((hF3821.2.1 178 ma_X5_step_176_178).trans (hF3791.2.1 178 ma_X5_isSingle_176_178))) (((hF3821.2.1 179 ma_X5_step_176_179).trans (hF3791.2.1 179 ma_X5_isSingle_176_179))) (((hF3821.1 177 0 mf_X5_step_176_177_0).trans (hF3791.1 177 0 mf_X5_isSingle_176_177_0)))) (((hF3821.2.1 180 ma_X5_step_176_180).trans (hF3791.2.1 180 ma_X5_isSingle_176_180))) (((hF3821.2.1 181 ma_X5_step_176_181).trans (hF3791.2.1 181 ma_X5_isSingle_176_181))) (((hF3821.2.1 182 ma_X5_step_176_182).trans (hF3791.2.1 182 ma_X5_isSingle_176_182))) (((hF3821.2.1 183 ma_X5_step_176_183).trans (hF3791.2.1 183 ma_X5_isSingle_176_183))) (congrArg Int32.toInt (((hF3821.1 177 3 mf_X5_step_176_177_3).trans (hF3791.1 177 3 mf_X5_isSingle_176_177_3)))) cg3839 (fun z => by have pr : _ ∧ _ ∧ _ := o3837; omega) (fun z => (CST.m50 q3690 z).1) (rX.c (b := 6) (((hF3821.1 176 6 mf_X5_step_176_176_6).trans (hF3791.1 176 6 mf_X5_isSingle_176_176_6)))) (fun z => (CST.m50 (show CST (TX g0) (nX g0) (6, [], 0, 0, rX g2527 4) _ 8 [] _ from (o3838 _ (CLX.head q3690 (fun _ => by rw [show kX g3819 = kX g3680 from congrArg Int32.toInt (((hF3821.1 177 3 mf_X5_step_176_177_3).trans (hF3791.1 177 3 mf_X5_isSingle_176_177_3)))]; exact S.semi tok3825 (by omega)) (rX.c (b := 2) (((hF3821.1 176 2 mf_X5_step_176_176_2).trans (hF3791.1 176 2 mf_X5_isSingle_176_176_2)))) (rX.c (b := 6) (((hF3821.1 176 6 mf_X5_step_176_176_6).trans (hF3791.1 176 6 mf_X5_isSingle_176_176_6))))))) z).2)), (cg3840 (SPK_c q3693 (((hF3821.1 177 4 mf_X5_step_176_177_4).trans (hF3791.1 177 4 mf_X5_isSingle_176_177_4))) (((hF3821.2.1 180 ma_X5_step_176_180).trans (hF3791.2.1 180 ma_X5_isSingle_176_180))) (((hF3821.1 177 3 mf_X5_step_176_177_3).trans (hF3791.1 177 3 mf_X5_isSingle_176_177_3)))) (by have z := RgF.at hI3820.2.1 (p := 177) (b := 3) (Lw.r3 (q := 177) rfl); exact z.1))⟩ ⟨by omega, by omega⟩
