def F_X3_tells_185 : List (Nat × Nat) := [(185, 3)]
def A_X3_tells_185 : List Nat := []
theorem mf_X0_next_1_1_9 : memF F_X0_next_1 1 9 = false := by decide
theorem mf_X0_about_1_1_9 : memF F_X0_about_1 1 9 = false := by decide
set_option maxRecDepth 100000 in
set_option maxHeartbeats 4000000 in
theorem T_X3_tells_185 (d : Nat) {N : Nat} {g0 : List en_E} (hI0 : HI g0) (a1 : Int32) (a2 : Int32) (a3 : Int32) (a4 : Int32) (a5 : Int32) (a6 : Int32) (a7 : Int32) : Ev (d + 3) 52 [.ref 185, .int a1, .int a2, .int a3, .int a4, .int a5, .int a6, .int a7] (g0, N) (fun w h' => ∃ g', h' = (g', N) ∧ HI g' ∧ Fr F_X3_tells_185 A_X3_tells_185 g0 g' ∧ ∃ r : Int64, w = some (.long r) ∧ True) := by
  have hF0 : Fr F_X3_tells_185 A_X3_tells_185 g0 g0 := Fr.rf
  refine Ev.mk rfl rfl ⟨Nat.le_of_ble_eq_true rfl, Or.inr (q_rc hI0.1 kx_185 rfl)⟩ ?_
  show At _ none _ _ (0, [(0, .ref 185), (1, .int a1), (2, .int a2), (3, .int a3), (4, .int a4), (5, .int a5), (6, .int a6), (7, .int a7)], [], (_, _)) _
  refine At.enter rfl ?_
  refine r_aload_n rfl ?_
  refine q_getR (Sh.ref hI0.1 kx_185 rfl) ?_
  refine r_iconst 0 rfl ?_
  refine r_iload_n rfl ?_
  refine q_i2l (fun v355 hv355 => ?_)
  refine q_last (Sh.lar hI0.1 ka_186) (0) rfl (by decide) ?_
  have hI356 := HI.wK hI0 ka_186 (0) (v355) (by decide)
  have hF357 := Fr.wK (p := 186) (j := 0) (v := v355) hF0
  refine r_aload_n rfl ?_
  refine q_getR (Sh.ref hI356.1 kx_185 rfl) ?_
  refine r_iconst 1 rfl ?_
  refine r_aload_n rfl ?_
  refine q_getR (Sh.ref hI356.1 kx_185 rfl) ?_
  refine r_iload_n rfl ?_
  refine r_iconst 0 rfl ?_
  refine r_callV 22 rfl [.ref 1, .int a2, .int 0] [.int 1, .ref 186] (Nat.le_of_ble_eq_true rfl) rfl (T_X0_about_1 _ hI356 a2 0) ?_
  rintro _ _ ⟨g358, rfl, hI359, hF360, v361, rfl, hr362⟩
  refine At.sti ?_
  have hF363 := Fr.tr hF357 hF360 rfl rfl
  have zv364 : (0 : Int32).toInt = 0 := rfl
  refine At.enter rfl ?_
  refine q_i2l (fun v365 hv365 => ?_)
  refine q_last (Sh.lar hI359.1 ka_186) (1) rfl (by decide) ?_
  have hI366 := HI.wK hI359 ka_186 (1) (v365) (by decide)
  have hF367 := Fr.wK (p := 186) (j := 1) (v := v365) hF363
  refine r_aload_n rfl ?_
  refine q_getR (Sh.ref hI366.1 kx_185 rfl) ?_
  refine r_iconst 2 rfl ?_
  refine r_aload_n rfl ?_
  refine q_getR (Sh.ref hI366.1 kx_185 rfl) ?_
  refine r_iload_n rfl ?_
  refine r_iconst 4 rfl ?_
  refine r_callV 38 rfl [.ref 1, .int a2, .int 4] [.int 2, .ref 186] (Nat.le_of_ble_eq_true rfl) rfl (T_X0_about_1 _ hI366 a2 4) ?_
  rintro _ _ ⟨g368, rfl, hI369, hF370, v371, rfl, hr372⟩
  refine At.sti ?_
  have hF373 := Fr.tr hF367 hF370 rfl rfl
  have zv374 : (4 : Int32).toInt = 4 := rfl
  refine At.enter rfl ?_
  refine q_i2l (fun v375 hv375 => ?_)
  refine q_last (Sh.lar hI369.1 ka_186) (2) rfl (by decide) ?_
  have hI376 := HI.wK hI369 ka_186 (2) (v375) (by decide)
  have hF377 := Fr.wK (p := 186) (j := 2) (v := v375) hF373
  refine r_aload_n rfl ?_
  refine q_getR (Sh.ref hI376.1 kx_185 rfl) ?_
  refine r_iconst 3 rfl ?_
  refine r_iload_n rfl ?_
  refine q_i2l (fun v378 hv378 => ?_)
  refine q_last (Sh.lar hI376.1 ka_186) (3) rfl (by decide) ?_
  have hI379 := HI.wK hI376 ka_186 (3) (v378) (by decide)
  have hF380 := Fr.wK (p := 186) (j := 3) (v := v378) hF377
  refine r_aload_n rfl ?_
  refine q_getR (Sh.ref hI379.1 kx_185 rfl) ?_
  refine r_iconst 4 rfl ?_
  refine r_aload_n rfl ?_
  refine q_getR (Sh.ref hI379.1 kx_185 rfl) ?_
  refine r_iload_n rfl ?_
  refine r_callV 61 rfl [.ref 1, .int a3] [.int 4, .ref 186] (Nat.le_of_ble_eq_true rfl) rfl (T_X0_next_1 _ hI379 a3) ?_
  rintro _ _ ⟨g381, rfl, hI382, hF383, v384, rfl, hr385⟩
  refine At.sti ?_
  have hF386 := Fr.tr hF380 hF383 rfl rfl
  refine At.enter rfl ?_
  refine q_i2l (fun v387 hv387 => ?_)
  refine q_last (Sh.lar hI382.1 ka_186) (4) rfl (by decide) ?_
  have hI388 := HI.wK hI382 ka_186 (4) (v387) (by decide)
  have hF389 := Fr.wK (p := 186) (j := 4) (v := v387) hF386
  refine r_aload_n rfl ?_
  refine q_getR (Sh.ref hI388.1 kx_185 rfl) ?_
  refine r_iconst 5 rfl ?_
  refine r_iload rfl ?_
  refine q_i2l (fun v390 hv390 => ?_)
  refine q_last (Sh.lar hI388.1 ka_186) (5) rfl (by decide) ?_
  have hI391 := HI.wK hI388 ka_186 (5) (v390) (by decide)
  have hF392 := Fr.wK (p := 186) (j := 5) (v := v390) hF389
  refine r_aload_n rfl ?_
  refine q_getR (Sh.ref hI391.1 kx_185 rfl) ?_
  refine r_bipush 6 rfl ?_
  refine r_iload rfl ?_
  refine q_i2l (fun v393 hv393 => ?_)
  refine q_last (Sh.lar hI391.1 ka_186) (6) rfl (by decide) ?_
  have hI394 := HI.wK hI391 ka_186 (6) (v393) (by decide)
  have hF395 := Fr.wK (p := 186) (j := 6) (v := v393) hF392
  refine r_aload_n rfl ?_
  refine q_getR (Sh.ref hI394.1 kx_185 rfl) ?_
  refine r_bipush 7 rfl ?_
  refine r_iload rfl ?_
  refine q_i2l (fun v396 hv396 => ?_)
  refine q_last (Sh.lar hI394.1 ka_186) (7) rfl (by decide) ?_
  have hI397 := HI.wK hI394 ka_186 (7) (v396) (by decide)
  have hF398 := Fr.wK (p := 186) (j := 7) (v := v396) hF395
  refine r_aload_n rfl ?_
  refine q_getR (Sh.ref hI397.1 kx_185 rfl) ?_
  refine r_bipush 8 rfl ?_
  refine r_iload rfl ?_
  refine q_i2l (fun v399 hv399 => ?_)
  refine q_last (Sh.lar hI397.1 ka_186) (8) rfl (by decide) ?_
  have hI400 := HI.wK hI397 ka_186 (8) (v399) (by decide)
  have hF401 := Fr.wK (p := 186) (j := 8) (v := v399) hF398
  refine r_aload_n rfl ?_
  refine q_getR (Sh.ref hI400.1 kx_185 rfl) ?_
  refine q_inlV 109 rfl [.ref 1] [] (Nat.le_of_ble_eq_true rfl) rfl ?_
  refine Ev.mk rfl rfl ⟨Nat.le_of_ble_eq_true rfl, Or.inr (q_rc hI400.1 kx_1 rfl)⟩ ?_
  show At _ none _ _ (0, [(0, .ref 1)], [], (_, _)) _
  refine At.enter rfl ?_
  refine r_aload_n rfl ?_
  refine r_aload_n rfl ?_
  obtain ⟨v402, hv402⟩ : ∃ v, gI g0 1 9 = v := ⟨_, rfl⟩
  refine q_getI (Sh.int hI400.1 kx_1 rfl) v402 (((gI_sX).trans ((gI_sX).trans ((gI_sX).trans ((gI_sX).trans ((gI_sX).trans ((hF383.1 1 9 mf_X0_next_1_1_9).trans ((gI_sX).trans ((gI_sX).trans ((hF370.1 1 9 mf_X0_about_1_1_9).trans ((gI_sX).trans ((hF360.1 1 9 mf_X0_about_1_1_9).trans (gI_sX)))))))))))).trans hv402) ?_
  refine r_callV 8 rfl [.ref 1, .int v402] [] (Nat.le_of_ble_eq_true rfl) rfl (T_X0_lawAt_1 _ hI400 v402) ?_
  rintro _ _ ⟨g403, rfl, hI404, hF405, v406, rfl, hr407⟩
  refine At.str ?_
  have hF408 := Fr.tr hF401 hF405 rfl rfl
  refine At.enter rfl ?_
  refine q_aret ?_
  refine At.enter rfl ?_
  refine r_astore ([(8, .ref (v406)), (0, .ref 185), (1, .int a1), (2, .int a2), (3, .int a3), (4, .int a4), (5, .int a5), (6, .int a6), (7, .int a7)]) rfl ?_
  refine r_aload rfl ?_
  refine q_getI' (Sh.int hI404.1 (Lw.ko hr407) rfl) (fun v409 hv409 => ?_)
  have rv409 := RgF.at hI404.2.1 (Lw.r3 hr407)
  rw [hv409] at rv409
  dsimp only at rv409
  refine r_bipush 12 rfl ?_
  refine q_mmin rfl (Nat.le_of_ble_eq_true rfl) (fun v410 hv410 => ?_)
  have zv411 : (12 : Int32).toInt = 12 := rfl
  refine r_iconst 1 rfl ?_
  refine q_isub (v410.toInt - 1) rfl (by omega) (fun v412 hv412 => ?_)
  refine r_istore ([(9, .int v412), (8, .ref (v406)), (0, .ref 185), (1, .int a1), (2, .int a2), (3, .int a3), (4, .int a4), (5, .int a5), (6, .int a6), (7, .int a7)]) rfl ?_
  refine Ar.fall 125 rfl ?_
  refine w_loopI (fun n_ l_ g_ => ∃ x464 : Int32, n_ = x464.toInt - (-1) ∧ HI g_ ∧ Fr F_X3_tells_185 A_X3_tells_185 g0 g_ ∧ en_get 0 l_ = some (.ref 185) ∧ en_get 1 l_ = some (.int a1) ∧ en_get 2 l_ = some (.int a2) ∧ en_get 3 l_ = some (.int a3) ∧ en_get 4 l_ = some (.int a4) ∧ en_get 5 l_ = some (.int a5) ∧ en_get 6 l_ = some (.int a6) ∧ en_get 7 l_ = some (.int a7) ∧ en_get 8 l_ = some (.ref (v406)) ∧ en_get 9 l_ = some (.int x464) ∧ ((-1) ≤ x464.toInt ∧ x464.toInt ≤ 11)) ?_ (v412.toInt - (-1)) ⟨v412, by first | rfl | omega, hI404, hF408, rfl, rfl, rfl, rfl, rfl, rfl, rfl, rfl, rfl, rfl, by omega⟩
  rintro n469 l468 g465 ⟨x464, hm482, hI466, hF467, e471, e472, e473, e474, e475, e476, e477, e478, e479, e480, r481⟩ ih470
  refine At.enter rfl ?_
  refine r_iload e480 ?_
  refine r_ifs 130 rfl (fun c483 => ?_) (fun c483 => ?_)
  · have c483_ : x464.toInt < 0 := en_k_lt_t c483
    refine At.enter rfl ?_
    refine r_iload_n e472 ?_
    refine r_iconst 1 rfl ?_
    refine r_ics 269 rfl (fun c484 => ?_) (fun c484 => ?_)
    · have c484_ : a1.toInt ≠ 1 := en_i_ne_t c484
      refine At.enter rfl ?_
      refine r_lconst 0 rfl ?_
      refine Ar.fall 276 rfl ?_
      refine At.enter rfl ?_
      refine r_lret ?_
      exact ⟨_, rfl, hI466, hF467, _, rfl, trivial⟩
    · have c484_ : a1.toInt = 1 := en_i_ne_f c484
      refine At.enter rfl ?_
      refine r_iload e478 ?_
      refine q_i2l (fun v485 hv485 => ?_)
      refine r_goto ?_
      refine At.enter rfl ?_
      refine r_lret ?_
      exact ⟨_, rfl, hI466, hF467, _, rfl, trivial⟩
  · have c483_ : x464.toInt ≥ 0 := en_k_lt_f c483
    refine At.enter rfl ?_
    refine r_aload e479 ?_
    refine q_getR (Sh.ref hI466.1 (Lw.ko hr407) rfl) ?_
    refine r_iload e480 ?_
    refine q_iald' (Sh.arr hI466.1 (Lw.k3 hr407)) x464.toInt rfl (by omega) (fun v486 hv486 => ?_)
    refine r_iload_n e472 ?_
    refine r_ics 142 rfl (fun c487 => ?_) (fun c487 => ?_)
    · have c487_ : v486.toInt = a1.toInt := en_i_eq_t c487
      refine At.enter rfl ?_
      refine r_aload_n e471 ?_
      refine r_iconst 0 rfl ?_
      refine q_putI (Sh.int hI466.1 kx_185 rfl) rfl ?_
      have hI488 := HI.wI0 hI466 kx_185 rfl (p := 185) (b := 3) (v := 0) rfl
      have hF489 := Fr.wI (p := 185) (b := 3) (v := 0) hF467 rfl
      refine r_aload e479 ?_
      refine q_getR (Sh.ref hI488.1 (Lw.ko hr407) rfl) ?_
      refine r_iload e480 ?_
      refine q_iald' (Sh.arr hI488.1 (Lw.k5 hr407)) x464.toInt rfl (by omega) (fun v490 hv490 => ?_)
      refine r_aload e479 ?_
      refine q_getR (Sh.ref hI488.1 (Lw.ko hr407) rfl) ?_
      refine r_iload e480 ?_
      refine q_iald' (Sh.arr hI488.1 (Lw.k6 hr407)) x464.toInt rfl (by omega) (fun v491 hv491 => ?_)
      refine r_ics 169 rfl (fun c492 => ?_) (fun c492 => ?_)
      · have c492_ : v490.toInt = v491.toInt := en_i_eq_t c492
        refine At.enter rfl ?_
        refine r_iconst 1 rfl ?_
        refine r_goto ?_
        refine At.enter rfl ?_
        refine r_istore _ rfl ?_
        refine r_iload (w_e1 _ _ _) ?_
        refine r_iff 208 rfl (by decide) ?_
        refine At.enter rfl ?_
        refine r_aload_n (w_p1 (by decide) (Or.inr rfl) e471) ?_
        refine q_getI (Sh.int hI488.1 kx_185 rfl) 0 (gI_sI_eq hI466.1 kx_185 rfl _) ?_
        refine r_iff 215 rfl (by decide) ?_
        refine At.enter rfl ?_
        refine r_iload_n (w_p1 (by decide) (Or.inr rfl) e472) ?_
        refine r_iconst 2 rfl ?_
        refine r_ics 220 rfl (fun c493 => ?_) (fun c493 => ?_)
        · have c493_ : a1.toInt ≠ 2 := en_i_ne_t c493
          refine At.enter rfl ?_
          refine r_aload_n (w_p1 (by decide) (Or.inr rfl) e471) ?_
          refine r_aload (w_p1 (by decide) (Or.inr rfl) e479) ?_
          refine r_aload (w_p1 (by decide) (Or.inr rfl) e479) ?_
          refine q_getR (Sh.ref hI488.1 (Lw.ko hr407) rfl) ?_
          refine r_iload (w_p1 (by decide) (Or.inr rfl) e480) ?_
          refine q_iald' (Sh.arr hI488.1 (Lw.k4 hr407)) x464.toInt rfl (by omega) (fun v494 hv494 => ?_)
          refine r_aload (w_p1 (by decide) (Or.inr rfl) e479) ?_
          refine q_getR (Sh.ref hI488.1 (Lw.ko hr407) rfl) ?_
          refine r_iload (w_p1 (by decide) (Or.inr rfl) e480) ?_
          refine q_iald' (Sh.arr hI488.1 (Lw.k5 hr407)) x464.toInt rfl (by omega) (fun v495 hv495 => ?_)
          refine r_callV 246 rfl [.ref 185, .ref (v406), .int v494, .int v495] [] (Nat.le_of_ble_eq_true rfl) rfl (T_X3_worth_185 _ hI488 (v406) hr407 v494 v495) ?_
          rintro _ _ ⟨g496, rfl, hI497, hF498, v499, rfl, hr500⟩
          refine At.stl ?_
          have hF501 := Fr.tr hF489 hF498 rfl rfl
          refine At.enter rfl ?_
          refine r_lstore _ rfl ?_
          refine r_aload_n (w_p2 (by decide) (by decide) (Or.inr rfl) (w_p1 (by decide) (Or.inr rfl) e471)) ?_
          obtain ⟨v502, hv502⟩ : ∃ v, gI g496 185 3 = v := ⟨_, rfl⟩
          refine q_getI (Sh.int hI497.1 kx_185 rfl) v502 hv502 ?_
          refine r_ifs 255 rfl (fun c503 => ?_) (fun c503 => ?_)
          · have c503_ : v502.toInt ≠ 0 := en_k_ne_t c503
            refine At.enter rfl ?_
            refine q_iinc (w_p2 (by decide) (by decide) (Or.inr rfl) (w_p1 (by decide) (Or.inr rfl) e480)) (x464.toInt + (-1)) rfl (by omega) (fun v504 hv504 => ?_)
            refine r_goto ?_
            exact ih470 (v504.toInt - (-1)) _ _ ⟨v504, by first | rfl | omega, hI497, hF501, (w_p1 (by decide) (Or.inr rfl) (w_p2 (by decide) (by decide) (Or.inr rfl) (w_p1 (by decide) (Or.inr rfl) e471))), (w_p1 (by decide) (Or.inr rfl) (w_p2 (by decide) (by decide) (Or.inr rfl) (w_p1 (by decide) (Or.inr rfl) e472))), (w_p1 (by decide) (Or.inr rfl) (w_p2 (by decide) (by decide) (Or.inr rfl) (w_p1 (by decide) (Or.inr rfl) e473))), (w_p1 (by decide) (Or.inr rfl) (w_p2 (by decide) (by decide) (Or.inr rfl) (w_p1 (by decide) (Or.inr rfl) e474))), (w_p1 (by decide) (Or.inr rfl) (w_p2 (by decide) (by decide) (Or.inr rfl) (w_p1 (by decide) (Or.inr rfl) e475))), (w_p1 (by decide) (Or.inr rfl) (w_p2 (by decide) (by decide) (Or.inr rfl) (w_p1 (by decide) (Or.inr rfl) e476))), (w_p1 (by decide) (Or.inr rfl) (w_p2 (by decide) (by decide) (Or.inr rfl) (w_p1 (by decide) (Or.inr rfl) e477))), (w_p1 (by decide) (Or.inr rfl) (w_p2 (by decide) (by decide) (Or.inr rfl) (w_p1 (by decide) (Or.inr rfl) e478))), (w_p1 (by decide) (Or.inr rfl) (w_p2 (by decide) (by decide) (Or.inr rfl) (w_p1 (by decide) (Or.inr rfl) e479))), (w_e1 _ _ _), by omega⟩ ⟨by omega, by omega⟩
          · have c503_ : v502.toInt = 0 := en_k_ne_f c503
            refine At.enter rfl ?_
            refine r_lload (w_e2 _ _ _) ?_
            refine r_lret ?_
            exact ⟨_, rfl, hI497, hF501, _, rfl, trivial⟩
        · have c493_ : a1.toInt = 2 := en_i_ne_f c493
          refine At.enter rfl ?_
          refine r_lconst 1 rfl ?_
          refine r_goto ?_
          refine At.enter rfl ?_
          refine r_lstore _ rfl ?_
          refine r_aload_n (w_p2 (by decide) (by decide) (Or.inr rfl) (w_p1 (by decide) (Or.inr rfl) e471)) ?_
          refine q_getI (Sh.int hI488.1 kx_185 rfl) 0 (gI_sI_eq hI466.1 kx_185 rfl _) ?_
          refine r_iff 255 rfl (by decide) ?_
          refine At.enter rfl ?_
          refine r_lload (w_e2 _ _ _) ?_
          refine r_lret ?_
          exact ⟨_, rfl, hI488, hF489, _, rfl, trivial⟩
      · have c492_ : v490.toInt ≠ v491.toInt := en_i_eq_f c492
        refine At.enter rfl ?_
        refine r_aload_n e471 ?_
        refine r_aload e479 ?_
        refine r_aload e479 ?_
        refine q_getR (Sh.ref hI488.1 (Lw.ko hr407) rfl) ?_
        refine r_iload e480 ?_
        refine q_iald' (Sh.arr hI488.1 (Lw.k5 hr407)) x464.toInt rfl (by omega) (fun v505 hv505 => ?_)
        refine r_aload e479 ?_
        refine q_getR (Sh.ref hI488.1 (Lw.ko hr407) rfl) ?_
        refine r_iload e480 ?_
        refine q_iald' (Sh.arr hI488.1 (Lw.k6 hr407)) x464.toInt rfl (by omega) (fun v506 hv506 => ?_)
        refine r_callV 191 rfl [.ref 185, .ref (v406), .int v505, .int v506] [] (Nat.le_of_ble_eq_true rfl) rfl (T_X3_worth_185 _ hI488 (v406) hr407 v505 v506) ?_
        rintro _ _ ⟨g507, rfl, hI508, hF509, v510, rfl, hr511⟩
        refine At.stl ?_
        have hF512 := Fr.tr hF489 hF509 rfl rfl
        refine At.enter rfl ?_
        refine r_lconst 0 rfl ?_
        refine r_lcmp _ rfl ?_
        refine r_ifs 196 rfl (fun c513 => ?_) (fun c513 => ?_)
        · have c513_ : v510.toInt = 0 := en_j_eq_t c513
          refine At.enter rfl ?_
          refine r_iconst 0 rfl ?_
          refine Ar.fall 201 rfl ?_
          refine At.enter rfl ?_
          refine r_istore _ rfl ?_
          refine r_iload (w_e1 _ _ _) ?_
          refine r_ift (by decide) ?_
          refine At.enter rfl ?_
          refine q_iinc (w_p1 (by decide) (Or.inr rfl) e480) (x464.toInt + (-1)) rfl (by omega) (fun v514 hv514 => ?_)
          refine r_goto ?_
          exact ih470 (v514.toInt - (-1)) _ _ ⟨v514, by first | rfl | omega, hI508, hF512, (w_p1 (by decide) (Or.inr rfl) (w_p1 (by decide) (Or.inr rfl) e471)), (w_p1 (by decide) (Or.inr rfl) (w_p1 (by decide) (Or.inr rfl) e472)), (w_p1 (by decide) (Or.inr rfl) (w_p1 (by decide) (Or.inr rfl) e473)), (w_p1 (by decide) (Or.inr rfl) (w_p1 (by decide) (Or.inr rfl) e474)), (w_p1 (by decide) (Or.inr rfl) (w_p1 (by decide) (Or.inr rfl) e475)), (w_p1 (by decide) (Or.inr rfl) (w_p1 (by decide) (Or.inr rfl) e476)), (w_p1 (by decide) (Or.inr rfl) (w_p1 (by decide) (Or.inr rfl) e477)), (w_p1 (by decide) (Or.inr rfl) (w_p1 (by decide) (Or.inr rfl) e478)), (w_p1 (by decide) (Or.inr rfl) (w_p1 (by decide) (Or.inr rfl) e479)), (w_e1 _ _ _), by omega⟩ ⟨by omega, by omega⟩
        · have c513_ : v510.toInt ≠ 0 := en_j_eq_f c513
          refine At.enter rfl ?_
          refine r_iconst 1 rfl ?_
          refine r_goto ?_
          refine At.enter rfl ?_
          refine r_istore _ rfl ?_
          refine r_iload (w_e1 _ _ _) ?_
          refine r_iff 208 rfl (by decide) ?_
          refine At.enter rfl ?_
          refine r_aload_n (w_p1 (by decide) (Or.inr rfl) e471) ?_
          obtain ⟨v515, hv515⟩ : ∃ v, gI g507 185 3 = v := ⟨_, rfl⟩
          refine q_getI (Sh.int hI508.1 kx_185 rfl) v515 hv515 ?_
          refine r_ifs 215 rfl (fun c516 => ?_) (fun c516 => ?_)
          · have c516_ : v515.toInt ≠ 0 := en_k_ne_t c516
            refine At.enter rfl ?_
            refine q_iinc (w_p1 (by decide) (Or.inr rfl) e480) (x464.toInt + (-1)) rfl (by omega) (fun v517 hv517 => ?_)
            refine r_goto ?_
            exact ih470 (v517.toInt - (-1)) _ _ ⟨v517, by first | rfl | omega, hI508, hF512, (w_p1 (by decide) (Or.inr rfl) (w_p1 (by decide) (Or.inr rfl) e471)), (w_p1 (by decide) (Or.inr rfl) (w_p1 (by decide) (Or.inr rfl) e472)), (w_p1 (by decide) (Or.inr rfl) (w_p1 (by decide) (Or.inr rfl) e473)), (w_p1 (by decide) (Or.inr rfl) (w_p1 (by decide) (Or.inr rfl) e474)), (w_p1 (by decide) (Or.inr rfl) (w_p1 (by decide) (Or.inr rfl) e475)), (w_p1 (by decide) (Or.inr rfl) (w_p1 (by decide) (Or.inr rfl) e476)), (w_p1 (by decide) (Or.inr rfl) (w_p1 (by decide) (Or.inr rfl) e477)), (w_p1 (by decide) (Or.inr rfl) (w_p1 (by decide) (Or.inr rfl) e478)), (w_p1 (by decide) (Or.inr rfl) (w_p1 (by decide) (Or.inr rfl) e479)), (w_e1 _ _ _), by omega⟩ ⟨by omega, by omega⟩
          · have c516_ : v515.toInt = 0 := en_k_ne_f c516
            refine At.enter rfl ?_
            refine r_iload_n (w_p1 (by decide) (Or.inr rfl) e472) ?_
            refine r_iconst 2 rfl ?_
            refine r_ics 220 rfl (fun c518 => ?_) (fun c518 => ?_)
            · have c518_ : a1.toInt ≠ 2 := en_i_ne_t c518
              refine At.enter rfl ?_
              refine r_aload_n (w_p1 (by decide) (Or.inr rfl) e471) ?_
              refine r_aload (w_p1 (by decide) (Or.inr rfl) e479) ?_
              refine r_aload (w_p1 (by decide) (Or.inr rfl) e479) ?_
              refine q_getR (Sh.ref hI508.1 (Lw.ko hr407) rfl) ?_
              refine r_iload (w_p1 (by decide) (Or.inr rfl) e480) ?_
              refine q_iald' (Sh.arr hI508.1 (Lw.k4 hr407)) x464.toInt rfl (by omega) (fun v519 hv519 => ?_)
              refine r_aload (w_p1 (by decide) (Or.inr rfl) e479) ?_
              refine q_getR (Sh.ref hI508.1 (Lw.ko hr407) rfl) ?_
              refine r_iload (w_p1 (by decide) (Or.inr rfl) e480) ?_
              refine q_iald' (Sh.arr hI508.1 (Lw.k5 hr407)) x464.toInt rfl (by omega) (fun v520 hv520 => ?_)
              refine r_callV 246 rfl [.ref 185, .ref (v406), .int v519, .int v520] [] (Nat.le_of_ble_eq_true rfl) rfl (T_X3_worth_185 _ hI508 (v406) hr407 v519 v520) ?_
              rintro _ _ ⟨g521, rfl, hI522, hF523, v524, rfl, hr525⟩
              refine At.stl ?_
              have hF526 := Fr.tr hF512 hF523 rfl rfl
              refine At.enter rfl ?_
              refine r_lstore _ rfl ?_
              refine r_aload_n (w_p2 (by decide) (by decide) (Or.inr rfl) (w_p1 (by decide) (Or.inr rfl) e471)) ?_
              obtain ⟨v527, hv527⟩ : ∃ v, gI g521 185 3 = v := ⟨_, rfl⟩
              refine q_getI (Sh.int hI522.1 kx_185 rfl) v527 hv527 ?_
              refine r_ifs 255 rfl (fun c528 => ?_) (fun c528 => ?_)
              · have c528_ : v527.toInt ≠ 0 := en_k_ne_t c528
                refine At.enter rfl ?_
                refine q_iinc (w_p2 (by decide) (by decide) (Or.inr rfl) (w_p1 (by decide) (Or.inr rfl) e480)) (x464.toInt + (-1)) rfl (by omega) (fun v529 hv529 => ?_)
                refine r_goto ?_
                exact ih470 (v529.toInt - (-1)) _ _ ⟨v529, by first | rfl | omega, hI522, hF526, (w_p1 (by decide) (Or.inr rfl) (w_p2 (by decide) (by decide) (Or.inr rfl) (w_p1 (by decide) (Or.inr rfl) e471))), (w_p1 (by decide) (Or.inr rfl) (w_p2 (by decide) (by decide) (Or.inr rfl) (w_p1 (by decide) (Or.inr rfl) e472))), (w_p1 (by decide) (Or.inr rfl) (w_p2 (by decide) (by decide) (Or.inr rfl) (w_p1 (by decide) (Or.inr rfl) e473))), (w_p1 (by decide) (Or.inr rfl) (w_p2 (by decide) (by decide) (Or.inr rfl) (w_p1 (by decide) (Or.inr rfl) e474))), (w_p1 (by decide) (Or.inr rfl) (w_p2 (by decide) (by decide) (Or.inr rfl) (w_p1 (by decide) (Or.inr rfl) e475))), (w_p1 (by decide) (Or.inr rfl) (w_p2 (by decide) (by decide) (Or.inr rfl) (w_p1 (by decide) (Or.inr rfl) e476))), (w_p1 (by decide) (Or.inr rfl) (w_p2 (by decide) (by decide) (Or.inr rfl) (w_p1 (by decide) (Or.inr rfl) e477))), (w_p1 (by decide) (Or.inr rfl) (w_p2 (by decide) (by decide) (Or.inr rfl) (w_p1 (by decide) (Or.inr rfl) e478))), (w_p1 (by decide) (Or.inr rfl) (w_p2 (by decide) (by decide) (Or.inr rfl) (w_p1 (by decide) (Or.inr rfl) e479))), (w_e1 _ _ _), by omega⟩ ⟨by omega, by omega⟩
              · have c528_ : v527.toInt = 0 := en_k_ne_f c528
                refine At.enter rfl ?_
                refine r_lload (w_e2 _ _ _) ?_
                refine r_lret ?_
                exact ⟨_, rfl, hI522, hF526, _, rfl, trivial⟩
            · have c518_ : a1.toInt = 2 := en_i_ne_f c518
              refine At.enter rfl ?_
              refine r_lconst 1 rfl ?_
              refine r_goto ?_
              refine At.enter rfl ?_
              refine r_lstore _ rfl ?_
              refine r_aload_n (w_p2 (by decide) (by decide) (Or.inr rfl) (w_p1 (by decide) (Or.inr rfl) e471)) ?_
              refine q_getI (Sh.int hI508.1 kx_185 rfl) v515 hv515 ?_
              refine r_ifs 255 rfl (fun c530 => ?_) (fun c530 => ?_)
              · have c530_ : v515.toInt ≠ 0 := en_k_ne_t c530
                exfalso; omega
              · have c530_ : v515.toInt = 0 := en_k_ne_f c530
                refine At.enter rfl ?_
                refine r_lload (w_e2 _ _ _) ?_
                refine r_lret ?_
                exact ⟨_, rfl, hI508, hF512, _, rfl, trivial⟩
    · have c487_ : v486.toInt ≠ a1.toInt := en_i_eq_f c487
      refine At.enter rfl ?_
      refine r_goto ?_
      refine At.enter rfl ?_
      refine q_iinc e480 (x464.toInt + (-1)) rfl (by omega) (fun v531 hv531 => ?_)
      refine r_goto ?_
      exact ih470 (v531.toInt - (-1)) _ _ ⟨v531, by first | rfl | omega, hI466, hF467, (w_p1 (by decide) (Or.inr rfl) e471), (w_p1 (by decide) (Or.inr rfl) e472), (w_p1 (by decide) (Or.inr rfl) e473), (w_p1 (by decide) (Or.inr rfl) e474), (w_p1 (by decide) (Or.inr rfl) e475), (w_p1 (by decide) (Or.inr rfl) e476), (w_p1 (by decide) (Or.inr rfl) e477), (w_p1 (by decide) (Or.inr rfl) e478), (w_p1 (by decide) (Or.inr rfl) e479), (w_e1 _ _ _), by omega⟩ ⟨by omega, by omega⟩
