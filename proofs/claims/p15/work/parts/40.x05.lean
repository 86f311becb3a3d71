def F_X3_tells_185 : List (Nat × Nat) := [(185, 3)]
def A_X3_tells_185 : List Nat := []
theorem mf_X0_next_1_1_9 : memF F_X0_next_1 1 9 = false := by decide
theorem mf_X0_about_1_1_9 : memF F_X0_about_1 1 9 = false := by decide
set_option maxRecDepth 100000 in
set_option maxHeartbeats 4000000 in
theorem T_X3_tells_185 (d : Nat) {N : Nat} {g0 : List en_E} (hI0 : HI g0) (a1 : Int32) (a2 : Int32) (a3 : Int32) (a4 : Int32) (a5 : Int32) (a6 : Int32) (a7 : Int32) : Ev (d + 3) 52 [.ref 185, .int a1, .int a2, .int a3, .int a4, .int a5, .int a6, .int a7] (g0, N) (fun w h' => ∃ g', h' = (g', N) ∧ HI g' ∧ Fr F_X3_tells_185 A_X3_tells_185 g0 g' ∧ ∃ r : Int64, w = some (.long r) ∧ True) := by
  have hF0 : Fr F_X3_tells_185 A_X3_tells_185 g0 g0 := Fr.rf
  refine Ev.mk rfl rfl ⟨Nat.le_of_ble_eq_true rfl, Or.inr (q_rc hI0.1 kx_185 rfl)⟩ ?_
  show At _ none _ _ (0, [(0, .ref 185), (1, .int a1), (2, .int a2), (3, .int a3), (4, .int a4), (5, .int a5), (6, .int a6), (7, .int a7)], [], (_, _)) _
  refine At.enter rfl ?_
  refine r_aload_n rfl ?_
  refine q_getR (Sh.ref hI0.1 kx_185 rfl) ?_
  refine r_iconst 0 rfl ?_
  refine r_iload_n rfl ?_
  refine q_i2l (fun v351 hv351 => ?_)
  refine q_last (Sh.lar hI0.1 ka_186) (0) rfl (by decide) ?_
  have hI352 := HI.wK hI0 ka_186 (0) (v351) (by decide)
  have hF353 := Fr.wK (p := 186) (j := 0) (v := v351) hF0
  refine r_aload_n rfl ?_
  refine q_getR (Sh.ref hI352.1 kx_185 rfl) ?_
  refine r_iconst 1 rfl ?_
  refine r_aload_n rfl ?_
  refine q_getR (Sh.ref hI352.1 kx_185 rfl) ?_
  refine r_iload_n rfl ?_
  refine r_iconst 0 rfl ?_
  refine r_callV 22 rfl [.ref 1, .int a2, .int 0] [.int 1, .ref 186] (Nat.le_of_ble_eq_true rfl) rfl (T_X0_about_1 _ hI352 a2 0) ?_
  rintro _ _ ⟨g354, rfl, hI355, hF356, v357, rfl, hr358⟩
  refine At.sti ?_
  have hF359 := Fr.tr hF353 hF356 rfl rfl
  refine At.enter rfl ?_
  refine q_i2l (fun v360 hv360 => ?_)
  refine q_last (Sh.lar hI355.1 ka_186) (1) rfl (by decide) ?_
  have hI361 := HI.wK hI355 ka_186 (1) (v360) (by decide)
  have hF362 := Fr.wK (p := 186) (j := 1) (v := v360) hF359
  refine r_aload_n rfl ?_
  refine q_getR (Sh.ref hI361.1 kx_185 rfl) ?_
  refine r_iconst 2 rfl ?_
  refine r_aload_n rfl ?_
  refine q_getR (Sh.ref hI361.1 kx_185 rfl) ?_
  refine r_iload_n rfl ?_
  refine r_iconst 4 rfl ?_
  refine r_callV 38 rfl [.ref 1, .int a2, .int 4] [.int 2, .ref 186] (Nat.le_of_ble_eq_true rfl) rfl (T_X0_about_1 _ hI361 a2 4) ?_
  rintro _ _ ⟨g363, rfl, hI364, hF365, v366, rfl, hr367⟩
  refine At.sti ?_
  have hF368 := Fr.tr hF362 hF365 rfl rfl
  refine At.enter rfl ?_
  refine q_i2l (fun v369 hv369 => ?_)
  refine q_last (Sh.lar hI364.1 ka_186) (2) rfl (by decide) ?_
  have hI370 := HI.wK hI364 ka_186 (2) (v369) (by decide)
  have hF371 := Fr.wK (p := 186) (j := 2) (v := v369) hF368
  refine r_aload_n rfl ?_
  refine q_getR (Sh.ref hI370.1 kx_185 rfl) ?_
  refine r_iconst 3 rfl ?_
  refine r_iload_n rfl ?_
  refine q_i2l (fun v372 hv372 => ?_)
  refine q_last (Sh.lar hI370.1 ka_186) (3) rfl (by decide) ?_
  have hI373 := HI.wK hI370 ka_186 (3) (v372) (by decide)
  have hF374 := Fr.wK (p := 186) (j := 3) (v := v372) hF371
  refine r_aload_n rfl ?_
  refine q_getR (Sh.ref hI373.1 kx_185 rfl) ?_
  refine r_iconst 4 rfl ?_
  refine r_aload_n rfl ?_
  refine q_getR (Sh.ref hI373.1 kx_185 rfl) ?_
  refine r_iload_n rfl ?_
  refine r_callV 61 rfl [.ref 1, .int a3] [.int 4, .ref 186] (Nat.le_of_ble_eq_true rfl) rfl (T_X0_next_1 _ hI373 a3) ?_
  rintro _ _ ⟨g375, rfl, hI376, hF377, v378, rfl, hr379⟩
  refine At.sti ?_
  have hF380 := Fr.tr hF374 hF377 rfl rfl
  refine At.enter rfl ?_
  refine q_i2l (fun v381 hv381 => ?_)
  refine q_last (Sh.lar hI376.1 ka_186) (4) rfl (by decide) ?_
  have hI382 := HI.wK hI376 ka_186 (4) (v381) (by decide)
  have hF383 := Fr.wK (p := 186) (j := 4) (v := v381) hF380
  refine r_aload_n rfl ?_
  refine q_getR (Sh.ref hI382.1 kx_185 rfl) ?_
  refine r_iconst 5 rfl ?_
  refine r_iload rfl ?_
  refine q_i2l (fun v384 hv384 => ?_)
  refine q_last (Sh.lar hI382.1 ka_186) (5) rfl (by decide) ?_
  have hI385 := HI.wK hI382 ka_186 (5) (v384) (by decide)
  have hF386 := Fr.wK (p := 186) (j := 5) (v := v384) hF383
  refine r_aload_n rfl ?_
  refine q_getR (Sh.ref hI385.1 kx_185 rfl) ?_
  refine r_bipush 6 rfl ?_
  refine r_iload rfl ?_
  refine q_i2l (fun v387 hv387 => ?_)
  refine q_last (Sh.lar hI385.1 ka_186) (6) rfl (by decide) ?_
  have hI388 := HI.wK hI385 ka_186 (6) (v387) (by decide)
  have hF389 := Fr.wK (p := 186) (j := 6) (v := v387) hF386
  refine r_aload_n rfl ?_
  refine q_getR (Sh.ref hI388.1 kx_185 rfl) ?_
  refine r_bipush 7 rfl ?_
  refine r_iload rfl ?_
  refine q_i2l (fun v390 hv390 => ?_)
  refine q_last (Sh.lar hI388.1 ka_186) (7) rfl (by decide) ?_
  have hI391 := HI.wK hI388 ka_186 (7) (v390) (by decide)
  have hF392 := Fr.wK (p := 186) (j := 7) (v := v390) hF389
  refine r_aload_n rfl ?_
  refine q_getR (Sh.ref hI391.1 kx_185 rfl) ?_
  refine r_bipush 8 rfl ?_
  refine r_iload rfl ?_
  refine q_i2l (fun v393 hv393 => ?_)
  refine q_last (Sh.lar hI391.1 ka_186) (8) rfl (by decide) ?_
  have hI394 := HI.wK hI391 ka_186 (8) (v393) (by decide)
  have hF395 := Fr.wK (p := 186) (j := 8) (v := v393) hF392
  refine r_aload_n rfl ?_
  refine q_getR (Sh.ref hI394.1 kx_185 rfl) ?_
  refine q_inlV 109 rfl [.ref 1] [] (Nat.le_of_ble_eq_true rfl) rfl ?_
  refine Ev.mk rfl rfl ⟨Nat.le_of_ble_eq_true rfl, Or.inr (q_rc hI394.1 kx_1 rfl)⟩ ?_
  show At _ none _ _ (0, [(0, .ref 1)], [], (_, _)) _
  refine At.enter rfl ?_
  refine r_aload_n rfl ?_
  refine r_aload_n rfl ?_
  obtain ⟨v396, hv396⟩ : ∃ v, gI g0 1 9 = v := ⟨_, rfl⟩
  refine q_getI (Sh.int hI394.1 kx_1 rfl) v396 (((gI_sX).trans ((gI_sX).trans ((gI_sX).trans ((gI_sX).trans ((gI_sX).trans ((hF377.1 1 9 mf_X0_next_1_1_9).trans ((gI_sX).trans ((gI_sX).trans ((hF365.1 1 9 mf_X0_about_1_1_9).trans ((gI_sX).trans ((hF356.1 1 9 mf_X0_about_1_1_9).trans (gI_sX)))))))))))).trans hv396) ?_
  refine r_callV 8 rfl [.ref 1, .int v396] [] (Nat.le_of_ble_eq_true rfl) rfl (T_X0_lawAt_1 _ hI394 v396) ?_
  rintro _ _ ⟨g397, rfl, hI398, hF399, v400, rfl, hr401⟩
  refine At.str ?_
  have hF402 := Fr.tr hF395 hF399 rfl rfl
  refine At.enter rfl ?_
  refine q_aret ?_
  refine At.enter rfl ?_
  refine r_astore ([(8, .ref (v400)), (0, .ref 185), (1, .int a1), (2, .int a2), (3, .int a3), (4, .int a4), (5, .int a5), (6, .int a6), (7, .int a7)]) rfl ?_
  refine r_aload rfl ?_
  refine q_getI' (Sh.int hI398.1 (Lw.ko hr401) rfl) (fun v403 hv403 => ?_)
  have rv403 := RgF.at hI398.2.1 (Lw.r3 hr401)
  rw [hv403] at rv403
  dsimp only at rv403
  refine r_bipush 12 rfl ?_
  refine q_mmin rfl (Nat.le_of_ble_eq_true rfl) (fun v404 hv404 => ?_)
  have zv405 : (12 : Int32).toInt = 12 := rfl
  refine r_iconst 1 rfl ?_
  refine q_isub (v404.toInt - 1) rfl (by omega) (fun v406 hv406 => ?_)
  refine r_istore ([(9, .int v406), (8, .ref (v400)), (0, .ref 185), (1, .int a1), (2, .int a2), (3, .int a3), (4, .int a4), (5, .int a5), (6, .int a6), (7, .int a7)]) rfl ?_
  refine Ar.fall 125 rfl ?_
  refine w_loopI (fun n_ l_ g_ => ∃ x458 : Int32, n_ = x458.toInt - (-1) ∧ HI g_ ∧ Fr F_X3_tells_185 A_X3_tells_185 g0 g_ ∧ en_get 0 l_ = some (.ref 185) ∧ en_get 1 l_ = some (.int a1) ∧ en_get 2 l_ = some (.int a2) ∧ en_get 3 l_ = some (.int a3) ∧ en_get 4 l_ = some (.int a4) ∧ en_get 5 l_ = some (.int a5) ∧ en_get 6 l_ = some (.int a6) ∧ en_get 7 l_ = some (.int a7) ∧ en_get 8 l_ = some (.ref (v400)) ∧ en_get 9 l_ = some (.int x458) ∧ ((-1) ≤ x458.toInt ∧ x458.toInt ≤ 11)) ?_ (v406.toInt - (-1)) ⟨v406, by first | rfl | omega, hI398, hF402, rfl, rfl, rfl, rfl, rfl, rfl, rfl, rfl, rfl, rfl, by omega⟩
  rintro n463 l462 g459 ⟨x458, hm476, hI460, hF461, e465, e466, e467, e468, e469, e470, e471, e472, e473, e474, r475⟩ ih464
  refine At.enter rfl ?_
  refine r_iload e474 ?_
  refine r_ifs 130 rfl (fun c477 => ?_) (fun c477 => ?_)
  · have c477_ : x458.toInt < 0 := en_k_lt_t c477
    refine At.enter rfl ?_
    refine r_iload_n e466 ?_
    refine r_iconst 1 rfl ?_
    refine r_ics 269 rfl (fun c478 => ?_) (fun c478 => ?_)
    · have c478_ : a1.toInt ≠ 1 := en_i_ne_t c478
      refine At.enter rfl ?_
      refine r_lconst 0 rfl ?_
      refine Ar.fall 276 rfl ?_
      refine At.enter rfl ?_
      refine r_lret ?_
      exact ⟨_, rfl, hI460, hF461, _, rfl, trivial⟩
    · have c478_ : a1.toInt = 1 := en_i_ne_f c478
      refine At.enter rfl ?_
      refine r_iload e472 ?_
      refine q_i2l (fun v479 hv479 => ?_)
      refine r_goto ?_
      refine At.enter rfl ?_
      refine r_lret ?_
      exact ⟨_, rfl, hI460, hF461, _, rfl, trivial⟩
  · have c477_ : x458.toInt ≥ 0 := en_k_lt_f c477
    refine At.enter rfl ?_
    refine r_aload e473 ?_
    refine q_getR (Sh.ref hI460.1 (Lw.ko hr401) rfl) ?_
    refine r_iload e474 ?_
    refine q_iald' (Sh.arr hI460.1 (Lw.k3 hr401)) x458.toInt rfl (by omega) (fun v480 hv480 => ?_)
    refine r_iload_n e466 ?_
    refine r_ics 142 rfl (fun c481 => ?_) (fun c481 => ?_)
    · have c481_ : v480.toInt = a1.toInt := en_i_eq_t c481
      refine At.enter rfl ?_
      refine r_aload_n e465 ?_
      refine r_iconst 0 rfl ?_
      refine q_putI (Sh.int hI460.1 kx_185 rfl) rfl ?_
      have hI482 := HI.wI0 hI460 kx_185 rfl (p := 185) (b := 3) (v := 0) rfl
      have hF483 := Fr.wI (p := 185) (b := 3) (v := 0) hF461 rfl
      refine r_aload e473 ?_
      refine q_getR (Sh.ref hI482.1 (Lw.ko hr401) rfl) ?_
      refine r_iload e474 ?_
      refine q_iald' (Sh.arr hI482.1 (Lw.k5 hr401)) x458.toInt rfl (by omega) (fun v484 hv484 => ?_)
      refine r_aload e473 ?_
      refine q_getR (Sh.ref hI482.1 (Lw.ko hr401) rfl) ?_
      refine r_iload e474 ?_
      refine q_iald' (Sh.arr hI482.1 (Lw.k6 hr401)) x458.toInt rfl (by omega) (fun v485 hv485 => ?_)
      refine r_ics 169 rfl (fun c486 => ?_) (fun c486 => ?_)
      · have c486_ : v484.toInt = v485.toInt := en_i_eq_t c486
        refine At.enter rfl ?_
        refine r_iconst 1 rfl ?_
        refine r_goto ?_
        refine At.enter rfl ?_
        refine r_istore _ rfl ?_
        refine r_iload (w_e1 _ _ _) ?_
        refine r_iff 208 rfl (by decide) ?_
        refine At.enter rfl ?_
        refine r_aload_n (w_p1 (by decide) (Or.inr rfl) e465) ?_
        refine q_getI (Sh.int hI482.1 kx_185 rfl) 0 (gI_sI_eq hI460.1 kx_185 rfl _) ?_
        refine r_iff 215 rfl (by decide) ?_
        refine At.enter rfl ?_
        refine r_iload_n (w_p1 (by decide) (Or.inr rfl) e466) ?_
        refine r_iconst 2 rfl ?_
        refine r_ics 220 rfl (fun c487 => ?_) (fun c487 => ?_)
        · have c487_ : a1.toInt ≠ 2 := en_i_ne_t c487
          refine At.enter rfl ?_
          refine r_aload_n (w_p1 (by decide) (Or.inr rfl) e465) ?_
          refine r_aload (w_p1 (by decide) (Or.inr rfl) e473) ?_
          refine r_aload (w_p1 (by decide) (Or.inr rfl) e473) ?_
          refine q_getR (Sh.ref hI482.1 (Lw.ko hr401) rfl) ?_
          refine r_iload (w_p1 (by decide) (Or.inr rfl) e474) ?_
          refine q_iald' (Sh.arr hI482.1 (Lw.k4 hr401)) x458.toInt rfl (by omega) (fun v488 hv488 => ?_)
          refine r_aload (w_p1 (by decide) (Or.inr rfl) e473) ?_
          refine q_getR (Sh.ref hI482.1 (Lw.ko hr401) rfl) ?_
          refine r_iload (w_p1 (by decide) (Or.inr rfl) e474) ?_
          refine q_iald' (Sh.arr hI482.1 (Lw.k5 hr401)) x458.toInt rfl (by omega) (fun v489 hv489 => ?_)
          refine r_callV 246 rfl [.ref 185, .ref (v400), .int v488, .int v489] [] (Nat.le_of_ble_eq_true rfl) rfl (T_X3_worth_185 _ hI482 (v400) hr401 v488 v489) ?_
          rintro _ _ ⟨g490, rfl, hI491, hF492, v493, rfl, hr494⟩
          refine At.stl ?_
          have hF495 := Fr.tr hF483 hF492 rfl rfl
          refine At.enter rfl ?_
          refine r_lstore _ rfl ?_
          refine r_aload_n (w_p2 (by decide) (by decide) (Or.inr rfl) (w_p1 (by decide) (Or.inr rfl) e465)) ?_
          obtain ⟨v496, hv496⟩ : ∃ v, gI g490 185 3 = v := ⟨_, rfl⟩
          refine q_getI (Sh.int hI491.1 kx_185 rfl) v496 hv496 ?_
          refine r_ifs 255 rfl (fun c497 => ?_) (fun c497 => ?_)
          · have c497_ : v496.toInt ≠ 0 := en_k_ne_t c497
            refine At.enter rfl ?_
            refine q_iinc (w_p2 (by decide) (by decide) (Or.inr rfl) (w_p1 (by decide) (Or.inr rfl) e474)) (x458.toInt + (-1)) rfl (by omega) (fun v498 hv498 => ?_)
            refine r_goto ?_
            exact ih464 (v498.toInt - (-1)) _ _ ⟨v498, by first | rfl | omega, hI491, hF495, (w_p1 (by decide) (Or.inr rfl) (w_p2 (by decide) (by decide) (Or.inr rfl) (w_p1 (by decide) (Or.inr rfl) e465))), (w_p1 (by decide) (Or.inr rfl) (w_p2 (by decide) (by decide) (Or.inr rfl) (w_p1 (by decide) (Or.inr rfl) e466))), (w_p1 (by decide) (Or.inr rfl) (w_p2 (by decide) (by decide) (Or.inr rfl) (w_p1 (by decide) (Or.inr rfl) e467))), (w_p1 (by decide) (Or.inr rfl) (w_p2 (by decide) (by decide) (Or.inr rfl) (w_p1 (by decide) (Or.inr rfl) e468))), (w_p1 (by decide) (Or.inr rfl) (w_p2 (by decide) (by decide) (Or.inr rfl) (w_p1 (by decide) (Or.inr rfl) e469))), (w_p1 (by decide) (Or.inr rfl) (w_p2 (by decide) (by decide) (Or.inr rfl) (w_p1 (by decide) (Or.inr rfl) e470))), (w_p1 (by decide) (Or.inr rfl) (w_p2 (by decide) (by decide) (Or.inr rfl) (w_p1 (by decide) (Or.inr rfl) e471))), (w_p1 (by decide) (Or.inr rfl) (w_p2 (by decide) (by decide) (Or.inr rfl) (w_p1 (by decide) (Or.inr rfl) e472))), (w_p1 (by decide) (Or.inr rfl) (w_p2 (by decide) (by decide) (Or.inr rfl) (w_p1 (by decide) (Or.inr rfl) e473))), (w_e1 _ _ _), by omega⟩ ⟨by omega, by omega⟩
          · have c497_ : v496.toInt = 0 := en_k_ne_f c497
            refine At.enter rfl ?_
            refine r_lload (w_e2 _ _ _) ?_
            refine r_lret ?_
            exact ⟨_, rfl, hI491, hF495, _, rfl, trivial⟩
        · have c487_ : a1.toInt = 2 := en_i_ne_f c487
          refine At.enter rfl ?_
          refine r_lconst 1 rfl ?_
          refine r_goto ?_
          refine At.enter rfl ?_
          refine r_lstore _ rfl ?_
          refine r_aload_n (w_p2 (by decide) (by decide) (Or.inr rfl) (w_p1 (by decide) (Or.inr rfl) e465)) ?_
          refine q_getI (Sh.int hI482.1 kx_185 rfl) 0 (gI_sI_eq hI460.1 kx_185 rfl _) ?_
          refine r_iff 255 rfl (by decide) ?_
          refine At.enter rfl ?_
          refine r_lload (w_e2 _ _ _) ?_
          refine r_lret ?_
          exact ⟨_, rfl, hI482, hF483, _, rfl, trivial⟩
      · have c486_ : v484.toInt ≠ v485.toInt := en_i_eq_f c486
        refine At.enter rfl ?_
        refine r_aload_n e465 ?_
        refine r_aload e473 ?_
        refine r_aload e473 ?_
        refine q_getR (Sh.ref hI482.1 (Lw.ko hr401) rfl) ?_
        refine r_iload e474 ?_
        refine q_iald' (Sh.arr hI482.1 (Lw.k5 hr401)) x458.toInt rfl (by omega) (fun v499 hv499 => ?_)
        refine r_aload e473 ?_
        refine q_getR (Sh.ref hI482.1 (Lw.ko hr401) rfl) ?_
        refine r_iload e474 ?_
        refine q_iald' (Sh.arr hI482.1 (Lw.k6 hr401)) x458.toInt rfl (by omega) (fun v500 hv500 => ?_)
        refine r_callV 191 rfl [.ref 185, .ref (v400), .int v499, .int v500] [] (Nat.le_of_ble_eq_true rfl) rfl (T_X3_worth_185 _ hI482 (v400) hr401 v499 v500) ?_
        rintro _ _ ⟨g501, rfl, hI502, hF503, v504, rfl, hr505⟩
        refine At.stl ?_
        have hF506 := Fr.tr hF483 hF503 rfl rfl
        refine At.enter rfl ?_
        refine r_lconst 0 rfl ?_
        refine r_lcmp _ rfl ?_
        refine r_ifs 196 rfl (fun c507 => ?_) (fun c507 => ?_)
        · have c507_ : v504.toInt = 0 := en_j_eq_t c507
          refine At.enter rfl ?_
          refine r_iconst 0 rfl ?_
          refine Ar.fall 201 rfl ?_
          refine At.enter rfl ?_
          refine r_istore _ rfl ?_
          refine r_iload (w_e1 _ _ _) ?_
          refine r_ift (by decide) ?_
          refine At.enter rfl ?_
          refine q_iinc (w_p1 (by decide) (Or.inr rfl) e474) (x458.toInt + (-1)) rfl (by omega) (fun v508 hv508 => ?_)
          refine r_goto ?_
          exact ih464 (v508.toInt - (-1)) _ _ ⟨v508, by first | rfl | omega, hI502, hF506, (w_p1 (by decide) (Or.inr rfl) (w_p1 (by decide) (Or.inr rfl) e465)), (w_p1 (by decide) (Or.inr rfl) (w_p1 (by decide) (Or.inr rfl) e466)), (w_p1 (by decide) (Or.inr rfl) (w_p1 (by decide) (Or.inr rfl) e467)), (w_p1 (by decide) (Or.inr rfl) (w_p1 (by decide) (Or.inr rfl) e468)), (w_p1 (by decide) (Or.inr rfl) (w_p1 (by decide) (Or.inr rfl) e469)), (w_p1 (by decide) (Or.inr rfl) (w_p1 (by decide) (Or.inr rfl) e470)), (w_p1 (by decide) (Or.inr rfl) (w_p1 (by decide) (Or.inr rfl) e471)), (w_p1 (by decide) (Or.inr rfl) (w_p1 (by decide) (Or.inr rfl) e472)), (w_p1 (by decide) (Or.inr rfl) (w_p1 (by decide) (Or.inr rfl) e473)), (w_e1 _ _ _), by omega⟩ ⟨by omega, by omega⟩
        · have c507_ : v504.toInt ≠ 0 := en_j_eq_f c507
          refine At.enter rfl ?_
          refine r_iconst 1 rfl ?_
          refine r_goto ?_
          refine At.enter rfl ?_
          refine r_istore _ rfl ?_
          refine r_iload (w_e1 _ _ _) ?_
          refine r_iff 208 rfl (by decide) ?_
          refine At.enter rfl ?_
          refine r_aload_n (w_p1 (by decide) (Or.inr rfl) e465) ?_
          obtain ⟨v509, hv509⟩ : ∃ v, gI g501 185 3 = v := ⟨_, rfl⟩
          refine q_getI (Sh.int hI502.1 kx_185 rfl) v509 hv509 ?_
          refine r_ifs 215 rfl (fun c510 => ?_) (fun c510 => ?_)
          · have c510_ : v509.toInt ≠ 0 := en_k_ne_t c510
            refine At.enter rfl ?_
            refine q_iinc (w_p1 (by decide) (Or.inr rfl) e474) (x458.toInt + (-1)) rfl (by omega) (fun v511 hv511 => ?_)
            refine r_goto ?_
            exact ih464 (v511.toInt - (-1)) _ _ ⟨v511, by first | rfl | omega, hI502, hF506, (w_p1 (by decide) (Or.inr rfl) (w_p1 (by decide) (Or.inr rfl) e465)), (w_p1 (by decide) (Or.inr rfl) (w_p1 (by decide) (Or.inr rfl) e466)), (w_p1 (by decide) (Or.inr rfl) (w_p1 (by decide) (Or.inr rfl) e467)), (w_p1 (by decide) (Or.inr rfl) (w_p1 (by decide) (Or.inr rfl) e468)), (w_p1 (by decide) (Or.inr rfl) (w_p1 (by decide) (Or.inr rfl) e469)), (w_p1 (by decide) (Or.inr rfl) (w_p1 (by decide) (Or.inr rfl) e470)), (w_p1 (by decide) (Or.inr rfl) (w_p1 (by decide) (Or.inr rfl) e471)), (w_p1 (by decide) (Or.inr rfl) (w_p1 (by decide) (Or.inr rfl) e472)), (w_p1 (by decide) (Or.inr rfl) (w_p1 (by decide) (Or.inr rfl) e473)), (w_e1 _ _ _), by omega⟩ ⟨by omega, by omega⟩
          · have c510_ : v509.toInt = 0 := en_k_ne_f c510
            refine At.enter rfl ?_
            refine r_iload_n (w_p1 (by decide) (Or.inr rfl) e466) ?_
            refine r_iconst 2 rfl ?_
            refine r_ics 220 rfl (fun c512 => ?_) (fun c512 => ?_)
            · have c512_ : a1.toInt ≠ 2 := en_i_ne_t c512
              refine At.enter rfl ?_
              refine r_aload_n (w_p1 (by decide) (Or.inr rfl) e465) ?_
              refine r_aload (w_p1 (by decide) (Or.inr rfl) e473) ?_
              refine r_aload (w_p1 (by decide) (Or.inr rfl) e473) ?_
              refine q_getR (Sh.ref hI502.1 (Lw.ko hr401) rfl) ?_
              refine r_iload (w_p1 (by decide) (Or.inr rfl) e474) ?_
              refine q_iald' (Sh.arr hI502.1 (Lw.k4 hr401)) x458.toInt rfl (by omega) (fun v513 hv513 => ?_)
              refine r_aload (w_p1 (by decide) (Or.inr rfl) e473) ?_
              refine q_getR (Sh.ref hI502.1 (Lw.ko hr401) rfl) ?_
              refine r_iload (w_p1 (by decide) (Or.inr rfl) e474) ?_
              refine q_iald' (Sh.arr hI502.1 (Lw.k5 hr401)) x458.toInt rfl (by omega) (fun v514 hv514 => ?_)
              refine r_callV 246 rfl [.ref 185, .ref (v400), .int v513, .int v514] [] (Nat.le_of_ble_eq_true rfl) rfl (T_X3_worth_185 _ hI502 (v400) hr401 v513 v514) ?_
              rintro _ _ ⟨g515, rfl, hI516, hF517, v518, rfl, hr519⟩
              refine At.stl ?_
              have hF520 := Fr.tr hF506 hF517 rfl rfl
              refine At.enter rfl ?_
              refine r_lstore _ rfl ?_
              refine r_aload_n (w_p2 (by decide) (by decide) (Or.inr rfl) (w_p1 (by decide) (Or.inr rfl) e465)) ?_
              obtain ⟨v521, hv521⟩ : ∃ v, gI g515 185 3 = v := ⟨_, rfl⟩
              refine q_getI (Sh.int hI516.1 kx_185 rfl) v521 hv521 ?_
              refine r_ifs 255 rfl (fun c522 => ?_) (fun c522 => ?_)
              · have c522_ : v521.toInt ≠ 0 := en_k_ne_t c522
                refine At.enter rfl ?_
                refine q_iinc (w_p2 (by decide) (by decide) (Or.inr rfl) (w_p1 (by decide) (Or.inr rfl) e474)) (x458.toInt + (-1)) rfl (by omega) (fun v523 hv523 => ?_)
                refine r_goto ?_
                exact ih464 (v523.toInt - (-1)) _ _ ⟨v523, by first | rfl | omega, hI516, hF520, (w_p1 (by decide) (Or.inr rfl) (w_p2 (by decide) (by decide) (Or.inr rfl) (w_p1 (by decide) (Or.inr rfl) e465))), (w_p1 (by decide) (Or.inr rfl) (w_p2 (by decide) (by decide) (Or.inr rfl) (w_p1 (by decide) (Or.inr rfl) e466))), (w_p1 (by decide) (Or.inr rfl) (w_p2 (by decide) (by decide) (Or.inr rfl) (w_p1 (by decide) (Or.inr rfl) e467))), (w_p1 (by decide) (Or.inr rfl) (w_p2 (by decide) (by decide) (Or.inr rfl) (w_p1 (by decide) (Or.inr rfl) e468))), (w_p1 (by decide) (Or.inr rfl) (w_p2 (by decide) (by decide) (Or.inr rfl) (w_p1 (by decide) (Or.inr rfl) e469))), (w_p1 (by decide) (Or.inr rfl) (w_p2 (by decide) (by decide) (Or.inr rfl) (w_p1 (by decide) (Or.inr rfl) e470))), (w_p1 (by decide) (Or.inr rfl) (w_p2 (by decide) (by decide) (Or.inr rfl) (w_p1 (by decide) (Or.inr rfl) e471))), (w_p1 (by decide) (Or.inr rfl) (w_p2 (by decide) (by decide) (Or.inr rfl) (w_p1 (by decide) (Or.inr rfl) e472))), (w_p1 (by decide) (Or.inr rfl) (w_p2 (by decide) (by decide) (Or.inr rfl) (w_p1 (by decide) (Or.inr rfl) e473))), (w_e1 _ _ _), by omega⟩ ⟨by omega, by omega⟩
              · have c522_ : v521.toInt = 0 := en_k_ne_f c522
                refine At.enter rfl ?_
                refine r_lload (w_e2 _ _ _) ?_
                refine r_lret ?_
                exact ⟨_, rfl, hI516, hF520, _, rfl, trivial⟩
            · have c512_ : a1.toInt = 2 := en_i_ne_f c512
              refine At.enter rfl ?_
              refine r_lconst 1 rfl ?_
              refine r_goto ?_
              refine At.enter rfl ?_
              refine r_lstore _ rfl ?_
              refine r_aload_n (w_p2 (by decide) (by decide) (Or.inr rfl) (w_p1 (by decide) (Or.inr rfl) e465)) ?_
              refine q_getI (Sh.int hI502.1 kx_185 rfl) v509 hv509 ?_
              refine r_ifs 255 rfl (fun c524 => ?_) (fun c524 => ?_)
              · have c524_ : v509.toInt ≠ 0 := en_k_ne_t c524
                exfalso; omega
              · have c524_ : v509.toInt = 0 := en_k_ne_f c524
                refine At.enter rfl ?_
                refine r_lload (w_e2 _ _ _) ?_
                refine r_lret ?_
                exact ⟨_, rfl, hI502, hF506, _, rfl, trivial⟩
    · have c481_ : v480.toInt ≠ a1.toInt := en_i_eq_f c481
      refine At.enter rfl ?_
      refine r_goto ?_
      refine At.enter rfl ?_
      refine q_iinc e474 (x458.toInt + (-1)) rfl (by omega) (fun v525 hv525 => ?_)
      refine r_goto ?_
      exact ih464 (v525.toInt - (-1)) _ _ ⟨v525, by first | rfl | omega, hI460, hF461, (w_p1 (by decide) (Or.inr rfl) e465), (w_p1 (by decide) (Or.inr rfl) e466), (w_p1 (by decide) (Or.inr rfl) e467), (w_p1 (by decide) (Or.inr rfl) e468), (w_p1 (by decide) (Or.inr rfl) e469), (w_p1 (by decide) (Or.inr rfl) e470), (w_p1 (by decide) (Or.inr rfl) e471), (w_p1 (by decide) (Or.inr rfl) e472), (w_p1 (by decide) (Or.inr rfl) e473), (w_e1 _ _ _), by omega⟩ ⟨by omega, by omega⟩
