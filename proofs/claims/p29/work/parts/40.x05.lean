def F_X3_tells_185 : List (Nat × Nat) := [(185, 3)]
def A_X3_tells_185 : List Nat := []
theorem ma_X0_about_1_2 : memA A_X0_about_1 2 = false := by decide
theorem mf_X0_about_1_1_0 : memF F_X0_about_1 1 0 = false := by decide
theorem mf_X0_next_1_1_9 : memF F_X0_next_1 1 9 = false := by decide
theorem mf_X0_about_1_1_9 : memF F_X0_about_1 1 9 = false := by decide
set_option maxRecDepth 100000 in
set_option maxHeartbeats 4000000 in
theorem T_X3_tells_185 (d : Nat) {N : Nat} {g0 : List en_E} (hI0 : HI g0) (a1 : Int32) (a2 : Int32) (a3 : Int32) (a4 : Int32) (a5 : Int32) (a6 : Int32) (a7 : Int32) : Ev (d + 3) 52 [.ref 185, .int a1, .int a2, .int a3, .int a4, .int a5, .int a6, .int a7] (g0, N) (fun w h' => ∃ g', h' = (g', N) ∧ HI g' ∧ Fr F_X3_tells_185 A_X3_tells_185 g0 g' ∧ ∃ r : Int64, w = some (.long r) ∧ True ∧ TEL g0 (LATX (gI g0 1 9).toInt) a1.toInt a2.toInt a3.toInt a4.toInt a5.toInt a6.toInt a7.toInt r.toInt) := by
  have hF0 : Fr F_X3_tells_185 A_X3_tells_185 g0 g0 := Fr.rf
  refine Ev.mk rfl rfl ⟨Nat.le_of_ble_eq_true rfl, Or.inr (q_rc hI0.1 kx_185 rfl)⟩ ?_
  show At _ none _ _ (0, [(0, .ref 185), (1, .int a1), (2, .int a2), (3, .int a3), (4, .int a4), (5, .int a5), (6, .int a6), (7, .int a7)], [], (_, _)) _
  refine At.enter rfl ?_
  refine r_aload_n rfl ?_
  refine q_getR (Sh.ref hI0.1 kx_185 rfl) ?_
  refine r_iconst 0 rfl ?_
  refine r_iload_n rfl ?_
  refine q_i2l (fun v375 hv375 => ?_)
  refine q_last (Sh.lar hI0.1 ka_186) (0) rfl (by decide) ?_
  have hI376 := HI.wK hI0 ka_186 (0) (v375) (by decide)
  have hF377 := Fr.wK (p := 186) (j := 0) (v := v375) hF0
  refine r_aload_n rfl ?_
  refine q_getR (Sh.ref hI376.1 kx_185 rfl) ?_
  refine r_iconst 1 rfl ?_
  refine r_aload_n rfl ?_
  refine q_getR (Sh.ref hI376.1 kx_185 rfl) ?_
  refine r_iload_n rfl ?_
  refine r_iconst 0 rfl ?_
  refine r_callV 22 rfl [.ref 1, .int a2, .int 0] [.int 1, .ref 186] (Nat.le_of_ble_eq_true rfl) rfl (T_X0_about_1 _ hI376 a2 0) ?_
  rintro _ _ ⟨g378, rfl, hI379, hF380, v381, rfl, hr382⟩
  refine At.sti ?_
  have ks385 := hr382.2.2
  have hr384 : _ ∧ _ := ⟨hr382.1, hr382.2.1⟩
  have hF383 := Fr.tr hF377 hF380 rfl rfl
  have zv386 : (0 : Int32).toInt = 0 := rfl
  have ab387 : v381.toInt = ABV g0 a2.toInt 0 := ABX_v (show ABX g0 a2.toInt 0 v381.toInt from ABX.c ((gA_sX)) ((gI_sX)) hr384.2)
  refine At.enter rfl ?_
  refine q_i2l (fun v388 hv388 => ?_)
  refine q_last (Sh.lar hI379.1 ka_186) (1) rfl (by decide) ?_
  have hI389 := HI.wK hI379 ka_186 (1) (v388) (by decide)
  have hF390 := Fr.wK (p := 186) (j := 1) (v := v388) hF383
  refine r_aload_n rfl ?_
  refine q_getR (Sh.ref hI389.1 kx_185 rfl) ?_
  refine r_iconst 2 rfl ?_
  refine r_aload_n rfl ?_
  refine q_getR (Sh.ref hI389.1 kx_185 rfl) ?_
  refine r_iload_n rfl ?_
  refine r_iconst 4 rfl ?_
  refine r_callV 38 rfl [.ref 1, .int a2, .int 4] [.int 2, .ref 186] (Nat.le_of_ble_eq_true rfl) rfl (T_X0_about_1 _ hI389 a2 4) ?_
  rintro _ _ ⟨g391, rfl, hI392, hF393, v394, rfl, hr395⟩
  refine At.sti ?_
  have ks398 := hr395.2.2
  have hr397 : _ ∧ _ := ⟨hr395.1, hr395.2.1⟩
  have hF396 := Fr.tr hF390 hF393 rfl rfl
  have zv399 : (4 : Int32).toInt = 4 := rfl
  have ab400 : v394.toInt = ABV g0 a2.toInt 4 := ABX_v (show ABX g0 a2.toInt 4 v394.toInt from ABX.c (((gA_sX).trans ((hF380.2.1 5 ma_X0_about_1_5).trans (gA_sX)))) (((gI_sX).trans ((hF380.1 1 4 mf_X0_about_1_1_4).trans (gI_sX)))) hr397.2)
  refine At.enter rfl ?_
  refine q_i2l (fun v401 hv401 => ?_)
  refine q_last (Sh.lar hI392.1 ka_186) (2) rfl (by decide) ?_
  have hI402 := HI.wK hI392 ka_186 (2) (v401) (by decide)
  have hF403 := Fr.wK (p := 186) (j := 2) (v := v401) hF396
  refine r_aload_n rfl ?_
  refine q_getR (Sh.ref hI402.1 kx_185 rfl) ?_
  refine r_iconst 3 rfl ?_
  refine r_iload_n rfl ?_
  refine q_i2l (fun v404 hv404 => ?_)
  refine q_last (Sh.lar hI402.1 ka_186) (3) rfl (by decide) ?_
  have hI405 := HI.wK hI402 ka_186 (3) (v404) (by decide)
  have hF406 := Fr.wK (p := 186) (j := 3) (v := v404) hF403
  refine r_aload_n rfl ?_
  refine q_getR (Sh.ref hI405.1 kx_185 rfl) ?_
  refine r_iconst 4 rfl ?_
  refine r_aload_n rfl ?_
  refine q_getR (Sh.ref hI405.1 kx_185 rfl) ?_
  refine r_iload_n rfl ?_
  refine r_callV 61 rfl [.ref 1, .int a3] [.int 4, .ref 186] (Nat.le_of_ble_eq_true rfl) rfl (T_X0_next_1 _ hI405 a3) ?_
  rintro _ _ ⟨g407, rfl, hI408, hF409, v410, rfl, hr411⟩
  refine At.sti ?_
  have ks414 := hr411.2.2
  have hr413 : _ ∧ _ := ⟨hr411.1, hr411.2.1⟩
  have hF412 := Fr.tr hF406 hF409 rfl rfl
  have nx415 : v410.toInt = NX g0 a3.toInt := hr413.2.trans (NX.c (((gA_sX).trans ((gA_sX).trans ((hF393.2.1 2 ma_X0_about_1_2).trans ((gA_sX).trans ((hF380.2.1 2 ma_X0_about_1_2).trans (gA_sX))))))) (((gI_sX).trans ((gI_sX).trans ((hF393.1 1 0 mf_X0_about_1_1_0).trans ((gI_sX).trans ((hF380.1 1 0 mf_X0_about_1_1_0).trans (gI_sX))))))))
  refine At.enter rfl ?_
  refine q_i2l (fun v416 hv416 => ?_)
  refine q_last (Sh.lar hI408.1 ka_186) (4) rfl (by decide) ?_
  have hI417 := HI.wK hI408 ka_186 (4) (v416) (by decide)
  have hF418 := Fr.wK (p := 186) (j := 4) (v := v416) hF412
  refine r_aload_n rfl ?_
  refine q_getR (Sh.ref hI417.1 kx_185 rfl) ?_
  refine r_iconst 5 rfl ?_
  refine r_iload rfl ?_
  refine q_i2l (fun v419 hv419 => ?_)
  refine q_last (Sh.lar hI417.1 ka_186) (5) rfl (by decide) ?_
  have hI420 := HI.wK hI417 ka_186 (5) (v419) (by decide)
  have hF421 := Fr.wK (p := 186) (j := 5) (v := v419) hF418
  refine r_aload_n rfl ?_
  refine q_getR (Sh.ref hI420.1 kx_185 rfl) ?_
  refine r_bipush 6 rfl ?_
  refine r_iload rfl ?_
  refine q_i2l (fun v422 hv422 => ?_)
  refine q_last (Sh.lar hI420.1 ka_186) (6) rfl (by decide) ?_
  have hI423 := HI.wK hI420 ka_186 (6) (v422) (by decide)
  have hF424 := Fr.wK (p := 186) (j := 6) (v := v422) hF421
  refine r_aload_n rfl ?_
  refine q_getR (Sh.ref hI423.1 kx_185 rfl) ?_
  refine r_bipush 7 rfl ?_
  refine r_iload rfl ?_
  refine q_i2l (fun v425 hv425 => ?_)
  refine q_last (Sh.lar hI423.1 ka_186) (7) rfl (by decide) ?_
  have hI426 := HI.wK hI423 ka_186 (7) (v425) (by decide)
  have hF427 := Fr.wK (p := 186) (j := 7) (v := v425) hF424
  refine r_aload_n rfl ?_
  refine q_getR (Sh.ref hI426.1 kx_185 rfl) ?_
  refine r_bipush 8 rfl ?_
  refine r_iload rfl ?_
  refine q_i2l (fun v428 hv428 => ?_)
  refine q_last (Sh.lar hI426.1 ka_186) (8) rfl (by decide) ?_
  have hI429 := HI.wK hI426 ka_186 (8) (v428) (by decide)
  have hF430 := Fr.wK (p := 186) (j := 8) (v := v428) hF427
  refine r_aload_n rfl ?_
  refine q_getR (Sh.ref hI429.1 kx_185 rfl) ?_
  refine q_inlV 109 rfl [.ref 1] [] (Nat.le_of_ble_eq_true rfl) rfl ?_
  refine Ev.mk rfl rfl ⟨Nat.le_of_ble_eq_true rfl, Or.inr (q_rc hI429.1 kx_1 rfl)⟩ ?_
  show At _ none _ _ (0, [(0, .ref 1)], [], (_, _)) _
  refine At.enter rfl ?_
  refine r_aload_n rfl ?_
  refine r_aload_n rfl ?_
  obtain ⟨v431, hv431⟩ : ∃ v, gI g0 1 9 = v := ⟨_, rfl⟩
  refine q_getI (Sh.int hI429.1 kx_1 rfl) v431 (((gI_sX).trans ((gI_sX).trans ((gI_sX).trans ((gI_sX).trans ((gI_sX).trans ((hF409.1 1 9 mf_X0_next_1_1_9).trans ((gI_sX).trans ((gI_sX).trans ((hF393.1 1 9 mf_X0_about_1_1_9).trans ((gI_sX).trans ((hF380.1 1 9 mf_X0_about_1_1_9).trans (gI_sX)))))))))))).trans hv431) ?_
  refine r_callV 8 rfl [.ref 1, .int v431] [] (Nat.le_of_ble_eq_true rfl) rfl (T_X0_lawAt_1 _ hI429 v431) ?_
  rintro _ _ ⟨g432, rfl, hI433, hF434, v435, rfl, hr436⟩
  refine At.str ?_
  have ks439 := hr436.2.2
  have hr438 : _ ∧ _ := ⟨hr436.1, hr436.2.1⟩
  have hr438_ := hr438.1
  have hF437 := Fr.tr hF430 hF434 rfl rfl
  refine At.enter rfl ?_
  refine q_aret ?_
  refine At.enter rfl ?_
  refine r_astore ([(8, .ref (v435)), (0, .ref 185), (1, .int a1), (2, .int a2), (3, .int a3), (4, .int a4), (5, .int a5), (6, .int a6), (7, .int a7)]) rfl ?_
  refine r_aload rfl ?_
  refine q_getI' (Sh.int hI433.1 (Lw.ko hr438_) rfl) (fun v440 hv440 => ?_)
  have rv440 := RgF.at hI433.2.1 (Lw.r3 hr438_)
  rw [hv440] at rv440
  dsimp only at rv440
  refine r_bipush 12 rfl ?_
  refine q_mmin rfl (Nat.le_of_ble_eq_true rfl) (fun v441 hv441 => ?_)
  have zv442 : (12 : Int32).toInt = 12 := rfl
  refine r_iconst 1 rfl ?_
  refine q_isub (v441.toInt - 1) rfl (by omega) (fun v443 hv443 => ?_)
  refine r_istore ([(9, .int v443), (8, .ref (v435)), (0, .ref 185), (1, .int a1), (2, .int a2), (3, .int a3), (4, .int a4), (5, .int a5), (6, .int a6), (7, .int a7)]) rfl ?_
  refine Ar.fall 125 rfl ?_
  refine w_loopI (fun n_ l_ g_ => ∃ x495 : Int32, n_ = x495.toInt - (-1) ∧ HI g_ ∧ Fr F_X3_tells_185 A_X3_tells_185 g0 g_ ∧ en_get 0 l_ = some (.ref 185) ∧ en_get 1 l_ = some (.int a1) ∧ en_get 2 l_ = some (.int a2) ∧ en_get 3 l_ = some (.int a3) ∧ en_get 4 l_ = some (.int a4) ∧ en_get 5 l_ = some (.int a5) ∧ en_get 6 l_ = some (.int a6) ∧ en_get 7 l_ = some (.int a7) ∧ en_get 8 l_ = some (.ref (v435)) ∧ en_get 9 l_ = some (.int x495) ∧ ((-1) ≤ x495.toInt ∧ x495.toInt ≤ 11) ∧ (TLI g0 g_ v435 (WWF a2.toInt (ABV g0 a2.toInt 0) (ABV g0 a2.toInt 4) a3.toInt (NX g0 a3.toInt) a4.toInt a5.toInt a6.toInt a7.toInt) a1.toInt (gI g0 v435 3).toInt (x495.toInt + 1) a7.toInt) ∧ (x495.toInt + 1 ≤ (gI g0 v435 3).toInt)) ?_ (v443.toInt - (-1)) ⟨v443, by first | rfl | omega, hI433, hF437, rfl, rfl, rfl, rfl, rfl, rfl, rfl, rfl, rfl, rfl, by omega, (TLI_z (WRX_mk (show (eK _ 186 0).toInt = _ from (congrArg Int64.toInt ((eK_c (ks439 186) _).trans ((eK_neT hI426.1 ka_186 (by decide) (by decide) (by decide)).trans ((eK_neT hI423.1 ka_186 (by decide) (by decide) (by decide)).trans ((eK_neT hI420.1 ka_186 (by decide) (by decide) (by decide)).trans ((eK_neT hI417.1 ka_186 (by decide) (by decide) (by decide)).trans ((eK_neT hI408.1 ka_186 (by decide) (by decide) (by decide)).trans ((eK_c (ks414 186) _).trans ((eK_neT hI402.1 ka_186 (by decide) (by decide) (by decide)).trans ((eK_neT hI392.1 ka_186 (by decide) (by decide) (by decide)).trans ((eK_c (ks398 186) _).trans ((eK_neT hI379.1 ka_186 (by decide) (by decide) (by decide)).trans ((eK_c (ks385 186) _).trans (eK_eqT hI0.1 ka_186 rfl (by decide) (by decide))))))))))))))).trans hv375) (show (eK _ 186 1).toInt = _ from ((congrArg Int64.toInt ((eK_c (ks439 186) _).trans ((eK_neT hI426.1 ka_186 (by decide) (by decide) (by decide)).trans ((eK_neT hI423.1 ka_186 (by decide) (by decide) (by decide)).trans ((eK_neT hI420.1 ka_186 (by decide) (by decide) (by decide)).trans ((eK_neT hI417.1 ka_186 (by decide) (by decide) (by decide)).trans ((eK_neT hI408.1 ka_186 (by decide) (by decide) (by decide)).trans ((eK_c (ks414 186) _).trans ((eK_neT hI402.1 ka_186 (by decide) (by decide) (by decide)).trans ((eK_neT hI392.1 ka_186 (by decide) (by decide) (by decide)).trans ((eK_c (ks398 186) _).trans (eK_eqT hI379.1 ka_186 rfl (by decide) (by decide))))))))))))).trans hv388).trans ab387) (show (eK _ 186 2).toInt = _ from ((congrArg Int64.toInt ((eK_c (ks439 186) _).trans ((eK_neT hI426.1 ka_186 (by decide) (by decide) (by decide)).trans ((eK_neT hI423.1 ka_186 (by decide) (by decide) (by decide)).trans ((eK_neT hI420.1 ka_186 (by decide) (by decide) (by decide)).trans ((eK_neT hI417.1 ka_186 (by decide) (by decide) (by decide)).trans ((eK_neT hI408.1 ka_186 (by decide) (by decide) (by decide)).trans ((eK_c (ks414 186) _).trans ((eK_neT hI402.1 ka_186 (by decide) (by decide) (by decide)).trans (eK_eqT hI392.1 ka_186 rfl (by decide) (by decide))))))))))).trans hv401).trans ab400) (show (eK _ 186 3).toInt = _ from (congrArg Int64.toInt ((eK_c (ks439 186) _).trans ((eK_neT hI426.1 ka_186 (by decide) (by decide) (by decide)).trans ((eK_neT hI423.1 ka_186 (by decide) (by decide) (by decide)).trans ((eK_neT hI420.1 ka_186 (by decide) (by decide) (by decide)).trans ((eK_neT hI417.1 ka_186 (by decide) (by decide) (by decide)).trans ((eK_neT hI408.1 ka_186 (by decide) (by decide) (by decide)).trans ((eK_c (ks414 186) _).trans (eK_eqT hI402.1 ka_186 rfl (by decide) (by decide)))))))))).trans hv404) (show (eK _ 186 4).toInt = _ from ((congrArg Int64.toInt ((eK_c (ks439 186) _).trans ((eK_neT hI426.1 ka_186 (by decide) (by decide) (by decide)).trans ((eK_neT hI423.1 ka_186 (by decide) (by decide) (by decide)).trans ((eK_neT hI420.1 ka_186 (by decide) (by decide) (by decide)).trans ((eK_neT hI417.1 ka_186 (by decide) (by decide) (by decide)).trans (eK_eqT hI408.1 ka_186 rfl (by decide) (by decide)))))))).trans hv416).trans nx415) (show (eK _ 186 5).toInt = _ from (congrArg Int64.toInt ((eK_c (ks439 186) _).trans ((eK_neT hI426.1 ka_186 (by decide) (by decide) (by decide)).trans ((eK_neT hI423.1 ka_186 (by decide) (by decide) (by decide)).trans ((eK_neT hI420.1 ka_186 (by decide) (by decide) (by decide)).trans (eK_eqT hI417.1 ka_186 rfl (by decide) (by decide))))))).trans hv419) (show (eK _ 186 6).toInt = _ from (congrArg Int64.toInt ((eK_c (ks439 186) _).trans ((eK_neT hI426.1 ka_186 (by decide) (by decide) (by decide)).trans ((eK_neT hI423.1 ka_186 (by decide) (by decide) (by decide)).trans (eK_eqT hI420.1 ka_186 rfl (by decide) (by decide)))))).trans hv422) (show (eK _ 186 7).toInt = _ from (congrArg Int64.toInt ((eK_c (ks439 186) _).trans ((eK_neT hI426.1 ka_186 (by decide) (by decide) (by decide)).trans (eK_eqT hI423.1 ka_186 rfl (by decide) (by decide))))).trans hv425) (show (eK _ 186 8).toInt = _ from (congrArg Int64.toInt ((eK_c (ks439 186) _).trans (eK_eqT hI426.1 ka_186 rfl (by decide) (by decide)))).trans hv428)) (SMW_mk (show (eK _ 186 0).toInt = _ from (congrArg Int64.toInt ((eK_c (ks439 186) _).trans ((eK_neT hI426.1 ka_186 (by decide) (by decide) (by decide)).trans ((eK_neT hI423.1 ka_186 (by decide) (by decide) (by decide)).trans ((eK_neT hI420.1 ka_186 (by decide) (by decide) (by decide)).trans ((eK_neT hI417.1 ka_186 (by decide) (by decide) (by decide)).trans ((eK_neT hI408.1 ka_186 (by decide) (by decide) (by decide)).trans ((eK_c (ks414 186) _).trans ((eK_neT hI402.1 ka_186 (by decide) (by decide) (by decide)).trans ((eK_neT hI392.1 ka_186 (by decide) (by decide) (by decide)).trans ((eK_c (ks398 186) _).trans ((eK_neT hI379.1 ka_186 (by decide) (by decide) (by decide)).trans ((eK_c (ks385 186) _).trans (eK_eqT hI0.1 ka_186 rfl (by decide) (by decide))))))))))))))).trans hv375) (show (eK _ 186 1).toInt = _ from ((congrArg Int64.toInt ((eK_c (ks439 186) _).trans ((eK_neT hI426.1 ka_186 (by decide) (by decide) (by decide)).trans ((eK_neT hI423.1 ka_186 (by decide) (by decide) (by decide)).trans ((eK_neT hI420.1 ka_186 (by decide) (by decide) (by decide)).trans ((eK_neT hI417.1 ka_186 (by decide) (by decide) (by decide)).trans ((eK_neT hI408.1 ka_186 (by decide) (by decide) (by decide)).trans ((eK_c (ks414 186) _).trans ((eK_neT hI402.1 ka_186 (by decide) (by decide) (by decide)).trans ((eK_neT hI392.1 ka_186 (by decide) (by decide) (by decide)).trans ((eK_c (ks398 186) _).trans (eK_eqT hI379.1 ka_186 rfl (by decide) (by decide))))))))))))).trans hv388).trans ab387) (show (eK _ 186 2).toInt = _ from ((congrArg Int64.toInt ((eK_c (ks439 186) _).trans ((eK_neT hI426.1 ka_186 (by decide) (by decide) (by decide)).trans ((eK_neT hI423.1 ka_186 (by decide) (by decide) (by decide)).trans ((eK_neT hI420.1 ka_186 (by decide) (by decide) (by decide)).trans ((eK_neT hI417.1 ka_186 (by decide) (by decide) (by decide)).trans ((eK_neT hI408.1 ka_186 (by decide) (by decide) (by decide)).trans ((eK_c (ks414 186) _).trans ((eK_neT hI402.1 ka_186 (by decide) (by decide) (by decide)).trans (eK_eqT hI392.1 ka_186 rfl (by decide) (by decide))))))))))).trans hv401).trans ab400) (show (eK _ 186 3).toInt = _ from (congrArg Int64.toInt ((eK_c (ks439 186) _).trans ((eK_neT hI426.1 ka_186 (by decide) (by decide) (by decide)).trans ((eK_neT hI423.1 ka_186 (by decide) (by decide) (by decide)).trans ((eK_neT hI420.1 ka_186 (by decide) (by decide) (by decide)).trans ((eK_neT hI417.1 ka_186 (by decide) (by decide) (by decide)).trans ((eK_neT hI408.1 ka_186 (by decide) (by decide) (by decide)).trans ((eK_c (ks414 186) _).trans (eK_eqT hI402.1 ka_186 rfl (by decide) (by decide)))))))))).trans hv404) (show (eK _ 186 4).toInt = _ from ((congrArg Int64.toInt ((eK_c (ks439 186) _).trans ((eK_neT hI426.1 ka_186 (by decide) (by decide) (by decide)).trans ((eK_neT hI423.1 ka_186 (by decide) (by decide) (by decide)).trans ((eK_neT hI420.1 ka_186 (by decide) (by decide) (by decide)).trans ((eK_neT hI417.1 ka_186 (by decide) (by decide) (by decide)).trans (eK_eqT hI408.1 ka_186 rfl (by decide) (by decide)))))))).trans hv416).trans nx415) (show (eK _ 186 5).toInt = _ from (congrArg Int64.toInt ((eK_c (ks439 186) _).trans ((eK_neT hI426.1 ka_186 (by decide) (by decide) (by decide)).trans ((eK_neT hI423.1 ka_186 (by decide) (by decide) (by decide)).trans ((eK_neT hI420.1 ka_186 (by decide) (by decide) (by decide)).trans (eK_eqT hI417.1 ka_186 rfl (by decide) (by decide))))))).trans hv419) (show (eK _ 186 6).toInt = _ from (congrArg Int64.toInt ((eK_c (ks439 186) _).trans ((eK_neT hI426.1 ka_186 (by decide) (by decide) (by decide)).trans ((eK_neT hI423.1 ka_186 (by decide) (by decide) (by decide)).trans (eK_eqT hI420.1 ka_186 rfl (by decide) (by decide)))))).trans hv422) (show (eK _ 186 7).toInt = _ from (congrArg Int64.toInt ((eK_c (ks439 186) _).trans ((eK_neT hI426.1 ka_186 (by decide) (by decide) (by decide)).trans (eK_eqT hI423.1 ka_186 rfl (by decide) (by decide))))).trans hv425) (show (eK _ 186 8).toInt = _ from (congrArg Int64.toInt ((eK_c (ks439 186) _).trans (eK_eqT hI426.1 ka_186 rfl (by decide) (by decide)))).trans hv428) (by have b2 := q_bnd a2; have b3 := q_bnd a3; have b4 := q_bnd a4; have b5 := q_bnd a5; have b6 := q_bnd a6; have b7 := q_bnd a7; have c0 := q_bnd v381; have c1 := q_bnd v394; have c2 := q_bnd v410; omega)) (by have hn := (show (gI g0 v435 3).toInt = v440.toInt from congrArg Int32.toInt ((hF437.1 _ 3 (LwF hr438_ rfl)).symm.trans hv440)); omega)), (by have hn := (show (gI g0 v435 3).toInt = v440.toInt from congrArg Int32.toInt ((hF437.1 _ 3 (LwF hr438_ rfl)).symm.trans hv440)); omega)⟩
  rintro n500 l499 g496 ⟨x495, hm515, hI497, hF498, e502, e503, e504, e505, e506, e507, e508, e509, e510, e511, r512, q513, q514⟩ ih501
  refine At.enter rfl ?_
  refine r_iload e511 ?_
  refine r_ifs 130 rfl (fun c516 => ?_) (fun c516 => ?_)
  · have c516_ : x495.toInt < 0 := en_k_lt_t c516
    refine At.enter rfl ?_
    refine r_iload_n e503 ?_
    refine r_iconst 1 rfl ?_
    refine r_ics 269 rfl (fun c517 => ?_) (fun c517 => ?_)
    · have c517_ : a1.toInt ≠ 1 := en_i_ne_t c517
      refine At.enter rfl ?_
      refine r_lconst 0 rfl ?_
      refine Ar.fall 276 rfl ?_
      refine At.enter rfl ?_
      refine r_lret ?_
      exact ⟨_, rfl, hI497, hF498, _, rfl, trivial, (by rw [← show v435 = LATX (gI g0 1 9).toInt from by rw [hv431]; exact hr438.2]; exact (by first | exact (fun h1 L => absurd h1 (by omega)) | exact (fun h1 L => TLI_end q513 (by omega) h1 (by omega) L)))⟩
    · have c517_ : a1.toInt = 1 := en_i_ne_f c517
      refine At.enter rfl ?_
      refine r_iload e509 ?_
      refine q_i2l (fun v518 hv518 => ?_)
      refine r_goto ?_
      refine At.enter rfl ?_
      refine r_lret ?_
      exact ⟨_, rfl, hI497, hF498, _, rfl, trivial, (by rw [← show v435 = LATX (gI g0 1 9).toInt from by rw [hv431]; exact hr438.2]; exact (by first | exact (fun h1 L => absurd h1 (by omega)) | exact (fun h1 L => TLI_end q513 (by omega) h1 (by omega) L)))⟩
  · have c516_ : x495.toInt ≥ 0 := en_k_lt_f c516
    refine At.enter rfl ?_
    refine r_aload e510 ?_
    refine q_getR (Sh.ref hI497.1 (Lw.ko hr438_) rfl) ?_
    refine r_iload e511 ?_
    refine q_iald' (Sh.arr hI497.1 (Lw.k3 hr438_)) x495.toInt rfl (by omega) (fun v519 hv519 => ?_)
    refine r_iload_n e503 ?_
    refine r_ics 142 rfl (fun c520 => ?_) (fun c520 => ?_)
    · have c520_ : v519.toInt = a1.toInt := en_i_eq_t c520
      refine At.enter rfl ?_
      refine r_aload_n e502 ?_
      refine r_iconst 0 rfl ?_
      refine q_putI (Sh.int hI497.1 kx_185 rfl) rfl ?_
      have hI521 := HI.wI0 hI497 kx_185 rfl (p := 185) (b := 3) (v := 0) rfl
      have hF522 := Fr.wI (p := 185) (b := 3) (v := 0) hF498 rfl
      refine r_aload e510 ?_
      refine q_getR (Sh.ref hI521.1 (Lw.ko hr438_) rfl) ?_
      refine r_iload e511 ?_
      refine q_iald' (Sh.arr hI521.1 (Lw.k5 hr438_)) x495.toInt rfl (by omega) (fun v523 hv523 => ?_)
      refine r_aload e510 ?_
      refine q_getR (Sh.ref hI521.1 (Lw.ko hr438_) rfl) ?_
      refine r_iload e511 ?_
      refine q_iald' (Sh.arr hI521.1 (Lw.k6 hr438_)) x495.toInt rfl (by omega) (fun v524 hv524 => ?_)
      refine r_ics 169 rfl (fun c525 => ?_) (fun c525 => ?_)
      · have c525_ : v523.toInt = v524.toInt := en_i_eq_t c525
        refine At.enter rfl ?_
        refine r_iconst 1 rfl ?_
        refine r_goto ?_
        refine At.enter rfl ?_
        refine r_istore _ rfl ?_
        refine r_iload (w_e1 _ _ _) ?_
        refine r_iff 208 rfl (by decide) ?_
        refine At.enter rfl ?_
        refine r_aload_n (w_p1 (by decide) (Or.inr rfl) e502) ?_
        refine q_getI (Sh.int hI521.1 kx_185 rfl) 0 (gI_sI_eq hI497.1 kx_185 rfl _) ?_
        refine r_iff 215 rfl (by decide) ?_
        refine At.enter rfl ?_
        refine r_iload_n (w_p1 (by decide) (Or.inr rfl) e503) ?_
        refine r_iconst 2 rfl ?_
        refine r_ics 220 rfl (fun c526 => ?_) (fun c526 => ?_)
        · have c526_ : a1.toInt ≠ 2 := en_i_ne_t c526
          refine At.enter rfl ?_
          refine r_aload_n (w_p1 (by decide) (Or.inr rfl) e502) ?_
          refine r_aload (w_p1 (by decide) (Or.inr rfl) e510) ?_
          refine r_aload (w_p1 (by decide) (Or.inr rfl) e510) ?_
          refine q_getR (Sh.ref hI521.1 (Lw.ko hr438_) rfl) ?_
          refine r_iload (w_p1 (by decide) (Or.inr rfl) e511) ?_
          refine q_iald' (Sh.arr hI521.1 (Lw.k4 hr438_)) x495.toInt rfl (by omega) (fun v527 hv527 => ?_)
          refine r_aload (w_p1 (by decide) (Or.inr rfl) e510) ?_
          refine q_getR (Sh.ref hI521.1 (Lw.ko hr438_) rfl) ?_
          refine r_iload (w_p1 (by decide) (Or.inr rfl) e511) ?_
          refine q_iald' (Sh.arr hI521.1 (Lw.k5 hr438_)) x495.toInt rfl (by omega) (fun v528 hv528 => ?_)
          refine r_callV 246 rfl [.ref 185, .ref (v435), .int v527, .int v528] [] (Nat.le_of_ble_eq_true rfl) rfl (T_X3_worth_185 _ hI521 (v435) hr438_ v527 v528) ?_
          rintro _ _ ⟨g529, rfl, hI530, hF531, v532, rfl, hr533⟩
          refine At.stl ?_
          have hF534 := Fr.tr hF522 hF531 rfl rfl
          refine At.enter rfl ?_
          refine r_lstore _ rfl ?_
          refine r_aload_n (w_p2 (by decide) (by decide) (Or.inr rfl) (w_p1 (by decide) (Or.inr rfl) e502)) ?_
          obtain ⟨v535, hv535⟩ : ∃ v, gI g529 185 3 = v := ⟨_, rfl⟩
          refine q_getI (Sh.int hI530.1 kx_185 rfl) v535 hv535 ?_
          refine r_ifs 255 rfl (fun c536 => ?_) (fun c536 => ?_)
          · have c536_ : v535.toInt ≠ 0 := en_k_ne_t c536
            refine At.enter rfl ?_
            refine q_iinc (w_p2 (by decide) (by decide) (Or.inr rfl) (w_p1 (by decide) (Or.inr rfl) e511)) (x495.toInt + (-1)) rfl (by omega) (fun v537 hv537 => ?_)
            refine r_goto ?_
            exact ih501 (v537.toInt - (-1)) _ _ ⟨v537, by first | rfl | omega, hI530, hF534, (w_p1 (by decide) (Or.inr rfl) (w_p2 (by decide) (by decide) (Or.inr rfl) (w_p1 (by decide) (Or.inr rfl) e502))), (w_p1 (by decide) (Or.inr rfl) (w_p2 (by decide) (by decide) (Or.inr rfl) (w_p1 (by decide) (Or.inr rfl) e503))), (w_p1 (by decide) (Or.inr rfl) (w_p2 (by decide) (by decide) (Or.inr rfl) (w_p1 (by decide) (Or.inr rfl) e504))), (w_p1 (by decide) (Or.inr rfl) (w_p2 (by decide) (by decide) (Or.inr rfl) (w_p1 (by decide) (Or.inr rfl) e505))), (w_p1 (by decide) (Or.inr rfl) (w_p2 (by decide) (by decide) (Or.inr rfl) (w_p1 (by decide) (Or.inr rfl) e506))), (w_p1 (by decide) (Or.inr rfl) (w_p2 (by decide) (by decide) (Or.inr rfl) (w_p1 (by decide) (Or.inr rfl) e507))), (w_p1 (by decide) (Or.inr rfl) (w_p2 (by decide) (by decide) (Or.inr rfl) (w_p1 (by decide) (Or.inr rfl) e508))), (w_p1 (by decide) (Or.inr rfl) (w_p2 (by decide) (by decide) (Or.inr rfl) (w_p1 (by decide) (Or.inr rfl) e509))), (w_p1 (by decide) (Or.inr rfl) (w_p2 (by decide) (by decide) (Or.inr rfl) (w_p1 (by decide) (Or.inr rfl) e510))), (w_e1 _ _ _), by omega, (by rw [show v537.toInt + 1 = x495.toInt from by omega]; exact (TLI_none (TLI_c (TLI_c q513 gK_sI) hr533.2.1) (by omega) (by omega) (show x495.toInt < (gI g0 v435 3).toInt from by have hn : (gI g0 v435 3).toInt = v440.toInt := congrArg Int32.toInt ((hF437.1 _ 3 (LwF hr438_ rfl)).symm.trans hv440); omega) (fun h1 L => (CLW_bare (by rw [(congrArg Int32.toInt ((eA_c (hF522.2.1 _ rfl)).symm.trans hv523)), (congrArg Int32.toInt ((eA_c (hF522.2.1 _ rfl)).symm.trans hv524))]; omega)).trans (EV_none (WRS_e hr533.2 (congrArg Int32.toInt ((eA_c (hF522.2.1 _ rfl)).symm.trans hv527)) (congrArg Int32.toInt ((eA_c (hF522.2.1 _ rfl)).symm.trans hv528))) (TLI_c q513 gK_sI) (hF522.2.1 _ rfl) (hF522.2.1 _ rfl) (by rw [hv535]; omega) L.1)))), by omega⟩ ⟨by omega, by omega⟩
          · have c536_ : v535.toInt = 0 := en_k_ne_f c536
            refine At.enter rfl ?_
            refine r_lload (w_e2 _ _ _) ?_
            refine r_lret ?_
            exact ⟨_, rfl, hI530, hF534, _, rfl, trivial, (by rw [← show v435 = LATX (gI g0 1 9).toInt from by rw [hv431]; exact hr438.2]; exact (by first | exact (fun h1 L => absurd h1 (by omega)) | exact (fun h1 L => TLI_some (TLI_c (TLI_c q513 gK_sI) hr533.2.1) (by omega) (by omega) (show x495.toInt < (gI g0 v435 3).toInt from by have hn : (gI g0 v435 3).toInt = v440.toInt := congrArg Int32.toInt ((hF437.1 _ 3 (LwF hr438_ rfl)).symm.trans hv440); omega) h1 (by rw [(congrArg Int32.toInt ((eA_c (hF498.2.1 _ rfl)).symm.trans hv519))]; omega) (fun L => (CLW_bare (by rw [(congrArg Int32.toInt ((eA_c (hF522.2.1 _ rfl)).symm.trans hv523)), (congrArg Int32.toInt ((eA_c (hF522.2.1 _ rfl)).symm.trans hv524))]; omega)).trans (EV_some (WRS_e hr533.2 (congrArg Int32.toInt ((eA_c (hF522.2.1 _ rfl)).symm.trans hv527)) (congrArg Int32.toInt ((eA_c (hF522.2.1 _ rfl)).symm.trans hv528))) (TLI_c q513 gK_sI) (hF522.2.1 _ rfl) (hF522.2.1 _ rfl) ((congrArg Int32.toInt hv535).trans (by omega)) L.1)) L)))⟩
        · have c526_ : a1.toInt = 2 := en_i_ne_f c526
          refine At.enter rfl ?_
          refine r_lconst 1 rfl ?_
          refine r_goto ?_
          refine At.enter rfl ?_
          refine r_lstore _ rfl ?_
          refine r_aload_n (w_p2 (by decide) (by decide) (Or.inr rfl) (w_p1 (by decide) (Or.inr rfl) e502)) ?_
          refine q_getI (Sh.int hI521.1 kx_185 rfl) 0 (gI_sI_eq hI497.1 kx_185 rfl _) ?_
          refine r_iff 255 rfl (by decide) ?_
          refine At.enter rfl ?_
          refine r_lload (w_e2 _ _ _) ?_
          refine r_lret ?_
          exact ⟨_, rfl, hI521, hF522, _, rfl, trivial, (by rw [← show v435 = LATX (gI g0 1 9).toInt from by rw [hv431]; exact hr438.2]; exact (by first | exact (fun h1 L => absurd h1 (by omega))))⟩
      · have c525_ : v523.toInt ≠ v524.toInt := en_i_eq_f c525
        refine At.enter rfl ?_
        refine r_aload_n e502 ?_
        refine r_aload e510 ?_
        refine r_aload e510 ?_
        refine q_getR (Sh.ref hI521.1 (Lw.ko hr438_) rfl) ?_
        refine r_iload e511 ?_
        refine q_iald' (Sh.arr hI521.1 (Lw.k5 hr438_)) x495.toInt rfl (by omega) (fun v538 hv538 => ?_)
        refine r_aload e510 ?_
        refine q_getR (Sh.ref hI521.1 (Lw.ko hr438_) rfl) ?_
        refine r_iload e511 ?_
        refine q_iald' (Sh.arr hI521.1 (Lw.k6 hr438_)) x495.toInt rfl (by omega) (fun v539 hv539 => ?_)
        refine r_callV 191 rfl [.ref 185, .ref (v435), .int v538, .int v539] [] (Nat.le_of_ble_eq_true rfl) rfl (T_X3_worth_185 _ hI521 (v435) hr438_ v538 v539) ?_
        rintro _ _ ⟨g540, rfl, hI541, hF542, v543, rfl, hr544⟩
        refine At.stl ?_
        have hF545 := Fr.tr hF522 hF542 rfl rfl
        refine At.enter rfl ?_
        refine r_lconst 0 rfl ?_
        refine r_lcmp _ rfl ?_
        refine r_ifs 196 rfl (fun c546 => ?_) (fun c546 => ?_)
        · have c546_ : v543.toInt = 0 := en_j_eq_t c546
          refine At.enter rfl ?_
          refine r_iconst 0 rfl ?_
          refine Ar.fall 201 rfl ?_
          refine At.enter rfl ?_
          refine r_istore _ rfl ?_
          refine r_iload (w_e1 _ _ _) ?_
          refine r_ift (by decide) ?_
          refine At.enter rfl ?_
          refine q_iinc (w_p1 (by decide) (Or.inr rfl) e511) (x495.toInt + (-1)) rfl (by omega) (fun v547 hv547 => ?_)
          refine r_goto ?_
          exact ih501 (v547.toInt - (-1)) _ _ ⟨v547, by first | rfl | omega, hI541, hF545, (w_p1 (by decide) (Or.inr rfl) (w_p1 (by decide) (Or.inr rfl) e502)), (w_p1 (by decide) (Or.inr rfl) (w_p1 (by decide) (Or.inr rfl) e503)), (w_p1 (by decide) (Or.inr rfl) (w_p1 (by decide) (Or.inr rfl) e504)), (w_p1 (by decide) (Or.inr rfl) (w_p1 (by decide) (Or.inr rfl) e505)), (w_p1 (by decide) (Or.inr rfl) (w_p1 (by decide) (Or.inr rfl) e506)), (w_p1 (by decide) (Or.inr rfl) (w_p1 (by decide) (Or.inr rfl) e507)), (w_p1 (by decide) (Or.inr rfl) (w_p1 (by decide) (Or.inr rfl) e508)), (w_p1 (by decide) (Or.inr rfl) (w_p1 (by decide) (Or.inr rfl) e509)), (w_p1 (by decide) (Or.inr rfl) (w_p1 (by decide) (Or.inr rfl) e510)), (w_e1 _ _ _), by omega, (by rw [show v547.toInt + 1 = x495.toInt from by omega]; exact (TLI_none (TLI_c (TLI_c q513 gK_sI) hr544.2.1) (by omega) (by omega) (show x495.toInt < (gI g0 v435 3).toInt from by have hn : (gI g0 v435 3).toInt = v440.toInt := congrArg Int32.toInt ((hF437.1 _ 3 (LwF hr438_ rfl)).symm.trans hv440); omega) (fun h1 L => by first | exact CLW_no (by rw [(congrArg Int32.toInt ((eA_c (hF522.2.1 _ rfl)).symm.trans hv523)), (congrArg Int32.toInt ((eA_c (hF522.2.1 _ rfl)).symm.trans hv524))]; omega) (WRS_e hr544.2 (congrArg Int32.toInt ((eA_c (hF522.2.1 _ rfl)).symm.trans hv538)) (congrArg Int32.toInt ((eA_c (hF522.2.1 _ rfl)).symm.trans hv539))) (TLI_c q513 gK_sI) (hF522.2.1 _ rfl) (hF522.2.1 _ rfl) (Or.inr (by omega)) L))), by omega⟩ ⟨by omega, by omega⟩
        · have c546_ : v543.toInt ≠ 0 := en_j_eq_f c546
          refine At.enter rfl ?_
          refine r_iconst 1 rfl ?_
          refine r_goto ?_
          refine At.enter rfl ?_
          refine r_istore _ rfl ?_
          refine r_iload (w_e1 _ _ _) ?_
          refine r_iff 208 rfl (by decide) ?_
          refine At.enter rfl ?_
          refine r_aload_n (w_p1 (by decide) (Or.inr rfl) e502) ?_
          obtain ⟨v548, hv548⟩ : ∃ v, gI g540 185 3 = v := ⟨_, rfl⟩
          refine q_getI (Sh.int hI541.1 kx_185 rfl) v548 hv548 ?_
          refine r_ifs 215 rfl (fun c549 => ?_) (fun c549 => ?_)
          · have c549_ : v548.toInt ≠ 0 := en_k_ne_t c549
            refine At.enter rfl ?_
            refine q_iinc (w_p1 (by decide) (Or.inr rfl) e511) (x495.toInt + (-1)) rfl (by omega) (fun v550 hv550 => ?_)
            refine r_goto ?_
            exact ih501 (v550.toInt - (-1)) _ _ ⟨v550, by first | rfl | omega, hI541, hF545, (w_p1 (by decide) (Or.inr rfl) (w_p1 (by decide) (Or.inr rfl) e502)), (w_p1 (by decide) (Or.inr rfl) (w_p1 (by decide) (Or.inr rfl) e503)), (w_p1 (by decide) (Or.inr rfl) (w_p1 (by decide) (Or.inr rfl) e504)), (w_p1 (by decide) (Or.inr rfl) (w_p1 (by decide) (Or.inr rfl) e505)), (w_p1 (by decide) (Or.inr rfl) (w_p1 (by decide) (Or.inr rfl) e506)), (w_p1 (by decide) (Or.inr rfl) (w_p1 (by decide) (Or.inr rfl) e507)), (w_p1 (by decide) (Or.inr rfl) (w_p1 (by decide) (Or.inr rfl) e508)), (w_p1 (by decide) (Or.inr rfl) (w_p1 (by decide) (Or.inr rfl) e509)), (w_p1 (by decide) (Or.inr rfl) (w_p1 (by decide) (Or.inr rfl) e510)), (w_e1 _ _ _), by omega, (by rw [show v550.toInt + 1 = x495.toInt from by omega]; exact (TLI_none (TLI_c (TLI_c q513 gK_sI) hr544.2.1) (by omega) (by omega) (show x495.toInt < (gI g0 v435 3).toInt from by have hn : (gI g0 v435 3).toInt = v440.toInt := congrArg Int32.toInt ((hF437.1 _ 3 (LwF hr438_ rfl)).symm.trans hv440); omega) (fun h1 L => by first | exact CLW_no (by rw [(congrArg Int32.toInt ((eA_c (hF522.2.1 _ rfl)).symm.trans hv523)), (congrArg Int32.toInt ((eA_c (hF522.2.1 _ rfl)).symm.trans hv524))]; omega) (WRS_e hr544.2 (congrArg Int32.toInt ((eA_c (hF522.2.1 _ rfl)).symm.trans hv538)) (congrArg Int32.toInt ((eA_c (hF522.2.1 _ rfl)).symm.trans hv539))) (TLI_c q513 gK_sI) (hF522.2.1 _ rfl) (hF522.2.1 _ rfl) (Or.inr (by omega)) L | exact CLW_no (by rw [(congrArg Int32.toInt ((eA_c (hF522.2.1 _ rfl)).symm.trans hv523)), (congrArg Int32.toInt ((eA_c (hF522.2.1 _ rfl)).symm.trans hv524))]; omega) (WRS_e hr544.2 (congrArg Int32.toInt ((eA_c (hF522.2.1 _ rfl)).symm.trans hv538)) (congrArg Int32.toInt ((eA_c (hF522.2.1 _ rfl)).symm.trans hv539))) (TLI_c q513 gK_sI) (hF522.2.1 _ rfl) (hF522.2.1 _ rfl) (Or.inl (by rw [hv548]; omega)) L))), by omega⟩ ⟨by omega, by omega⟩
          · have c549_ : v548.toInt = 0 := en_k_ne_f c549
            refine At.enter rfl ?_
            refine r_iload_n (w_p1 (by decide) (Or.inr rfl) e503) ?_
            refine r_iconst 2 rfl ?_
            refine r_ics 220 rfl (fun c551 => ?_) (fun c551 => ?_)
            · have c551_ : a1.toInt ≠ 2 := en_i_ne_t c551
              refine At.enter rfl ?_
              refine r_aload_n (w_p1 (by decide) (Or.inr rfl) e502) ?_
              refine r_aload (w_p1 (by decide) (Or.inr rfl) e510) ?_
              refine r_aload (w_p1 (by decide) (Or.inr rfl) e510) ?_
              refine q_getR (Sh.ref hI541.1 (Lw.ko hr438_) rfl) ?_
              refine r_iload (w_p1 (by decide) (Or.inr rfl) e511) ?_
              refine q_iald' (Sh.arr hI541.1 (Lw.k4 hr438_)) x495.toInt rfl (by omega) (fun v552 hv552 => ?_)
              refine r_aload (w_p1 (by decide) (Or.inr rfl) e510) ?_
              refine q_getR (Sh.ref hI541.1 (Lw.ko hr438_) rfl) ?_
              refine r_iload (w_p1 (by decide) (Or.inr rfl) e511) ?_
              refine q_iald' (Sh.arr hI541.1 (Lw.k5 hr438_)) x495.toInt rfl (by omega) (fun v553 hv553 => ?_)
              refine r_callV 246 rfl [.ref 185, .ref (v435), .int v552, .int v553] [] (Nat.le_of_ble_eq_true rfl) rfl (T_X3_worth_185 _ hI541 (v435) hr438_ v552 v553) ?_
              rintro _ _ ⟨g554, rfl, hI555, hF556, v557, rfl, hr558⟩
              refine At.stl ?_
              have hF559 := Fr.tr hF545 hF556 rfl rfl
              refine At.enter rfl ?_
              refine r_lstore _ rfl ?_
              refine r_aload_n (w_p2 (by decide) (by decide) (Or.inr rfl) (w_p1 (by decide) (Or.inr rfl) e502)) ?_
              obtain ⟨v560, hv560⟩ : ∃ v, gI g554 185 3 = v := ⟨_, rfl⟩
              refine q_getI (Sh.int hI555.1 kx_185 rfl) v560 hv560 ?_
              refine r_ifs 255 rfl (fun c561 => ?_) (fun c561 => ?_)
              · have c561_ : v560.toInt ≠ 0 := en_k_ne_t c561
                refine At.enter rfl ?_
                refine q_iinc (w_p2 (by decide) (by decide) (Or.inr rfl) (w_p1 (by decide) (Or.inr rfl) e511)) (x495.toInt + (-1)) rfl (by omega) (fun v562 hv562 => ?_)
                refine r_goto ?_
                exact ih501 (v562.toInt - (-1)) _ _ ⟨v562, by first | rfl | omega, hI555, hF559, (w_p1 (by decide) (Or.inr rfl) (w_p2 (by decide) (by decide) (Or.inr rfl) (w_p1 (by decide) (Or.inr rfl) e502))), (w_p1 (by decide) (Or.inr rfl) (w_p2 (by decide) (by decide) (Or.inr rfl) (w_p1 (by decide) (Or.inr rfl) e503))), (w_p1 (by decide) (Or.inr rfl) (w_p2 (by decide) (by decide) (Or.inr rfl) (w_p1 (by decide) (Or.inr rfl) e504))), (w_p1 (by decide) (Or.inr rfl) (w_p2 (by decide) (by decide) (Or.inr rfl) (w_p1 (by decide) (Or.inr rfl) e505))), (w_p1 (by decide) (Or.inr rfl) (w_p2 (by decide) (by decide) (Or.inr rfl) (w_p1 (by decide) (Or.inr rfl) e506))), (w_p1 (by decide) (Or.inr rfl) (w_p2 (by decide) (by decide) (Or.inr rfl) (w_p1 (by decide) (Or.inr rfl) e507))), (w_p1 (by decide) (Or.inr rfl) (w_p2 (by decide) (by decide) (Or.inr rfl) (w_p1 (by decide) (Or.inr rfl) e508))), (w_p1 (by decide) (Or.inr rfl) (w_p2 (by decide) (by decide) (Or.inr rfl) (w_p1 (by decide) (Or.inr rfl) e509))), (w_p1 (by decide) (Or.inr rfl) (w_p2 (by decide) (by decide) (Or.inr rfl) (w_p1 (by decide) (Or.inr rfl) e510))), (w_e1 _ _ _), by omega, (by rw [show v562.toInt + 1 = x495.toInt from by omega]; exact (TLI_none (TLI_c (TLI_c (TLI_c q513 gK_sI) hr544.2.1) hr558.2.1) (by omega) (by omega) (show x495.toInt < (gI g0 v435 3).toInt from by have hn : (gI g0 v435 3).toInt = v440.toInt := congrArg Int32.toInt ((hF437.1 _ 3 (LwF hr438_ rfl)).symm.trans hv440); omega) (fun h1 L => (CLW_yes (by rw [(congrArg Int32.toInt ((eA_c (hF522.2.1 _ rfl)).symm.trans hv523)), (congrArg Int32.toInt ((eA_c (hF522.2.1 _ rfl)).symm.trans hv524))]; omega) (WRS_e hr544.2 (congrArg Int32.toInt ((eA_c (hF522.2.1 _ rfl)).symm.trans hv538)) (congrArg Int32.toInt ((eA_c (hF522.2.1 _ rfl)).symm.trans hv539))) (TLI_c q513 gK_sI) (hF522.2.1 _ rfl) (hF522.2.1 _ rfl) ((congrArg Int32.toInt hv548).trans (by omega)) (by omega) L).trans (EV_none (WRS_e hr558.2 (congrArg Int32.toInt ((eA_c (hF545.2.1 _ rfl)).symm.trans hv552)) (congrArg Int32.toInt ((eA_c (hF545.2.1 _ rfl)).symm.trans hv553))) (TLI_c (TLI_c q513 gK_sI) hr544.2.1) (hF545.2.1 _ rfl) (hF545.2.1 _ rfl) (by rw [hv560]; omega) L.1)))), by omega⟩ ⟨by omega, by omega⟩
              · have c561_ : v560.toInt = 0 := en_k_ne_f c561
                refine At.enter rfl ?_
                refine r_lload (w_e2 _ _ _) ?_
                refine r_lret ?_
                exact ⟨_, rfl, hI555, hF559, _, rfl, trivial, (by rw [← show v435 = LATX (gI g0 1 9).toInt from by rw [hv431]; exact hr438.2]; exact (by first | exact (fun h1 L => absurd h1 (by omega)) | exact (fun h1 L => TLI_some (TLI_c (TLI_c (TLI_c q513 gK_sI) hr544.2.1) hr558.2.1) (by omega) (by omega) (show x495.toInt < (gI g0 v435 3).toInt from by have hn : (gI g0 v435 3).toInt = v440.toInt := congrArg Int32.toInt ((hF437.1 _ 3 (LwF hr438_ rfl)).symm.trans hv440); omega) h1 (by rw [(congrArg Int32.toInt ((eA_c (hF498.2.1 _ rfl)).symm.trans hv519))]; omega) (fun L => (CLW_yes (by rw [(congrArg Int32.toInt ((eA_c (hF522.2.1 _ rfl)).symm.trans hv523)), (congrArg Int32.toInt ((eA_c (hF522.2.1 _ rfl)).symm.trans hv524))]; omega) (WRS_e hr544.2 (congrArg Int32.toInt ((eA_c (hF522.2.1 _ rfl)).symm.trans hv538)) (congrArg Int32.toInt ((eA_c (hF522.2.1 _ rfl)).symm.trans hv539))) (TLI_c q513 gK_sI) (hF522.2.1 _ rfl) (hF522.2.1 _ rfl) ((congrArg Int32.toInt hv548).trans (by omega)) (by omega) L).trans (EV_some (WRS_e hr558.2 (congrArg Int32.toInt ((eA_c (hF545.2.1 _ rfl)).symm.trans hv552)) (congrArg Int32.toInt ((eA_c (hF545.2.1 _ rfl)).symm.trans hv553))) (TLI_c (TLI_c q513 gK_sI) hr544.2.1) (hF545.2.1 _ rfl) (hF545.2.1 _ rfl) ((congrArg Int32.toInt hv560).trans (by omega)) L.1)) L)))⟩
            · have c551_ : a1.toInt = 2 := en_i_ne_f c551
              refine At.enter rfl ?_
              refine r_lconst 1 rfl ?_
              refine r_goto ?_
              refine At.enter rfl ?_
              refine r_lstore _ rfl ?_
              refine r_aload_n (w_p2 (by decide) (by decide) (Or.inr rfl) (w_p1 (by decide) (Or.inr rfl) e502)) ?_
              refine q_getI (Sh.int hI541.1 kx_185 rfl) v548 hv548 ?_
              refine r_ifs 255 rfl (fun c563 => ?_) (fun c563 => ?_)
              · have c563_ : v548.toInt ≠ 0 := en_k_ne_t c563
                exfalso; omega
              · have c563_ : v548.toInt = 0 := en_k_ne_f c563
                refine At.enter rfl ?_
                refine r_lload (w_e2 _ _ _) ?_
                refine r_lret ?_
                exact ⟨_, rfl, hI541, hF545, _, rfl, trivial, (by rw [← show v435 = LATX (gI g0 1 9).toInt from by rw [hv431]; exact hr438.2]; exact (by first | exact (fun h1 L => absurd h1 (by omega)) | exact (TLI_none (TLI_c (TLI_c q513 gK_sI) hr544.2.1) (by omega) (by omega) (show x495.toInt < (gI g0 v435 3).toInt from by have hn : (gI g0 v435 3).toInt = v440.toInt := congrArg Int32.toInt ((hF437.1 _ 3 (LwF hr438_ rfl)).symm.trans hv440); omega) (fun h1 L => by first | exact CLW_no (by rw [(congrArg Int32.toInt ((eA_c (hF522.2.1 _ rfl)).symm.trans hv523)), (congrArg Int32.toInt ((eA_c (hF522.2.1 _ rfl)).symm.trans hv524))]; omega) (WRS_e hr544.2 (congrArg Int32.toInt ((eA_c (hF522.2.1 _ rfl)).symm.trans hv538)) (congrArg Int32.toInt ((eA_c (hF522.2.1 _ rfl)).symm.trans hv539))) (TLI_c q513 gK_sI) (hF522.2.1 _ rfl) (hF522.2.1 _ rfl) (Or.inr (by omega)) L | exact CLW_no (by rw [(congrArg Int32.toInt ((eA_c (hF522.2.1 _ rfl)).symm.trans hv523)), (congrArg Int32.toInt ((eA_c (hF522.2.1 _ rfl)).symm.trans hv524))]; omega) (WRS_e hr544.2 (congrArg Int32.toInt ((eA_c (hF522.2.1 _ rfl)).symm.trans hv538)) (congrArg Int32.toInt ((eA_c (hF522.2.1 _ rfl)).symm.trans hv539))) (TLI_c q513 gK_sI) (hF522.2.1 _ rfl) (hF522.2.1 _ rfl) (Or.inl (by rw [hv548]; omega)) L))))⟩
    · have c520_ : v519.toInt ≠ a1.toInt := en_i_eq_f c520
      refine At.enter rfl ?_
      refine r_goto ?_
      refine At.enter rfl ?_
      refine q_iinc e511 (x495.toInt + (-1)) rfl (by omega) (fun v564 hv564 => ?_)
      refine r_goto ?_
      exact ih501 (v564.toInt - (-1)) _ _ ⟨v564, by first | rfl | omega, hI497, hF498, (w_p1 (by decide) (Or.inr rfl) e502), (w_p1 (by decide) (Or.inr rfl) e503), (w_p1 (by decide) (Or.inr rfl) e504), (w_p1 (by decide) (Or.inr rfl) e505), (w_p1 (by decide) (Or.inr rfl) e506), (w_p1 (by decide) (Or.inr rfl) e507), (w_p1 (by decide) (Or.inr rfl) e508), (w_p1 (by decide) (Or.inr rfl) e509), (w_p1 (by decide) (Or.inr rfl) e510), (w_e1 _ _ _), by omega, (by rw [show v564.toInt + 1 = x495.toInt from by omega]; exact (TLI_skip q513 (by omega) (by omega) (fun h1 => by rw [(congrArg Int32.toInt ((eA_c (hF498.2.1 _ rfl)).symm.trans hv519))]; omega))), by omega⟩ ⟨by omega, by omega⟩
