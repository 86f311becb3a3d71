def F_X11_tells_231 : List (Nat × Nat) := [(231, 27), (231, 30), (231, 31), (231, 32)]
def A_X11_tells_231 : List Nat := []
theorem mf_X11_reckonAll_231_231_27 : memF F_X11_reckonAll_231 231 27 = false := by decide
theorem ma_X11_reckonAll_231_233 : memA A_X11_reckonAll_231 233 = false := by decide
theorem mf_X11_reckonAll_231_231_32 : memF F_X11_reckonAll_231 231 32 = false := by decide
set_option maxRecDepth 100000 in
set_option maxHeartbeats 4000000 in
theorem T_X11_tells_231 (d : Nat) {N : Nat} {g0 : List en_E} (hI0 : HI g0) (a1 : Int32) (a2 : Int32) (h_a2 : 0 ≤ a2.toInt ∧ a2.toInt ≤ 7) (a3 : Int32) (h_a3 : 0 ≤ a3.toInt ∧ a3.toInt ≤ 11) (a4 : Int32) (a5 : Int32) (a6 : Int64) : Ev (d + 4) 216 [.ref 231, .int a1, .int a2, .int a3, .int a4, .int a5, .long a6] (g0, N) (fun w h' => ∃ g', h' = (g', N) ∧ HI g' ∧ Fr F_X11_tells_231 A_X11_tells_231 g0 g' ∧ ∃ r : Int64, w = some (.long r) ∧ True ∧ TEM g0 (eA g0 233 3).toInt a1.toInt a2.toInt a3.toInt a4.toInt a5.toInt a6.toInt r.toInt) := by
  have hF0 : Fr F_X11_tells_231 A_X11_tells_231 g0 g0 := Fr.rf
  refine Ev.mk rfl rfl ⟨Nat.le_of_ble_eq_true rfl, Or.inr (q_rc hI0.1 kx_231 rfl)⟩ ?_
  show At _ none _ _ (0, [(0, .ref 231), (1, .int a1), (2, .int a2), (3, .int a3), (4, .int a4), (5, .int a5), (6, .long a6)], [], (_, _)) _
  refine At.enter rfl ?_
  refine r_aload_n rfl ?_
  refine q_getR (Sh.ref hI0.1 kx_231 rfl) ?_
  refine r_iconst 3 rfl ?_
  obtain ⟨v5283, hv5283⟩ : ∃ v, eA g0 233 3 = v := ⟨_, rfl⟩
  have wv5283 := HI.t3 hI0
  rw [hv5283] at wv5283
  refine q_iald (Sh.arr hI0.1 ka_233) 3 rfl (by decide) v5283 hv5283 ?_
  refine r_iconst (-1) rfl ?_
  refine r_ics 10 rfl (fun c5284 => ?_) (fun c5284 => ?_)
  · have c5284_ : v5283.toInt ≠ (-1) := en_i_ne_t c5284
    refine At.enter rfl ?_
    refine r_aload_n rfl ?_
    refine r_bipush 110 rfl ?_
    refine r_sipush 900 rfl ?_
    refine r_aload_n rfl ?_
    refine q_getR (Sh.ref hI0.1 kx_231 rfl) ?_
    refine r_iconst 3 rfl ?_
    refine q_iald (Sh.arr hI0.1 ka_233) 3 rfl (by decide) v5283 hv5283 ?_
    refine q_imul (900 * v5283.toInt) rfl (by omega) (fun v5285 hv5285 => ?_)
    refine q_iadd (110 + v5285.toInt) rfl (by omega) (fun v5286 hv5286 => ?_)
    refine q_putI (Sh.int hI0.1 kx_231 rfl) rfl ?_
    have hI5287 := HI.wI1 hI0 kx_231 rfl (p := 231) (b := 27) (v := v5286) rfl (by dsimp only; omega)
    have hF5288 := Fr.wI (p := 231) (b := 27) (v := v5286) hF0 rfl
    refine r_aload_n rfl ?_
    refine r_iload_n rfl ?_
    refine r_iconst 0 rfl ?_
    refine q_inlV 36 rfl [.ref 231, .int a3, .int 0] [] (Nat.le_of_ble_eq_true rfl) rfl ?_
    refine Ev.mk rfl rfl ⟨Nat.le_of_ble_eq_true rfl, Or.inr (q_rc hI5287.1 kx_231 rfl)⟩ ?_
    show At _ none _ _ (0, [(0, .ref 231), (1, .int a3), (2, .int 0)], [], (_, _)) _
    refine At.enter rfl ?_
    refine r_aload_n rfl ?_
    refine q_getR (Sh.ref hI5287.1 kx_231 rfl) ?_
    refine r_bipush 10 rfl ?_
    refine r_iconst 3 rfl ?_
    refine r_iload_n rfl ?_
    refine q_imul (3 * a3.toInt) rfl (by omega) (fun v5289 hv5289 => ?_)
    refine q_iadd (10 + v5289.toInt) rfl (by omega) (fun v5290 hv5290 => ?_)
    refine r_iload_n rfl ?_
    refine q_iadd (v5290.toInt + 0) rfl (by omega) (fun v5291 hv5291 => ?_)
    obtain ⟨v5292, hv5292⟩ : ∃ v, eA g0 233 (3 * a3.toInt + 10) = v := ⟨_, rfl⟩
    have wv5292 := HI.s0 hI0 (j := (3 * a3.toInt + 10)) (a3.toInt) (by omega) (by omega)
    rw [hv5292] at wv5292
    refine q_iald (Sh.arr hI5287.1 ka_233) (3 * a3.toInt + 10) (by omega) (by omega) v5292 ((eA_c (gA_sI)).trans hv5292) ?_
    refine q_ireti ?_
    refine At.enter rfl ?_
    refine r_istore ([(8, .int v5292), (0, .ref 231), (1, .int a1), (2, .int a2), (3, .int a3), (4, .int a4), (5, .int a5), (6, .long a6)]) rfl ?_
    refine r_aload_n rfl ?_
    refine q_getR (Sh.ref hI5287.1 kx_231 rfl) ?_
    refine r_iconst 1 rfl ?_
    refine r_iload_n rfl ?_
    refine q_i2l (fun v5293 hv5293 => ?_)
    refine q_last (Sh.lar hI5287.1 ka_244) (1) rfl (by decide) ?_
    have hI5294 := HI.wK hI5287 ka_244 (1) (v5293) (by decide)
    have hF5295 := Fr.wK (p := 244) (j := 1) (v := v5293) hF5288
    refine r_aload_n rfl ?_
    refine q_getR (Sh.ref hI5294.1 kx_231 rfl) ?_
    refine r_iconst 2 rfl ?_
    refine r_aload_n rfl ?_
    refine r_iload_n rfl ?_
    refine r_iconst 0 rfl ?_
    refine q_inlV 57 rfl [.ref 231, .int a2, .int 0] [.int 2, .ref 244] (Nat.le_of_ble_eq_true rfl) rfl ?_
    refine Ev.mk rfl rfl ⟨Nat.le_of_ble_eq_true rfl, Or.inr (q_rc hI5294.1 kx_231 rfl)⟩ ?_
    show At _ none _ _ (0, [(0, .ref 231), (1, .int a2), (2, .int 0)], [], (_, _)) _
    refine At.enter rfl ?_
    refine r_aload_n rfl ?_
    refine q_getR (Sh.ref hI5294.1 kx_231 rfl) ?_
    refine r_bipush 46 rfl ?_
    refine r_bipush 6 rfl ?_
    refine r_iload_n rfl ?_
    refine q_imul (6 * a2.toInt) rfl (by omega) (fun v5296 hv5296 => ?_)
    refine q_iadd (46 + v5296.toInt) rfl (by omega) (fun v5297 hv5297 => ?_)
    refine r_iload_n rfl ?_
    refine q_iadd (v5297.toInt + 0) rfl (by omega) (fun v5298 hv5298 => ?_)
    obtain ⟨v5299, hv5299⟩ : ∃ v, eA g0 233 (6 * a2.toInt + 46) = v := ⟨_, rfl⟩
    have wv5299 := HI.l0 hI0 (j := (6 * a2.toInt + 46)) (a2.toInt) (by omega) (by omega)
    rw [hv5299] at wv5299
    refine q_iald (Sh.arr hI5294.1 ka_233) (6 * a2.toInt + 46) (by omega) (by omega) v5299 ((eA_c ((gA_sX).trans (gA_sI))).trans hv5299) ?_
    refine q_ireti ?_
    refine At.enter rfl ?_
    refine q_i2l (fun v5300 hv5300 => ?_)
    refine q_last (Sh.lar hI5294.1 ka_244) (2) rfl (by decide) ?_
    have hI5301 := HI.wK hI5294 ka_244 (2) (v5300) (by decide)
    have hF5302 := Fr.wK (p := 244) (j := 2) (v := v5300) hF5295
    refine r_aload_n rfl ?_
    refine q_getR (Sh.ref hI5301.1 kx_231 rfl) ?_
    refine r_iconst 3 rfl ?_
    refine r_aload_n rfl ?_
    refine r_iload_n rfl ?_
    refine r_iconst 4 rfl ?_
    refine q_inlV 70 rfl [.ref 231, .int a2, .int 4] [.int 3, .ref 244] (Nat.le_of_ble_eq_true rfl) rfl ?_
    refine Ev.mk rfl rfl ⟨Nat.le_of_ble_eq_true rfl, Or.inr (q_rc hI5301.1 kx_231 rfl)⟩ ?_
    show At _ none _ _ (0, [(0, .ref 231), (1, .int a2), (2, .int 4)], [], (_, _)) _
    refine At.enter rfl ?_
    refine r_aload_n rfl ?_
    refine q_getR (Sh.ref hI5301.1 kx_231 rfl) ?_
    refine r_bipush 46 rfl ?_
    refine r_bipush 6 rfl ?_
    refine r_iload_n rfl ?_
    refine q_imul (6 * a2.toInt) rfl (by omega) (fun v5303 hv5303 => ?_)
    refine q_iadd (46 + v5303.toInt) rfl (by omega) (fun v5304 hv5304 => ?_)
    refine r_iload_n rfl ?_
    refine q_iadd (v5304.toInt + 4) rfl (by omega) (fun v5305 hv5305 => ?_)
    obtain ⟨v5306, hv5306⟩ : ∃ v, eA g0 233 (6 * a2.toInt + 50) = v := ⟨_, rfl⟩
    have wv5306 := HI.l4 hI0 (j := (6 * a2.toInt + 50)) (a2.toInt) (by omega) (by omega)
    rw [hv5306] at wv5306
    refine q_iald (Sh.arr hI5301.1 ka_233) (6 * a2.toInt + 50) (by omega) (by omega) v5306 ((eA_c ((gA_sX).trans ((gA_sX).trans (gA_sI)))).trans hv5306) ?_
    refine q_ireti ?_
    refine At.enter rfl ?_
    refine q_i2l (fun v5307 hv5307 => ?_)
    refine q_last (Sh.lar hI5301.1 ka_244) (3) rfl (by decide) ?_
    have hI5308 := HI.wK hI5301 ka_244 (3) (v5307) (by decide)
    have hF5309 := Fr.wK (p := 244) (j := 3) (v := v5307) hF5302
    refine r_aload_n rfl ?_
    refine q_getR (Sh.ref hI5308.1 kx_231 rfl) ?_
    refine r_iconst 4 rfl ?_
    refine r_iload_n rfl ?_
    refine q_i2l (fun v5310 hv5310 => ?_)
    refine q_last (Sh.lar hI5308.1 ka_244) (4) rfl (by decide) ?_
    have hI5311 := HI.wK hI5308 ka_244 (4) (v5310) (by decide)
    have hF5312 := Fr.wK (p := 244) (j := 4) (v := v5310) hF5309
    refine r_aload_n rfl ?_
    refine q_getR (Sh.ref hI5311.1 kx_231 rfl) ?_
    refine r_iconst 5 rfl ?_
    refine r_aload_n rfl ?_
    refine r_iload rfl ?_
    refine q_inlV 91 rfl [.ref 231, .int v5292] [.int 5, .ref 244] (Nat.le_of_ble_eq_true rfl) rfl ?_
    refine Ev.mk rfl rfl ⟨Nat.le_of_ble_eq_true rfl, Or.inr (q_rc hI5311.1 kx_231 rfl)⟩ ?_
    show At _ none _ _ (0, [(0, .ref 231), (1, .int v5292)], [], (_, _)) _
    refine At.enter rfl ?_
    refine r_iload_n rfl ?_
    refine q_i2l (fun v5313 hv5313 => ?_)
    refine r_lconst 0 rfl ?_
    refine r_aload_n rfl ?_
    refine q_getR (Sh.ref hI5311.1 kx_231 rfl) ?_
    refine r_iconst 0 rfl ?_
    obtain ⟨v5314, hv5314⟩ : ∃ v, eA g0 233 0 = v := ⟨_, rfl⟩
    have tv5314 := congrArg Int32.toInt hv5314
    have wv5314 := HI.t0 hI0
    rw [hv5314] at wv5314
    refine q_iald (Sh.arr hI5311.1 ka_233) 0 rfl (by decide) v5314 ((eA_c ((gA_sX).trans ((gA_sX).trans ((gA_sX).trans ((gA_sX).trans (gA_sI)))))).trans hv5314) ?_
    refine q_i2l (fun v5315 hv5315 => ?_)
    refine r_lconst 1 rfl ?_
    refine q_lsub (v5315.toInt - 1) rfl (by omega) (fun v5316 hv5316 => ?_)
    refine q_inlS 15 rfl [.long v5313, .long 0, .long v5316] [] (Nat.le_of_ble_eq_true rfl) rfl ?_
    refine Ev.mk rfl rfl ⟨Nat.le_of_ble_eq_true rfl, Or.inl rfl⟩ ?_
    show At _ none _ _ (0, [(0, .long v5313), (2, .long 0), (4, .long v5316)], [], (_, _)) _
    refine At.enter rfl ?_
    refine r_lload_n rfl ?_
    refine r_lload_n rfl ?_
    refine r_lcmp _ rfl ?_
    refine r_ifs 6 rfl (fun c5317 => ?_) (fun c5317 => ?_)
    · have c5317_ : v5313.toInt < 0 := en_j_lt_t c5317
      refine At.enter rfl ?_
      refine r_iconst 0 rfl ?_
      refine Ar.fall 18 rfl ?_
      refine At.enter rfl ?_
      refine q_iretz (by decide) ?_
      refine At.enter rfl ?_
      refine q_iretz (by decide) ?_
      refine At.enter rfl ?_
      refine r_ift (by decide) ?_
      refine At.enter rfl ?_
      refine r_ldc2 (-1) rfl ?_
      refine Ar.fall 103 rfl ?_
      refine At.enter rfl ?_
      refine q_last (Sh.lar hI5311.1 ka_244) (5) rfl (by decide) ?_
      have hI5318 := HI.wK hI5311 ka_244 (5) ((-1)) (by decide)
      have hF5319 := Fr.wK (p := 244) (j := 5) (v := (-1)) hF5312
      refine r_aload_n rfl ?_
      refine q_getR (Sh.ref hI5318.1 kx_231 rfl) ?_
      refine r_bipush 6 rfl ?_
      refine r_iload rfl ?_
      refine q_i2l (fun v5320 hv5320 => ?_)
      refine q_last (Sh.lar hI5318.1 ka_244) (6) rfl (by decide) ?_
      have hI5321 := HI.wK hI5318 ka_244 (6) (v5320) (by decide)
      have hF5322 := Fr.wK (p := 244) (j := 6) (v := v5320) hF5319
      refine r_aload_n rfl ?_
      refine q_getR (Sh.ref hI5321.1 kx_231 rfl) ?_
      refine r_bipush 7 rfl ?_
      refine r_iload rfl ?_
      refine q_i2l (fun v5323 hv5323 => ?_)
      refine q_last (Sh.lar hI5321.1 ka_244) (7) rfl (by decide) ?_
      have hI5324 := HI.wK hI5321 ka_244 (7) (v5323) (by decide)
      have hF5325 := Fr.wK (p := 244) (j := 7) (v := v5323) hF5322
      refine r_aload_n rfl ?_
      refine q_getR (Sh.ref hI5324.1 kx_231 rfl) ?_
      refine r_bipush 8 rfl ?_
      refine r_aload_n rfl ?_
      refine q_getR (Sh.ref hI5324.1 kx_231 rfl) ?_
      refine r_iload_n rfl ?_
      obtain ⟨v5326, hv5326⟩ : ∃ v, eA g0 246 a3.toInt = v := ⟨_, rfl⟩
      refine q_iald (Sh.arr hI5324.1 ka_246) a3.toInt rfl (by omega) v5326 ((eA_c ((gA_sX).trans ((gA_sX).trans ((gA_sX).trans ((gA_sX).trans ((gA_sX).trans ((gA_sX).trans ((gA_sX).trans (gA_sI))))))))).trans hv5326) ?_
      refine q_i2l (fun v5327 hv5327 => ?_)
      refine q_last (Sh.lar hI5324.1 ka_244) (8) rfl (by decide) ?_
      have hI5328 := HI.wK hI5324 ka_244 (8) (v5327) (by decide)
      have hF5329 := Fr.wK (p := 244) (j := 8) (v := v5327) hF5325
      refine r_aload_n rfl ?_
      refine q_getR (Sh.ref hI5328.1 kx_231 rfl) ?_
      refine r_bipush 9 rfl ?_
      refine r_aload_n rfl ?_
      refine q_getR (Sh.ref hI5328.1 kx_231 rfl) ?_
      refine r_iload_n rfl ?_
      obtain ⟨v5330, hv5330⟩ : ∃ v, eA g0 247 a3.toInt = v := ⟨_, rfl⟩
      refine q_iald (Sh.arr hI5328.1 ka_247) a3.toInt rfl (by omega) v5330 ((eA_c ((gA_sX).trans ((gA_sX).trans ((gA_sX).trans ((gA_sX).trans ((gA_sX).trans ((gA_sX).trans ((gA_sX).trans ((gA_sX).trans (gA_sI)))))))))).trans hv5330) ?_
      refine q_i2l (fun v5331 hv5331 => ?_)
      refine q_last (Sh.lar hI5328.1 ka_244) (9) rfl (by decide) ?_
      have hI5332 := HI.wK hI5328 ka_244 (9) (v5331) (by decide)
      have hF5333 := Fr.wK (p := 244) (j := 9) (v := v5331) hF5329
      refine r_lload rfl ?_
      refine r_lstore ([(9, .long a6), (8, .int v5292), (0, .ref 231), (1, .int a1), (2, .int a2), (3, .int a3), (4, .int a4), (5, .int a5), (6, .long a6)]) rfl ?_
      refine r_iconst 0 rfl ?_
      refine r_istore ([(11, .int 0), (9, .long a6), (8, .int v5292), (0, .ref 231), (1, .int a1), (2, .int a2), (3, .int a3), (4, .int a4), (5, .int a5), (6, .long a6)]) rfl ?_
      refine Ar.fall 159 rfl ?_
      have z_6103 : (0 : Int32).toInt = 0 := rfl
      refine w_loopI (fun n_ l_ g_ => ∃ x6081 : Int64, ∃ x6082 : Int32, n_ = 12 - x6082.toInt ∧ HI g_ ∧ Fr F_X11_tells_231 A_X11_tells_231 g0 g_ ∧ gI g_ 231 27 = v5286 ∧ en_get 0 l_ = some (.ref 231) ∧ en_get 1 l_ = some (.int a1) ∧ en_get 2 l_ = some (.int a2) ∧ en_get 3 l_ = some (.int a3) ∧ en_get 4 l_ = some (.int a4) ∧ en_get 5 l_ = some (.int a5) ∧ en_get 6 l_ = some (.long a6) ∧ en_get 8 l_ = some (.int v5292) ∧ en_get 9 l_ = some (.long x6081) ∧ en_get 11 l_ = some (.int x6082) ∧ (0 ≤ x6082.toInt ∧ x6082.toInt ≤ 12) ∧ (TMI g_ (RWM g0 (eA g0 233 3).toInt) (WWM g0 a2.toInt a3.toInt a4.toInt a5.toInt) a1.toInt (RWM g0 (eA g0 233 3).toInt 1) x6082.toInt a6.toInt x6081.toInt) ∧ (x6082.toInt ≤ RWM g0 (eA g0 233 3).toInt 1)) ?_ (12 - 0) ⟨a6, 0, by first | rfl | omega, hI5332, hF5333, ((gI_sX).trans ((gI_sX).trans ((gI_sX).trans ((gI_sX).trans ((gI_sX).trans ((gI_sX).trans ((gI_sX).trans ((gI_sX).trans ((gI_sX).trans (gI_sI_eq hI0.1 kx_231 rfl _)))))))))), rfl, rfl, rfl, rfl, rfl, rfl, rfl, rfl, rfl, rfl, by decide, (TMI_z ⟨WRM_mk (show (eK _ 244 1).toInt = _ from (congrArg Int64.toInt ((eK_neT hI5328.1 ka_244 (by decide) (by decide) (by decide)).trans ((eK_neT hI5324.1 ka_244 (by decide) (by decide) (by decide)).trans ((eK_neT hI5321.1 ka_244 (by decide) (by decide) (by decide)).trans ((eK_neT hI5318.1 ka_244 (by decide) (by decide) (by decide)).trans ((eK_neT hI5311.1 ka_244 (by decide) (by decide) (by decide)).trans ((eK_neT hI5308.1 ka_244 (by decide) (by decide) (by decide)).trans ((eK_neT hI5301.1 ka_244 (by decide) (by decide) (by decide)).trans ((eK_neT hI5294.1 ka_244 (by decide) (by decide) (by decide)).trans (eK_eqT hI5287.1 ka_244 rfl (by decide) (by decide))))))))))).trans hv5293) (show (eK _ 244 2).toInt = _ from ((congrArg Int64.toInt ((eK_neT hI5328.1 ka_244 (by decide) (by decide) (by decide)).trans ((eK_neT hI5324.1 ka_244 (by decide) (by decide) (by decide)).trans ((eK_neT hI5321.1 ka_244 (by decide) (by decide) (by decide)).trans ((eK_neT hI5318.1 ka_244 (by decide) (by decide) (by decide)).trans ((eK_neT hI5311.1 ka_244 (by decide) (by decide) (by decide)).trans ((eK_neT hI5308.1 ka_244 (by decide) (by decide) (by decide)).trans ((eK_neT hI5301.1 ka_244 (by decide) (by decide) (by decide)).trans (eK_eqT hI5294.1 ka_244 rfl (by decide) (by decide)))))))))).trans hv5300).trans (show v5299.toInt = LDM g0 a2.toInt 0 from by unfold LDM; rw [show 46 + 6 * a2.toInt + 0 = (6 * a2.toInt + 46) from by omega, hv5299])) (show (eK _ 244 3).toInt = _ from ((congrArg Int64.toInt ((eK_neT hI5328.1 ka_244 (by decide) (by decide) (by decide)).trans ((eK_neT hI5324.1 ka_244 (by decide) (by decide) (by decide)).trans ((eK_neT hI5321.1 ka_244 (by decide) (by decide) (by decide)).trans ((eK_neT hI5318.1 ka_244 (by decide) (by decide) (by decide)).trans ((eK_neT hI5311.1 ka_244 (by decide) (by decide) (by decide)).trans ((eK_neT hI5308.1 ka_244 (by decide) (by decide) (by decide)).trans (eK_eqT hI5301.1 ka_244 rfl (by decide) (by decide))))))))).trans hv5307).trans (show v5306.toInt = LDM g0 a2.toInt 4 from by unfold LDM; rw [show 46 + 6 * a2.toInt + 4 = (6 * a2.toInt + 50) from by omega, hv5306])) (show (eK _ 244 4).toInt = _ from (congrArg Int64.toInt ((eK_neT hI5328.1 ka_244 (by decide) (by decide) (by decide)).trans ((eK_neT hI5324.1 ka_244 (by decide) (by decide) (by decide)).trans ((eK_neT hI5321.1 ka_244 (by decide) (by decide) (by decide)).trans ((eK_neT hI5318.1 ka_244 (by decide) (by decide) (by decide)).trans ((eK_neT hI5311.1 ka_244 (by decide) (by decide) (by decide)).trans (eK_eqT hI5308.1 ka_244 rfl (by decide) (by decide)))))))).trans hv5310) (show (eK _ 244 5).toInt = _ from (congrArg Int64.toInt ((eK_neT hI5328.1 ka_244 (by decide) (by decide) (by decide)).trans ((eK_neT hI5324.1 ka_244 (by decide) (by decide) (by decide)).trans ((eK_neT hI5321.1 ka_244 (by decide) (by decide) (by decide)).trans ((eK_neT hI5318.1 ka_244 (by decide) (by decide) (by decide)).trans (eK_eqT hI5311.1 ka_244 rfl (by decide) (by decide))))))).trans (show ((-1) : Int64).toInt = NMo g0 a3.toInt from by rw [show ((-1) : Int64).toInt = -1 from rfl]; have x : (eA g0 233 (10 + 3 * a3.toInt)).toInt = v5292.toInt := (by rw [show 10 + 3 * a3.toInt = (3 * a3.toInt + 10) from by omega, hv5292]); have y : (eA g0 233 0).toInt = v5314.toInt := congrArg Int32.toInt hv5314; have z := NMo.no (g := g0) (s := a3.toInt) (by omega); omega)) (show (eK _ 244 6).toInt = _ from (congrArg Int64.toInt ((eK_neT hI5328.1 ka_244 (by decide) (by decide) (by decide)).trans ((eK_neT hI5324.1 ka_244 (by decide) (by decide) (by decide)).trans ((eK_neT hI5321.1 ka_244 (by decide) (by decide) (by decide)).trans (eK_eqT hI5318.1 ka_244 rfl (by decide) (by decide)))))).trans hv5320) (show (eK _ 244 7).toInt = _ from (congrArg Int64.toInt ((eK_neT hI5328.1 ka_244 (by decide) (by decide) (by decide)).trans ((eK_neT hI5324.1 ka_244 (by decide) (by decide) (by decide)).trans (eK_eqT hI5321.1 ka_244 rfl (by decide) (by decide))))).trans hv5323) (show (eK _ 244 8).toInt = _ from ((congrArg Int64.toInt ((eK_neT hI5328.1 ka_244 (by decide) (by decide) (by decide)).trans (eK_eqT hI5324.1 ka_244 rfl (by decide) (by decide)))).trans hv5327).trans (congrArg Int32.toInt hv5326).symm) (show (eK _ 244 9).toInt = _ from ((congrArg Int64.toInt (eK_eqT hI5328.1 ka_244 rfl (by decide) (by decide))).trans hv5331).trans (congrArg Int32.toInt hv5330).symm), SMM_mk (show (eK _ 244 1).toInt = _ from (congrArg Int64.toInt ((eK_neT hI5328.1 ka_244 (by decide) (by decide) (by decide)).trans ((eK_neT hI5324.1 ka_244 (by decide) (by decide) (by decide)).trans ((eK_neT hI5321.1 ka_244 (by decide) (by decide) (by decide)).trans ((eK_neT hI5318.1 ka_244 (by decide) (by decide) (by decide)).trans ((eK_neT hI5311.1 ka_244 (by decide) (by decide) (by decide)).trans ((eK_neT hI5308.1 ka_244 (by decide) (by decide) (by decide)).trans ((eK_neT hI5301.1 ka_244 (by decide) (by decide) (by decide)).trans ((eK_neT hI5294.1 ka_244 (by decide) (by decide) (by decide)).trans (eK_eqT hI5287.1 ka_244 rfl (by decide) (by decide))))))))))).trans hv5293) (show (eK _ 244 2).toInt = _ from ((congrArg Int64.toInt ((eK_neT hI5328.1 ka_244 (by decide) (by decide) (by decide)).trans ((eK_neT hI5324.1 ka_244 (by decide) (by decide) (by decide)).trans ((eK_neT hI5321.1 ka_244 (by decide) (by decide) (by decide)).trans ((eK_neT hI5318.1 ka_244 (by decide) (by decide) (by decide)).trans ((eK_neT hI5311.1 ka_244 (by decide) (by decide) (by decide)).trans ((eK_neT hI5308.1 ka_244 (by decide) (by decide) (by decide)).trans ((eK_neT hI5301.1 ka_244 (by decide) (by decide) (by decide)).trans (eK_eqT hI5294.1 ka_244 rfl (by decide) (by decide)))))))))).trans hv5300).trans (show v5299.toInt = LDM g0 a2.toInt 0 from by unfold LDM; rw [show 46 + 6 * a2.toInt + 0 = (6 * a2.toInt + 46) from by omega, hv5299])) (show (eK _ 244 3).toInt = _ from ((congrArg Int64.toInt ((eK_neT hI5328.1 ka_244 (by decide) (by decide) (by decide)).trans ((eK_neT hI5324.1 ka_244 (by decide) (by decide) (by decide)).trans ((eK_neT hI5321.1 ka_244 (by decide) (by decide) (by decide)).trans ((eK_neT hI5318.1 ka_244 (by decide) (by decide) (by decide)).trans ((eK_neT hI5311.1 ka_244 (by decide) (by decide) (by decide)).trans ((eK_neT hI5308.1 ka_244 (by decide) (by decide) (by decide)).trans (eK_eqT hI5301.1 ka_244 rfl (by decide) (by decide))))))))).trans hv5307).trans (show v5306.toInt = LDM g0 a2.toInt 4 from by unfold LDM; rw [show 46 + 6 * a2.toInt + 4 = (6 * a2.toInt + 50) from by omega, hv5306])) (show (eK _ 244 4).toInt = _ from (congrArg Int64.toInt ((eK_neT hI5328.1 ka_244 (by decide) (by decide) (by decide)).trans ((eK_neT hI5324.1 ka_244 (by decide) (by decide) (by decide)).trans ((eK_neT hI5321.1 ka_244 (by decide) (by decide) (by decide)).trans ((eK_neT hI5318.1 ka_244 (by decide) (by decide) (by decide)).trans ((eK_neT hI5311.1 ka_244 (by decide) (by decide) (by decide)).trans (eK_eqT hI5308.1 ka_244 rfl (by decide) (by decide)))))))).trans hv5310) (show (eK _ 244 5).toInt = _ from (congrArg Int64.toInt ((eK_neT hI5328.1 ka_244 (by decide) (by decide) (by decide)).trans ((eK_neT hI5324.1 ka_244 (by decide) (by decide) (by decide)).trans ((eK_neT hI5321.1 ka_244 (by decide) (by decide) (by decide)).trans ((eK_neT hI5318.1 ka_244 (by decide) (by decide) (by decide)).trans (eK_eqT hI5311.1 ka_244 rfl (by decide) (by decide))))))).trans (show ((-1) : Int64).toInt = NMo g0 a3.toInt from by rw [show ((-1) : Int64).toInt = -1 from rfl]; have x : (eA g0 233 (10 + 3 * a3.toInt)).toInt = v5292.toInt := (by rw [show 10 + 3 * a3.toInt = (3 * a3.toInt + 10) from by omega, hv5292]); have y : (eA g0 233 0).toInt = v5314.toInt := congrArg Int32.toInt hv5314; have z := NMo.no (g := g0) (s := a3.toInt) (by omega); omega)) (show (eK _ 244 6).toInt = _ from (congrArg Int64.toInt ((eK_neT hI5328.1 ka_244 (by decide) (by decide) (by decide)).trans ((eK_neT hI5324.1 ka_244 (by decide) (by decide) (by decide)).trans ((eK_neT hI5321.1 ka_244 (by decide) (by decide) (by decide)).trans (eK_eqT hI5318.1 ka_244 rfl (by decide) (by decide)))))).trans hv5320) (show (eK _ 244 7).toInt = _ from (congrArg Int64.toInt ((eK_neT hI5328.1 ka_244 (by decide) (by decide) (by decide)).trans ((eK_neT hI5324.1 ka_244 (by decide) (by decide) (by decide)).trans (eK_eqT hI5321.1 ka_244 rfl (by decide) (by decide))))).trans hv5323) (show (eK _ 244 8).toInt = _ from ((congrArg Int64.toInt ((eK_neT hI5328.1 ka_244 (by decide) (by decide) (by decide)).trans (eK_eqT hI5324.1 ka_244 rfl (by decide) (by decide)))).trans hv5327).trans (congrArg Int32.toInt hv5326).symm) (show (eK _ 244 9).toInt = _ from ((congrArg Int64.toInt (eK_eqT hI5328.1 ka_244 rfl (by decide) (by decide))).trans hv5331).trans (congrArg Int32.toInt hv5330).symm) (by have b2 := q_bnd a2; have b3 := q_bnd a3; have b4 := q_bnd a4; have b5 := q_bnd a5; have c0 := q_bnd v5299; have c1 := q_bnd v5306; have c2 := q_bnd v5326; have c3 := q_bnd v5330; exact ⟨by omega, q_b32 _, q_b32 _, by omega, NMo_b _ _, by omega, by omega, q_b32 _, q_b32 _⟩), (OQM_e (show (gI _ 231 27).toInt = 110 + 900 * (eA g0 233 3).toInt from (congrArg Int32.toInt (((gI_sX).trans ((gI_sX).trans ((gI_sX).trans ((gI_sX).trans ((gI_sX).trans ((gI_sX).trans ((gI_sX).trans ((gI_sX).trans ((gI_sX).trans (gI_sI_eq hI0.1 kx_231 rfl _)))))))))))).trans (by have f := congrArg Int32.toInt hv5283; omega)) (((gA_sX).trans ((gA_sX).trans ((gA_sX).trans ((gA_sX).trans ((gA_sX).trans ((gA_sX).trans ((gA_sX).trans ((gA_sX).trans ((gA_sX).trans (gA_sI)))))))))))).1, (OQM_e (show (gI _ 231 27).toInt = 110 + 900 * (eA g0 233 3).toInt from (congrArg Int32.toInt (((gI_sX).trans ((gI_sX).trans ((gI_sX).trans ((gI_sX).trans ((gI_sX).trans ((gI_sX).trans ((gI_sX).trans ((gI_sX).trans ((gI_sX).trans (gI_sI_eq hI0.1 kx_231 rfl _)))))))))))).trans (by have f := congrArg Int32.toInt hv5283; omega)) (((gA_sX).trans ((gA_sX).trans ((gA_sX).trans ((gA_sX).trans ((gA_sX).trans ((gA_sX).trans ((gA_sX).trans ((gA_sX).trans ((gA_sX).trans (gA_sI)))))))))))).2⟩ rfl rfl), (show _ ≤ RWM g0 (eA g0 233 3).toInt 1 from by have w := HI.lawn hI0 (j := v5283.toInt) (i := 110 + 900 * (eA g0 233 3).toInt + 1) ⟨by omega, by omega⟩ (by rw [hv5283]); exact (show (0 : Int) ≤ (eA g0 233 (110 + 900 * (eA g0 233 3).toInt + 1)).toInt from by omega))⟩
      rintro n6087 l6086 g6083 ⟨x6081, x6082, hm6104, hI6084, hF6085, e6089, e6090, e6091, e6092, e6093, e6094, e6095, e6096, e6097, e6098, e6099, r6100, q6101, q6102⟩ ih6088
      have tv6105 := congrArg Int32.toInt e6089
      refine At.enter rfl ?_
      refine r_iload e6099 ?_
      refine r_aload_n e6090 ?_
      refine q_getR (Sh.ref hI6084.1 kx_231 rfl) ?_
      refine r_aload_n e6090 ?_
      refine q_getI (Sh.int hI6084.1 kx_231 rfl) v5286 e6089 ?_
      refine r_iconst 1 rfl ?_
      refine q_iadd (v5286.toInt + 1) rfl (by omega) (fun v6106 hv6106 => ?_)
      obtain ⟨v6107, hv6107⟩ : ∃ v, eA g0 233 (900 * v5283.toInt + 111) = v := ⟨_, rfl⟩
      have wv6107 := HI.lawn hI0 (j := v5283.toInt) (i := (900 * v5283.toInt + 111)) ⟨by omega, by omega⟩ (by omega)
      rw [hv6107] at wv6107
      refine q_iald (Sh.arr hI6084.1 ka_233) (900 * v5283.toInt + 111) (by omega) (by omega) v6107 ((eA_c (hF6085.2.1 233 (by decide))).trans hv6107) ?_
      have bv6109 := q_bnd x6082
      have bv6110 := q_bnd v6107
      refine r_ics 175 rfl (fun c6108 => ?_) (fun c6108 => ?_)
      · have c6108_ : x6082.toInt ≥ v6107.toInt := en_i_ge_t c6108
        refine At.enter rfl ?_
        refine r_lload e6098 ?_
        refine r_lret ?_
        exact ⟨_, rfl, hI6084, hF6085, _, rfl, trivial, (TMI_end q6101 (by rw [(show RWM g0 (eA g0 233 3).toInt 1 = v6107.toInt from by (show (eA g0 233 (110 + 900 * (eA g0 233 3).toInt + 1)).toInt = _); rw [hv5283, show 110 + 900 * v5283.toInt + 1 = (900 * v5283.toInt + 111) from by omega, hv6107])]; omega) q6102 (by have e := congrArg Int32.toInt hv5283; omega))⟩
      · have c6108_ : x6082.toInt < v6107.toInt := en_i_ge_f c6108
        refine At.enter rfl ?_
        refine r_aload_n e6090 ?_
        refine q_getI (Sh.int hI6084.1 kx_231 rfl) v5286 e6089 ?_
        refine r_iconst 2 rfl ?_
        refine q_iadd (v5286.toInt + 2) rfl (by omega) (fun v6111 hv6111 => ?_)
        refine r_bipush 8 rfl ?_
        refine r_iload e6099 ?_
        refine q_imul (8 * x6082.toInt) rfl (by omega) (fun v6112 hv6112 => ?_)
        refine q_iadd (v6111.toInt + v6112.toInt) rfl (by omega) (fun v6113 hv6113 => ?_)
        refine r_istore _ rfl ?_
        refine r_aload_n (w_p1 (by decide) (Or.inr rfl) e6090) ?_
        refine q_getR (Sh.ref hI6084.1 kx_231 rfl) ?_
        refine r_iload (w_e1 _ _ _) ?_
        obtain ⟨v6114, hv6114⟩ : ∃ v, eA g0 233 (900 * v5283.toInt + 8 * x6082.toInt + 112) = v := ⟨_, rfl⟩
        refine q_iald (Sh.arr hI6084.1 ka_233) (900 * v5283.toInt + 8 * x6082.toInt + 112) (by omega) (by omega) v6114 ((eA_c (hF6085.2.1 233 (by decide))).trans hv6114) ?_
        refine r_iload_n (w_p1 (by decide) (Or.inr rfl) e6091) ?_
        refine r_ics 200 rfl (fun c6115 => ?_) (fun c6115 => ?_)
        · have c6115_ : v6114.toInt ≠ a1.toInt := en_i_ne_t c6115
          refine At.enter rfl ?_
          refine q_iinc (w_p1 (by decide) (Or.inr rfl) e6099) (x6082.toInt + 1) rfl (by omega) (fun v6116 hv6116 => ?_)
          refine r_goto ?_
          exact ih6088 (12 - v6116.toInt) _ _ ⟨x6081, v6116, by first | rfl | omega, hI6084, hF6085, e6089, (w_p1 (by decide) (Or.inr rfl) (w_p1 (by decide) (Or.inr rfl) e6090)), (w_p1 (by decide) (Or.inr rfl) (w_p1 (by decide) (Or.inr rfl) e6091)), (w_p1 (by decide) (Or.inr rfl) (w_p1 (by decide) (Or.inr rfl) e6092)), (w_p1 (by decide) (Or.inr rfl) (w_p1 (by decide) (Or.inr rfl) e6093)), (w_p1 (by decide) (Or.inr rfl) (w_p1 (by decide) (Or.inr rfl) e6094)), (w_p1 (by decide) (Or.inr rfl) (w_p1 (by decide) (Or.inr rfl) e6095)), (w_p1 (by decide) (Or.inl (by decide)) (w_p1 (by decide) (Or.inl (by decide)) e6096)), (w_p1 (by decide) (Or.inr rfl) (w_p1 (by decide) (Or.inr rfl) e6097)), (w_p1 (by decide) (Or.inl (by decide)) (w_p1 (by decide) (Or.inl (by decide)) e6098)), (w_e1 _ _ _), by omega, (TMI_skip q6101 q6101.1 (by omega) (by omega) (fun h1 => by rw [(show RWM g0 (eA g0 233 3).toInt (2 + 8 * x6082.toInt) = v6114.toInt from by (show (eA g0 233 (110 + 900 * (eA g0 233 3).toInt + (2 + 8 * x6082.toInt))).toInt = _); rw [hv5283, show 110 + 900 * v5283.toInt + (2 + 8 * x6082.toInt) = (900 * v5283.toInt + 8 * x6082.toInt + 112) from by omega, hv6114])]; omega)), (by rw [show RWM g0 (eA g0 233 3).toInt 1 = v6107.toInt from by (show (eA g0 233 (110 + 900 * (eA g0 233 3).toInt + 1)).toInt = _); rw [hv5283, show 110 + 900 * v5283.toInt + 1 = (900 * v5283.toInt + 111) from by omega, hv6107]]; omega)⟩ ⟨by omega, by omega⟩
        · have c6115_ : v6114.toInt = a1.toInt := en_i_ne_f c6115
          refine At.enter rfl ?_
          refine r_aload_n (w_p1 (by decide) (Or.inr rfl) e6090) ?_
          refine r_iload (w_e1 _ _ _) ?_
          refine q_inlV 206 rfl [.ref 231, .int v6113] [] (Nat.le_of_ble_eq_true rfl) rfl ?_
          refine Ev.mk rfl rfl ⟨Nat.le_of_ble_eq_true rfl, Or.inr (q_rc hI6084.1 kx_231 rfl)⟩ ?_
          show At _ none _ _ (0, [(0, .ref 231), (1, .int v6113)], [], (_, _)) _
          refine At.enter rfl ?_
          refine r_aload_n rfl ?_
          refine q_getR (Sh.ref hI6084.1 kx_231 rfl) ?_
          refine r_iload_n rfl ?_
          refine r_iconst 5 rfl ?_
          refine q_iadd (v6113.toInt + 5) rfl (by omega) (fun v6117 hv6117 => ?_)
          obtain ⟨v6118, hv6118⟩ : ∃ v, eA g0 233 (900 * v5283.toInt + 8 * x6082.toInt + 117) = v := ⟨_, rfl⟩
          refine q_iald (Sh.arr hI6084.1 ka_233) (900 * v5283.toInt + 8 * x6082.toInt + 117) (by omega) (by omega) v6118 ((eA_c (hF6085.2.1 233 (by decide))).trans hv6118) ?_
          refine r_aload_n rfl ?_
          refine q_getR (Sh.ref hI6084.1 kx_231 rfl) ?_
          refine r_iload_n rfl ?_
          refine r_bipush 6 rfl ?_
          refine q_iadd (v6113.toInt + 6) rfl (by omega) (fun v6119 hv6119 => ?_)
          obtain ⟨v6120, hv6120⟩ : ∃ v, eA g0 233 (900 * v5283.toInt + 8 * x6082.toInt + 118) = v := ⟨_, rfl⟩
          refine q_iald (Sh.arr hI6084.1 ka_233) (900 * v5283.toInt + 8 * x6082.toInt + 118) (by omega) (by omega) v6120 ((eA_c (hF6085.2.1 233 (by decide))).trans hv6120) ?_
          have bv6122 := q_bnd v6118
          have bv6123 := q_bnd v6120
          refine r_ics 20 rfl (fun c6121 => ?_) (fun c6121 => ?_)
          · have c6121_ : v6118.toInt ≥ v6120.toInt := en_i_ge_t c6121
            refine At.enter rfl ?_
            refine r_aload_n rfl ?_
            refine q_getR (Sh.ref hI6084.1 kx_231 rfl) ?_
            refine r_iload_n rfl ?_
            refine q_iald (Sh.arr hI6084.1 ka_233) (900 * v5283.toInt + 8 * x6082.toInt + 112) (by omega) (by omega) v6114 ((eA_c (hF6085.2.1 233 (by decide))).trans hv6114) ?_
            refine r_iconst 2 rfl ?_
            refine r_ics 69 rfl (fun c6124 => ?_) (fun c6124 => ?_)
            · have c6124_ : v6114.toInt ≥ 2 := en_i_ge_t c6124
              refine At.enter rfl ?_
              refine r_iconst 1 rfl ?_
              refine q_iretz (by decide) ?_
              refine At.enter rfl ?_
              refine r_iff 209 rfl (by decide) ?_
              refine At.enter rfl ?_
              refine r_iload_n (w_p1 (by decide) (Or.inr rfl) e6091) ?_
              refine r_iconst 2 rfl ?_
              refine r_ics 214 rfl (fun c6125 => ?_) (fun c6125 => ?_)
              · have c6125_ : a1.toInt ≥ 2 := en_i_ge_t c6125
                refine At.enter rfl ?_
                refine r_lconst 1 rfl ?_
                refine Ar.fall 222 rfl ?_
                refine At.enter rfl ?_
                refine r_lstore _ rfl ?_
                refine Ar.fall 224 rfl ?_
                refine At.enter rfl ?_
                refine q_iinc (w_p2 (by decide) (by decide) (Or.inr rfl) (w_p1 (by decide) (Or.inr rfl) e6099)) (x6082.toInt + 1) rfl (by omega) (fun v6126 hv6126 => ?_)
                refine r_goto ?_
                have zv6127 : (1 : Int64).toInt = 1 := rfl
                exact ih6088 (12 - v6126.toInt) _ _ ⟨1, v6126, by first | rfl | omega, hI6084, hF6085, e6089, (w_p1 (by decide) (Or.inr rfl) (w_p2 (by decide) (by decide) (Or.inr rfl) (w_p1 (by decide) (Or.inr rfl) e6090))), (w_p1 (by decide) (Or.inr rfl) (w_p2 (by decide) (by decide) (Or.inr rfl) (w_p1 (by decide) (Or.inr rfl) e6091))), (w_p1 (by decide) (Or.inr rfl) (w_p2 (by decide) (by decide) (Or.inr rfl) (w_p1 (by decide) (Or.inr rfl) e6092))), (w_p1 (by decide) (Or.inr rfl) (w_p2 (by decide) (by decide) (Or.inr rfl) (w_p1 (by decide) (Or.inr rfl) e6093))), (w_p1 (by decide) (Or.inr rfl) (w_p2 (by decide) (by decide) (Or.inr rfl) (w_p1 (by decide) (Or.inr rfl) e6094))), (w_p1 (by decide) (Or.inr rfl) (w_p2 (by decide) (by decide) (Or.inr rfl) (w_p1 (by decide) (Or.inr rfl) e6095))), (w_p1 (by decide) (Or.inl (by decide)) (w_p2 (by decide) (by decide) (Or.inl (by decide)) (w_p1 (by decide) (Or.inl (by decide)) e6096))), (w_p1 (by decide) (Or.inr rfl) (w_p2 (by decide) (by decide) (Or.inr rfl) (w_p1 (by decide) (Or.inr rfl) e6097))), (w_p1 (by decide) (Or.inl (by decide)) (w_e2 _ _ _)), (w_e1 _ _ _), by omega, (TMI_some q6101.1 (by omega) (by omega) (show x6082.toInt < RWM g0 (eA g0 233 3).toInt 1 from by rw [show RWM g0 (eA g0 233 3).toInt 1 = v6107.toInt from by (show (eA g0 233 (110 + 900 * (eA g0 233 3).toInt + 1)).toInt = _); rw [hv5283, show 110 + 900 * v5283.toInt + 1 = (900 * v5283.toInt + 111) from by omega, hv6107]]; omega) (fun h1 => absurd h1 (by omega)) (fun h1 => absurd h1 (by omega))), (by rw [show RWM g0 (eA g0 233 3).toInt 1 = v6107.toInt from by (show (eA g0 233 (110 + 900 * (eA g0 233 3).toInt + 1)).toInt = _); rw [hv5283, show 110 + 900 * v5283.toInt + 1 = (900 * v5283.toInt + 111) from by omega, hv6107]]; omega)⟩ ⟨by omega, by omega⟩
              · have c6125_ : a1.toInt < 2 := en_i_ge_f c6125
                refine At.enter rfl ?_
                refine r_aload_n (w_p1 (by decide) (Or.inr rfl) e6090) ?_
                obtain ⟨v6128, hv6128⟩ : ∃ v, gJ g6083 231 32 = v := ⟨_, rfl⟩
                refine q_getJv (Sh.long hI6084.1 kx_231 rfl) v6128 hv6128 ?_
                refine r_goto ?_
                refine At.enter rfl ?_
                refine r_lstore _ rfl ?_
                refine Ar.fall 224 rfl ?_
                refine At.enter rfl ?_
                refine q_iinc (w_p2 (by decide) (by decide) (Or.inr rfl) (w_p1 (by decide) (Or.inr rfl) e6099)) (x6082.toInt + 1) rfl (by omega) (fun v6129 hv6129 => ?_)
                refine r_goto ?_
                exact ih6088 (12 - v6129.toInt) _ _ ⟨v6128, v6129, by first | rfl | omega, hI6084, hF6085, e6089, (w_p1 (by decide) (Or.inr rfl) (w_p2 (by decide) (by decide) (Or.inr rfl) (w_p1 (by decide) (Or.inr rfl) e6090))), (w_p1 (by decide) (Or.inr rfl) (w_p2 (by decide) (by decide) (Or.inr rfl) (w_p1 (by decide) (Or.inr rfl) e6091))), (w_p1 (by decide) (Or.inr rfl) (w_p2 (by decide) (by decide) (Or.inr rfl) (w_p1 (by decide) (Or.inr rfl) e6092))), (w_p1 (by decide) (Or.inr rfl) (w_p2 (by decide) (by decide) (Or.inr rfl) (w_p1 (by decide) (Or.inr rfl) e6093))), (w_p1 (by decide) (Or.inr rfl) (w_p2 (by decide) (by decide) (Or.inr rfl) (w_p1 (by decide) (Or.inr rfl) e6094))), (w_p1 (by decide) (Or.inr rfl) (w_p2 (by decide) (by decide) (Or.inr rfl) (w_p1 (by decide) (Or.inr rfl) e6095))), (w_p1 (by decide) (Or.inl (by decide)) (w_p2 (by decide) (by decide) (Or.inl (by decide)) (w_p1 (by decide) (Or.inl (by decide)) e6096))), (w_p1 (by decide) (Or.inr rfl) (w_p2 (by decide) (by decide) (Or.inr rfl) (w_p1 (by decide) (Or.inr rfl) e6097))), (w_p1 (by decide) (Or.inl (by decide)) (w_e2 _ _ _)), (w_e1 _ _ _), by omega, (TMI_some q6101.1 (by omega) (by omega) (show x6082.toInt < RWM g0 (eA g0 233 3).toInt 1 from by rw [show RWM g0 (eA g0 233 3).toInt 1 = v6107.toInt from by (show (eA g0 233 (110 + 900 * (eA g0 233 3).toInt + 1)).toInt = _); rw [hv5283, show 110 + 900 * v5283.toInt + 1 = (900 * v5283.toInt + 111) from by omega, hv6107]]; omega) (fun h1 => absurd h1 (by omega)) (fun h1 => absurd h1 (by omega))), (by rw [show RWM g0 (eA g0 233 3).toInt 1 = v6107.toInt from by (show (eA g0 233 (110 + 900 * (eA g0 233 3).toInt + 1)).toInt = _); rw [hv5283, show 110 + 900 * v5283.toInt + 1 = (900 * v5283.toInt + 111) from by omega, hv6107]]; omega)⟩ ⟨by omega, by omega⟩
            · have c6124_ : v6114.toInt < 2 := en_i_ge_f c6124
              refine At.enter rfl ?_
              refine r_aload_n rfl ?_
              refine r_aload_n rfl ?_
              refine q_getR (Sh.ref hI6084.1 kx_231 rfl) ?_
              refine r_iload_n rfl ?_
              refine r_iconst 3 rfl ?_
              refine q_iadd (v6113.toInt + 3) rfl (by omega) (fun v6130 hv6130 => ?_)
              obtain ⟨v6131, hv6131⟩ : ∃ v, eA g0 233 (900 * v5283.toInt + 8 * x6082.toInt + 115) = v := ⟨_, rfl⟩
              refine q_iald (Sh.arr hI6084.1 ka_233) (900 * v5283.toInt + 8 * x6082.toInt + 115) (by omega) (by omega) v6131 ((eA_c (hF6085.2.1 233 (by decide))).trans hv6131) ?_
              refine r_aload_n rfl ?_
              refine q_getR (Sh.ref hI6084.1 kx_231 rfl) ?_
              refine r_iload_n rfl ?_
              refine r_iconst 4 rfl ?_
              refine q_iadd (v6113.toInt + 4) rfl (by omega) (fun v6132 hv6132 => ?_)
              obtain ⟨v6133, hv6133⟩ : ∃ v, eA g0 233 (900 * v5283.toInt + 8 * x6082.toInt + 116) = v := ⟨_, rfl⟩
              refine q_iald (Sh.arr hI6084.1 ka_233) (900 * v5283.toInt + 8 * x6082.toInt + 116) (by omega) (by omega) v6133 ((eA_c (hF6085.2.1 233 (by decide))).trans hv6133) ?_
              refine r_callV 89 rfl [.ref 231, .int v6131, .int v6133] [] (Nat.le_of_ble_eq_true rfl) rfl (T_X11_reckonAll_231 _ hI6084 v6131 v6133 (HI.code hI0 (j := v5283.toInt) (c := x6082.toInt) ⟨by omega, by omega⟩ (hF6085.2.1 233 (by decide)) (by rw [e6089]; omega) (i := (900 * v5283.toInt + 111)) (by omega) (congrArg Int32.toInt hv6107) ⟨by omega, by omega⟩ (i3 := (900 * v5283.toInt + 8 * x6082.toInt + 115)) (i4 := (900 * v5283.toInt + 8 * x6082.toInt + 116)) 3 (by decide) (by omega) (by omega) (congrArg Int32.toInt hv6131) (congrArg Int32.toInt hv6133))) ?_
              rintro _ _ ⟨g6134, rfl, hI6135, hF6136, rfl, hr6138⟩
              refine At.stn ?_
              have hF6139 := Fr.tr hF6085 hF6136 rfl rfl
              refine At.enter rfl ?_
              refine r_aload_n rfl ?_
              refine r_aload_n rfl ?_
              obtain ⟨v6140, hv6140⟩ : ∃ v, gJ g6134 231 31 = v := ⟨_, rfl⟩
              refine q_getJv (Sh.long hI6135.1 kx_231 rfl) v6140 hv6140 ?_
              refine q_putJ (Sh.long hI6135.1 kx_231 rfl) rfl ?_
              have hI6141 := HI.wJ hI6135 kx_231 rfl (p := 231) (b := 32) (v := v6140)
              have hF6142 := Fr.wJ (p := 231) (b := 32) (v := v6140) hF6139 rfl
              refine r_aload_n rfl ?_
              obtain ⟨v6143, hv6143⟩ : ∃ v, gI g6134 231 30 = v := ⟨_, rfl⟩
              refine q_getI (Sh.int hI6141.1 kx_231 rfl) v6143 ((gI_sJ_ne (by decide)).trans hv6143) ?_
              refine r_ifs 104 rfl (fun c6144 => ?_) (fun c6144 => ?_)
              · have c6144_ : v6143.toInt ≠ 0 := en_k_ne_t c6144
                refine At.enter rfl ?_
                refine r_iconst 0 rfl ?_
                refine Ar.fall 109 rfl ?_
                refine At.enter rfl ?_
                refine q_iretz (by decide) ?_
                refine At.enter rfl ?_
                refine r_ift (by decide) ?_
                refine At.enter rfl ?_
                refine q_iinc (w_p1 (by decide) (Or.inr rfl) e6099) (x6082.toInt + 1) rfl (by omega) (fun v6145 hv6145 => ?_)
                refine r_goto ?_
                exact ih6088 (12 - v6145.toInt) _ _ ⟨x6081, v6145, by first | rfl | omega, hI6141, hF6142, (((gI_sJ_ne (by decide)).trans (hF6136.1 231 27 mf_X11_reckonAll_231_231_27)).trans e6089), (w_p1 (by decide) (Or.inr rfl) (w_p1 (by decide) (Or.inr rfl) e6090)), (w_p1 (by decide) (Or.inr rfl) (w_p1 (by decide) (Or.inr rfl) e6091)), (w_p1 (by decide) (Or.inr rfl) (w_p1 (by decide) (Or.inr rfl) e6092)), (w_p1 (by decide) (Or.inr rfl) (w_p1 (by decide) (Or.inr rfl) e6093)), (w_p1 (by decide) (Or.inr rfl) (w_p1 (by decide) (Or.inr rfl) e6094)), (w_p1 (by decide) (Or.inr rfl) (w_p1 (by decide) (Or.inr rfl) e6095)), (w_p1 (by decide) (Or.inl (by decide)) (w_p1 (by decide) (Or.inl (by decide)) e6096)), (w_p1 (by decide) (Or.inr rfl) (w_p1 (by decide) (Or.inr rfl) e6097)), (w_p1 (by decide) (Or.inl (by decide)) (w_p1 (by decide) (Or.inl (by decide)) e6098)), (w_e1 _ _ _), by omega, (TMI_none q6101 (MCX_c (MCX_c q6101.1 hr6138.1 (hF6136.2.1 233 ma_X11_reckonAll_231_233) (hF6136.1 231 27 mf_X11_reckonAll_231_231_27)) gK_sJ gA_sJ (gI_sJ_ne (by decide))) (by omega) (by omega) (show x6082.toInt < RWM g0 (eA g0 233 3).toInt 1 from by rw [show RWM g0 (eA g0 233 3).toInt 1 = v6107.toInt from by (show (eA g0 233 (110 + 900 * (eA g0 233 3).toInt + 1)).toInt = _); rw [hv5283, show 110 + 900 * v5283.toInt + 1 = (900 * v5283.toInt + 111) from by omega, hv6107]]; omega) (fun h1 L => (CMW_bare (by rw [(show RWM g0 (eA g0 233 3).toInt (2 + 8 * x6082.toInt + 5) = v6118.toInt from by (show (eA g0 233 (110 + 900 * (eA g0 233 3).toInt + (2 + 8 * x6082.toInt + 5))).toInt = _); rw [hv5283, show 110 + 900 * v5283.toInt + (2 + 8 * x6082.toInt + 5) = (900 * v5283.toInt + 8 * x6082.toInt + 117) from by omega, hv6118]), (show RWM g0 (eA g0 233 3).toInt (2 + 8 * x6082.toInt + 6) = v6120.toInt from by (show (eA g0 233 (110 + 900 * (eA g0 233 3).toInt + (2 + 8 * x6082.toInt + 6))).toInt = _); rw [hv5283, show 110 + 900 * v5283.toInt + (2 + 8 * x6082.toInt + 6) = (900 * v5283.toInt + 8 * x6082.toInt + 118) from by omega, hv6120])]; omega) L).trans (EVM_none (WRN_e hr6138 (show RWM g0 (eA g0 233 3).toInt (2 + 8 * x6082.toInt + 3) = v6131.toInt from by (show (eA g0 233 (110 + 900 * (eA g0 233 3).toInt + (2 + 8 * x6082.toInt + 3))).toInt = _); rw [hv5283, show 110 + 900 * v5283.toInt + (2 + 8 * x6082.toInt + 3) = (900 * v5283.toInt + 8 * x6082.toInt + 115) from by omega, hv6131]) (show RWM g0 (eA g0 233 3).toInt (2 + 8 * x6082.toInt + 4) = v6133.toInt from by (show (eA g0 233 (110 + 900 * (eA g0 233 3).toInt + (2 + 8 * x6082.toInt + 4))).toInt = _); rw [hv5283, show 110 + 900 * v5283.toInt + (2 + 8 * x6082.toInt + 4) = (900 * v5283.toInt + 8 * x6082.toInt + 116) from by omega, hv6133])) q6101.1 (by rw [hv6143]; omega) L.1))), (by rw [show RWM g0 (eA g0 233 3).toInt 1 = v6107.toInt from by (show (eA g0 233 (110 + 900 * (eA g0 233 3).toInt + 1)).toInt = _); rw [hv5283, show 110 + 900 * v5283.toInt + 1 = (900 * v5283.toInt + 111) from by omega, hv6107]]; omega)⟩ ⟨by omega, by omega⟩
              · have c6144_ : v6143.toInt = 0 := en_k_ne_f c6144
                refine At.enter rfl ?_
                refine r_iconst 1 rfl ?_
                refine r_goto ?_
                refine At.enter rfl ?_
                refine q_iretz (by decide) ?_
                refine At.enter rfl ?_
                refine r_iff 209 rfl (by decide) ?_
                refine At.enter rfl ?_
                refine r_iload_n (w_p1 (by decide) (Or.inr rfl) e6091) ?_
                refine r_iconst 2 rfl ?_
                refine r_ics 214 rfl (fun c6146 => ?_) (fun c6146 => ?_)
                · have c6146_ : a1.toInt ≥ 2 := en_i_ge_t c6146
                  refine At.enter rfl ?_
                  refine r_lconst 1 rfl ?_
                  refine Ar.fall 222 rfl ?_
                  refine At.enter rfl ?_
                  refine r_lstore _ rfl ?_
                  refine Ar.fall 224 rfl ?_
                  refine At.enter rfl ?_
                  refine q_iinc (w_p2 (by decide) (by decide) (Or.inr rfl) (w_p1 (by decide) (Or.inr rfl) e6099)) (x6082.toInt + 1) rfl (by omega) (fun v6147 hv6147 => ?_)
                  refine r_goto ?_
                  have zv6148 : (1 : Int64).toInt = 1 := rfl
                  exact ih6088 (12 - v6147.toInt) _ _ ⟨1, v6147, by first | rfl | omega, hI6141, hF6142, (((gI_sJ_ne (by decide)).trans (hF6136.1 231 27 mf_X11_reckonAll_231_231_27)).trans e6089), (w_p1 (by decide) (Or.inr rfl) (w_p2 (by decide) (by decide) (Or.inr rfl) (w_p1 (by decide) (Or.inr rfl) e6090))), (w_p1 (by decide) (Or.inr rfl) (w_p2 (by decide) (by decide) (Or.inr rfl) (w_p1 (by decide) (Or.inr rfl) e6091))), (w_p1 (by decide) (Or.inr rfl) (w_p2 (by decide) (by decide) (Or.inr rfl) (w_p1 (by decide) (Or.inr rfl) e6092))), (w_p1 (by decide) (Or.inr rfl) (w_p2 (by decide) (by decide) (Or.inr rfl) (w_p1 (by decide) (Or.inr rfl) e6093))), (w_p1 (by decide) (Or.inr rfl) (w_p2 (by decide) (by decide) (Or.inr rfl) (w_p1 (by decide) (Or.inr rfl) e6094))), (w_p1 (by decide) (Or.inr rfl) (w_p2 (by decide) (by decide) (Or.inr rfl) (w_p1 (by decide) (Or.inr rfl) e6095))), (w_p1 (by decide) (Or.inl (by decide)) (w_p2 (by decide) (by decide) (Or.inl (by decide)) (w_p1 (by decide) (Or.inl (by decide)) e6096))), (w_p1 (by decide) (Or.inr rfl) (w_p2 (by decide) (by decide) (Or.inr rfl) (w_p1 (by decide) (Or.inr rfl) e6097))), (w_p1 (by decide) (Or.inl (by decide)) (w_e2 _ _ _)), (w_e1 _ _ _), by omega, (by first | exact TMI_some (MCX_c (MCX_c q6101.1 hr6138.1 (hF6136.2.1 233 ma_X11_reckonAll_231_233) (hF6136.1 231 27 mf_X11_reckonAll_231_231_27)) gK_sJ gA_sJ (gI_sJ_ne (by decide))) (by omega) (by omega) (show x6082.toInt < RWM g0 (eA g0 233 3).toInt 1 from by rw [show RWM g0 (eA g0 233 3).toInt 1 = v6107.toInt from by (show (eA g0 233 (110 + 900 * (eA g0 233 3).toInt + 1)).toInt = _); rw [hv5283, show 110 + 900 * v5283.toInt + 1 = (900 * v5283.toInt + 111) from by omega, hv6107]]; omega) (fun h1 => by rw [(show RWM g0 (eA g0 233 3).toInt (2 + 8 * x6082.toInt) = v6114.toInt from by (show (eA g0 233 (110 + 900 * (eA g0 233 3).toInt + (2 + 8 * x6082.toInt))).toInt = _); rw [hv5283, show 110 + 900 * v5283.toInt + (2 + 8 * x6082.toInt) = (900 * v5283.toInt + 8 * x6082.toInt + 112) from by omega, hv6114])]; omega) (fun h1 L => (CMW_bare (by rw [(show RWM g0 (eA g0 233 3).toInt (2 + 8 * x6082.toInt + 5) = v6118.toInt from by (show (eA g0 233 (110 + 900 * (eA g0 233 3).toInt + (2 + 8 * x6082.toInt + 5))).toInt = _); rw [hv5283, show 110 + 900 * v5283.toInt + (2 + 8 * x6082.toInt + 5) = (900 * v5283.toInt + 8 * x6082.toInt + 117) from by omega, hv6118]), (show RWM g0 (eA g0 233 3).toInt (2 + 8 * x6082.toInt + 6) = v6120.toInt from by (show (eA g0 233 (110 + 900 * (eA g0 233 3).toInt + (2 + 8 * x6082.toInt + 6))).toInt = _); rw [hv5283, show 110 + 900 * v5283.toInt + (2 + 8 * x6082.toInt + 6) = (900 * v5283.toInt + 8 * x6082.toInt + 118) from by omega, hv6120])]; omega) L).trans (EVM_some (WRN_e hr6138 (show RWM g0 (eA g0 233 3).toInt (2 + 8 * x6082.toInt + 3) = v6131.toInt from by (show (eA g0 233 (110 + 900 * (eA g0 233 3).toInt + (2 + 8 * x6082.toInt + 3))).toInt = _); rw [hv5283, show 110 + 900 * v5283.toInt + (2 + 8 * x6082.toInt + 3) = (900 * v5283.toInt + 8 * x6082.toInt + 115) from by omega, hv6131]) (show RWM g0 (eA g0 233 3).toInt (2 + 8 * x6082.toInt + 4) = v6133.toInt from by (show (eA g0 233 (110 + 900 * (eA g0 233 3).toInt + (2 + 8 * x6082.toInt + 4))).toInt = _); rw [hv5283, show 110 + 900 * v5283.toInt + (2 + 8 * x6082.toInt + 4) = (900 * v5283.toInt + 8 * x6082.toInt + 116) from by omega, hv6133])) q6101.1 ((congrArg Int32.toInt hv6143).trans (by omega)) (congrArg Int64.toInt hv6140) L.1)) | exact TMI_some (MCX_c (MCX_c q6101.1 hr6138.1 (hF6136.2.1 233 ma_X11_reckonAll_231_233) (hF6136.1 231 27 mf_X11_reckonAll_231_231_27)) gK_sJ gA_sJ (gI_sJ_ne (by decide))) (by omega) (by omega) (show x6082.toInt < RWM g0 (eA g0 233 3).toInt 1 from by rw [show RWM g0 (eA g0 233 3).toInt 1 = v6107.toInt from by (show (eA g0 233 (110 + 900 * (eA g0 233 3).toInt + 1)).toInt = _); rw [hv5283, show 110 + 900 * v5283.toInt + 1 = (900 * v5283.toInt + 111) from by omega, hv6107]]; omega) (fun h1 => absurd h1 (by omega)) (fun h1 => absurd h1 (by omega))), (by rw [show RWM g0 (eA g0 233 3).toInt 1 = v6107.toInt from by (show (eA g0 233 (110 + 900 * (eA g0 233 3).toInt + 1)).toInt = _); rw [hv5283, show 110 + 900 * v5283.toInt + 1 = (900 * v5283.toInt + 111) from by omega, hv6107]]; omega)⟩ ⟨by omega, by omega⟩
                · have c6146_ : a1.toInt < 2 := en_i_ge_f c6146
                  refine At.enter rfl ?_
                  refine r_aload_n (w_p1 (by decide) (Or.inr rfl) e6090) ?_
                  refine q_getJv (Sh.long hI6141.1 kx_231 rfl) v6140 (gJ_sJ_eq hI6135.1 kx_231 rfl _) ?_
                  refine r_goto ?_
                  refine At.enter rfl ?_
                  refine r_lstore _ rfl ?_
                  refine Ar.fall 224 rfl ?_
                  refine At.enter rfl ?_
                  refine q_iinc (w_p2 (by decide) (by decide) (Or.inr rfl) (w_p1 (by decide) (Or.inr rfl) e6099)) (x6082.toInt + 1) rfl (by omega) (fun v6149 hv6149 => ?_)
                  refine r_goto ?_
                  exact ih6088 (12 - v6149.toInt) _ _ ⟨v6140, v6149, by first | rfl | omega, hI6141, hF6142, (((gI_sJ_ne (by decide)).trans (hF6136.1 231 27 mf_X11_reckonAll_231_231_27)).trans e6089), (w_p1 (by decide) (Or.inr rfl) (w_p2 (by decide) (by decide) (Or.inr rfl) (w_p1 (by decide) (Or.inr rfl) e6090))), (w_p1 (by decide) (Or.inr rfl) (w_p2 (by decide) (by decide) (Or.inr rfl) (w_p1 (by decide) (Or.inr rfl) e6091))), (w_p1 (by decide) (Or.inr rfl) (w_p2 (by decide) (by decide) (Or.inr rfl) (w_p1 (by decide) (Or.inr rfl) e6092))), (w_p1 (by decide) (Or.inr rfl) (w_p2 (by decide) (by decide) (Or.inr rfl) (w_p1 (by decide) (Or.inr rfl) e6093))), (w_p1 (by decide) (Or.inr rfl) (w_p2 (by decide) (by decide) (Or.inr rfl) (w_p1 (by decide) (Or.inr rfl) e6094))), (w_p1 (by decide) (Or.inr rfl) (w_p2 (by decide) (by decide) (Or.inr rfl) (w_p1 (by decide) (Or.inr rfl) e6095))), (w_p1 (by decide) (Or.inl (by decide)) (w_p2 (by decide) (by decide) (Or.inl (by decide)) (w_p1 (by decide) (Or.inl (by decide)) e6096))), (w_p1 (by decide) (Or.inr rfl) (w_p2 (by decide) (by decide) (Or.inr rfl) (w_p1 (by decide) (Or.inr rfl) e6097))), (w_p1 (by decide) (Or.inl (by decide)) (w_e2 _ _ _)), (w_e1 _ _ _), by omega, (by first | exact TMI_some (MCX_c (MCX_c q6101.1 hr6138.1 (hF6136.2.1 233 ma_X11_reckonAll_231_233) (hF6136.1 231 27 mf_X11_reckonAll_231_231_27)) gK_sJ gA_sJ (gI_sJ_ne (by decide))) (by omega) (by omega) (show x6082.toInt < RWM g0 (eA g0 233 3).toInt 1 from by rw [show RWM g0 (eA g0 233 3).toInt 1 = v6107.toInt from by (show (eA g0 233 (110 + 900 * (eA g0 233 3).toInt + 1)).toInt = _); rw [hv5283, show 110 + 900 * v5283.toInt + 1 = (900 * v5283.toInt + 111) from by omega, hv6107]]; omega) (fun h1 => by rw [(show RWM g0 (eA g0 233 3).toInt (2 + 8 * x6082.toInt) = v6114.toInt from by (show (eA g0 233 (110 + 900 * (eA g0 233 3).toInt + (2 + 8 * x6082.toInt))).toInt = _); rw [hv5283, show 110 + 900 * v5283.toInt + (2 + 8 * x6082.toInt) = (900 * v5283.toInt + 8 * x6082.toInt + 112) from by omega, hv6114])]; omega) (fun h1 L => (CMW_bare (by rw [(show RWM g0 (eA g0 233 3).toInt (2 + 8 * x6082.toInt + 5) = v6118.toInt from by (show (eA g0 233 (110 + 900 * (eA g0 233 3).toInt + (2 + 8 * x6082.toInt + 5))).toInt = _); rw [hv5283, show 110 + 900 * v5283.toInt + (2 + 8 * x6082.toInt + 5) = (900 * v5283.toInt + 8 * x6082.toInt + 117) from by omega, hv6118]), (show RWM g0 (eA g0 233 3).toInt (2 + 8 * x6082.toInt + 6) = v6120.toInt from by (show (eA g0 233 (110 + 900 * (eA g0 233 3).toInt + (2 + 8 * x6082.toInt + 6))).toInt = _); rw [hv5283, show 110 + 900 * v5283.toInt + (2 + 8 * x6082.toInt + 6) = (900 * v5283.toInt + 8 * x6082.toInt + 118) from by omega, hv6120])]; omega) L).trans (EVM_some (WRN_e hr6138 (show RWM g0 (eA g0 233 3).toInt (2 + 8 * x6082.toInt + 3) = v6131.toInt from by (show (eA g0 233 (110 + 900 * (eA g0 233 3).toInt + (2 + 8 * x6082.toInt + 3))).toInt = _); rw [hv5283, show 110 + 900 * v5283.toInt + (2 + 8 * x6082.toInt + 3) = (900 * v5283.toInt + 8 * x6082.toInt + 115) from by omega, hv6131]) (show RWM g0 (eA g0 233 3).toInt (2 + 8 * x6082.toInt + 4) = v6133.toInt from by (show (eA g0 233 (110 + 900 * (eA g0 233 3).toInt + (2 + 8 * x6082.toInt + 4))).toInt = _); rw [hv5283, show 110 + 900 * v5283.toInt + (2 + 8 * x6082.toInt + 4) = (900 * v5283.toInt + 8 * x6082.toInt + 116) from by omega, hv6133])) q6101.1 ((congrArg Int32.toInt hv6143).trans (by omega)) (congrArg Int64.toInt hv6140) L.1)) | exact TMI_some (MCX_c (MCX_c q6101.1 hr6138.1 (hF6136.2.1 233 ma_X11_reckonAll_231_233) (hF6136.1 231 27 mf_X11_reckonAll_231_231_27)) gK_sJ gA_sJ (gI_sJ_ne (by decide))) (by omega) (by omega) (show x6082.toInt < RWM g0 (eA g0 233 3).toInt 1 from by rw [show RWM g0 (eA g0 233 3).toInt 1 = v6107.toInt from by (show (eA g0 233 (110 + 900 * (eA g0 233 3).toInt + 1)).toInt = _); rw [hv5283, show 110 + 900 * v5283.toInt + 1 = (900 * v5283.toInt + 111) from by omega, hv6107]]; omega) (fun h1 => absurd h1 (by omega)) (fun h1 => absurd h1 (by omega))), (by rw [show RWM g0 (eA g0 233 3).toInt 1 = v6107.toInt from by (show (eA g0 233 (110 + 900 * (eA g0 233 3).toInt + 1)).toInt = _); rw [hv5283, show 110 + 900 * v5283.toInt + 1 = (900 * v5283.toInt + 111) from by omega, hv6107]]; omega)⟩ ⟨by omega, by omega⟩
          · have c6121_ : v6118.toInt < v6120.toInt := en_i_ge_f c6121
            refine At.enter rfl ?_
            refine r_aload_n rfl ?_
            refine r_aload_n rfl ?_
            refine q_getR (Sh.ref hI6084.1 kx_231 rfl) ?_
            refine r_iload_n rfl ?_
            refine r_iconst 5 rfl ?_
            refine q_iadd (v6113.toInt + 5) rfl (by omega) (fun v6150 hv6150 => ?_)
            refine q_iald (Sh.arr hI6084.1 ka_233) (900 * v5283.toInt + 8 * x6082.toInt + 117) (by omega) (by omega) v6118 ((eA_c (hF6085.2.1 233 (by decide))).trans hv6118) ?_
            refine r_aload_n rfl ?_
            refine q_getR (Sh.ref hI6084.1 kx_231 rfl) ?_
            refine r_iload_n rfl ?_
            refine r_bipush 6 rfl ?_
            refine q_iadd (v6113.toInt + 6) rfl (by omega) (fun v6151 hv6151 => ?_)
            refine q_iald (Sh.arr hI6084.1 ka_233) (900 * v5283.toInt + 8 * x6082.toInt + 118) (by omega) (by omega) v6120 ((eA_c (hF6085.2.1 233 (by decide))).trans hv6120) ?_
            refine r_callV 41 rfl [.ref 231, .int v6118, .int v6120] [] (Nat.le_of_ble_eq_true rfl) rfl (T_X11_reckonAll_231 _ hI6084 v6118 v6120 (HI.code hI0 (j := v5283.toInt) (c := x6082.toInt) ⟨by omega, by omega⟩ (hF6085.2.1 233 (by decide)) (by rw [e6089]; omega) (i := (900 * v5283.toInt + 111)) (by omega) (congrArg Int32.toInt hv6107) ⟨by omega, by omega⟩ (i3 := (900 * v5283.toInt + 8 * x6082.toInt + 117)) (i4 := (900 * v5283.toInt + 8 * x6082.toInt + 118)) 5 (by decide) (by omega) (by omega) (congrArg Int32.toInt hv6118) (congrArg Int32.toInt hv6120))) ?_
            rintro _ _ ⟨g6152, rfl, hI6153, hF6154, rfl, hr6156⟩
            refine At.stn ?_
            have hF6157 := Fr.tr hF6085 hF6154 rfl rfl
            refine At.enter rfl ?_
            refine r_aload_n rfl ?_
            obtain ⟨v6158, hv6158⟩ : ∃ v, gI g6152 231 30 = v := ⟨_, rfl⟩
            refine q_getI (Sh.int hI6153.1 kx_231 rfl) v6158 hv6158 ?_
            refine r_ifs 48 rfl (fun c6159 => ?_) (fun c6159 => ?_)
            · have c6159_ : v6158.toInt ≠ 0 := en_k_ne_t c6159
              refine At.enter rfl ?_
              refine r_iconst 0 rfl ?_
              refine q_iretz (by decide) ?_
              refine At.enter rfl ?_
              refine r_ift (by decide) ?_
              refine At.enter rfl ?_
              refine q_iinc (w_p1 (by decide) (Or.inr rfl) e6099) (x6082.toInt + 1) rfl (by omega) (fun v6160 hv6160 => ?_)
              refine r_goto ?_
              exact ih6088 (12 - v6160.toInt) _ _ ⟨x6081, v6160, by first | rfl | omega, hI6153, hF6157, ((hF6154.1 231 27 mf_X11_reckonAll_231_231_27).trans e6089), (w_p1 (by decide) (Or.inr rfl) (w_p1 (by decide) (Or.inr rfl) e6090)), (w_p1 (by decide) (Or.inr rfl) (w_p1 (by decide) (Or.inr rfl) e6091)), (w_p1 (by decide) (Or.inr rfl) (w_p1 (by decide) (Or.inr rfl) e6092)), (w_p1 (by decide) (Or.inr rfl) (w_p1 (by decide) (Or.inr rfl) e6093)), (w_p1 (by decide) (Or.inr rfl) (w_p1 (by decide) (Or.inr rfl) e6094)), (w_p1 (by decide) (Or.inr rfl) (w_p1 (by decide) (Or.inr rfl) e6095)), (w_p1 (by decide) (Or.inl (by decide)) (w_p1 (by decide) (Or.inl (by decide)) e6096)), (w_p1 (by decide) (Or.inr rfl) (w_p1 (by decide) (Or.inr rfl) e6097)), (w_p1 (by decide) (Or.inl (by decide)) (w_p1 (by decide) (Or.inl (by decide)) e6098)), (w_e1 _ _ _), by omega, (TMI_none q6101 (MCX_c q6101.1 hr6156.1 (hF6154.2.1 233 ma_X11_reckonAll_231_233) (hF6154.1 231 27 mf_X11_reckonAll_231_231_27)) (by omega) (by omega) (show x6082.toInt < RWM g0 (eA g0 233 3).toInt 1 from by rw [show RWM g0 (eA g0 233 3).toInt 1 = v6107.toInt from by (show (eA g0 233 (110 + 900 * (eA g0 233 3).toInt + 1)).toInt = _); rw [hv5283, show 110 + 900 * v5283.toInt + 1 = (900 * v5283.toInt + 111) from by omega, hv6107]]; omega) (fun h1 L => by first | exact CMW_no (by rw [(show RWM g0 (eA g0 233 3).toInt (2 + 8 * x6082.toInt + 5) = v6118.toInt from by (show (eA g0 233 (110 + 900 * (eA g0 233 3).toInt + (2 + 8 * x6082.toInt + 5))).toInt = _); rw [hv5283, show 110 + 900 * v5283.toInt + (2 + 8 * x6082.toInt + 5) = (900 * v5283.toInt + 8 * x6082.toInt + 117) from by omega, hv6118]), (show RWM g0 (eA g0 233 3).toInt (2 + 8 * x6082.toInt + 6) = v6120.toInt from by (show (eA g0 233 (110 + 900 * (eA g0 233 3).toInt + (2 + 8 * x6082.toInt + 6))).toInt = _); rw [hv5283, show 110 + 900 * v5283.toInt + (2 + 8 * x6082.toInt + 6) = (900 * v5283.toInt + 8 * x6082.toInt + 118) from by omega, hv6120])]; omega) (WRN_e hr6156 (show RWM g0 (eA g0 233 3).toInt (2 + 8 * x6082.toInt + 5) = v6118.toInt from by (show (eA g0 233 (110 + 900 * (eA g0 233 3).toInt + (2 + 8 * x6082.toInt + 5))).toInt = _); rw [hv5283, show 110 + 900 * v5283.toInt + (2 + 8 * x6082.toInt + 5) = (900 * v5283.toInt + 8 * x6082.toInt + 117) from by omega, hv6118]) (show RWM g0 (eA g0 233 3).toInt (2 + 8 * x6082.toInt + 6) = v6120.toInt from by (show (eA g0 233 (110 + 900 * (eA g0 233 3).toInt + (2 + 8 * x6082.toInt + 6))).toInt = _); rw [hv5283, show 110 + 900 * v5283.toInt + (2 + 8 * x6082.toInt + 6) = (900 * v5283.toInt + 8 * x6082.toInt + 118) from by omega, hv6120])) q6101.1 rfl (Or.inl (by rw [hv6158]; omega)) L)), (by rw [show RWM g0 (eA g0 233 3).toInt 1 = v6107.toInt from by (show (eA g0 233 (110 + 900 * (eA g0 233 3).toInt + 1)).toInt = _); rw [hv5283, show 110 + 900 * v5283.toInt + 1 = (900 * v5283.toInt + 111) from by omega, hv6107]]; omega)⟩ ⟨by omega, by omega⟩
            · have c6159_ : v6158.toInt = 0 := en_k_ne_f c6159
              refine At.enter rfl ?_
              refine r_aload_n rfl ?_
              obtain ⟨v6161, hv6161⟩ : ∃ v, gJ g6152 231 31 = v := ⟨_, rfl⟩
              refine q_getJv (Sh.long hI6153.1 kx_231 rfl) v6161 hv6161 ?_
              refine r_lconst 0 rfl ?_
              refine r_lcmp _ rfl ?_
              refine r_ifs 57 rfl (fun c6162 => ?_) (fun c6162 => ?_)
              · have c6162_ : v6161.toInt ≠ 0 := en_j_ne_t c6162
                refine At.enter rfl ?_
                refine r_aload_n rfl ?_
                refine q_getR (Sh.ref hI6153.1 kx_231 rfl) ?_
                refine r_iload_n rfl ?_
                refine q_iald (Sh.arr hI6153.1 ka_233) (900 * v5283.toInt + 8 * x6082.toInt + 112) (by omega) (by omega) v6114 ((eA_c ((hF6154.2.1 233 ma_X11_reckonAll_231_233).trans (hF6085.2.1 233 (by decide)))).trans hv6114) ?_
                refine r_iconst 2 rfl ?_
                refine r_ics 69 rfl (fun c6163 => ?_) (fun c6163 => ?_)
                · have c6163_ : v6114.toInt ≥ 2 := en_i_ge_t c6163
                  refine At.enter rfl ?_
                  refine r_iconst 1 rfl ?_
                  refine q_iretz (by decide) ?_
                  refine At.enter rfl ?_
                  refine r_iff 209 rfl (by decide) ?_
                  refine At.enter rfl ?_
                  refine r_iload_n (w_p1 (by decide) (Or.inr rfl) e6091) ?_
                  refine r_iconst 2 rfl ?_
                  refine r_ics 214 rfl (fun c6164 => ?_) (fun c6164 => ?_)
                  · have c6164_ : a1.toInt ≥ 2 := en_i_ge_t c6164
                    refine At.enter rfl ?_
                    refine r_lconst 1 rfl ?_
                    refine Ar.fall 222 rfl ?_
                    refine At.enter rfl ?_
                    refine r_lstore _ rfl ?_
                    refine Ar.fall 224 rfl ?_
                    refine At.enter rfl ?_
                    refine q_iinc (w_p2 (by decide) (by decide) (Or.inr rfl) (w_p1 (by decide) (Or.inr rfl) e6099)) (x6082.toInt + 1) rfl (by omega) (fun v6165 hv6165 => ?_)
                    refine r_goto ?_
                    have zv6166 : (1 : Int64).toInt = 1 := rfl
                    exact ih6088 (12 - v6165.toInt) _ _ ⟨1, v6165, by first | rfl | omega, hI6153, hF6157, ((hF6154.1 231 27 mf_X11_reckonAll_231_231_27).trans e6089), (w_p1 (by decide) (Or.inr rfl) (w_p2 (by decide) (by decide) (Or.inr rfl) (w_p1 (by decide) (Or.inr rfl) e6090))), (w_p1 (by decide) (Or.inr rfl) (w_p2 (by decide) (by decide) (Or.inr rfl) (w_p1 (by decide) (Or.inr rfl) e6091))), (w_p1 (by decide) (Or.inr rfl) (w_p2 (by decide) (by decide) (Or.inr rfl) (w_p1 (by decide) (Or.inr rfl) e6092))), (w_p1 (by decide) (Or.inr rfl) (w_p2 (by decide) (by decide) (Or.inr rfl) (w_p1 (by decide) (Or.inr rfl) e6093))), (w_p1 (by decide) (Or.inr rfl) (w_p2 (by decide) (by decide) (Or.inr rfl) (w_p1 (by decide) (Or.inr rfl) e6094))), (w_p1 (by decide) (Or.inr rfl) (w_p2 (by decide) (by decide) (Or.inr rfl) (w_p1 (by decide) (Or.inr rfl) e6095))), (w_p1 (by decide) (Or.inl (by decide)) (w_p2 (by decide) (by decide) (Or.inl (by decide)) (w_p1 (by decide) (Or.inl (by decide)) e6096))), (w_p1 (by decide) (Or.inr rfl) (w_p2 (by decide) (by decide) (Or.inr rfl) (w_p1 (by decide) (Or.inr rfl) e6097))), (w_p1 (by decide) (Or.inl (by decide)) (w_e2 _ _ _)), (w_e1 _ _ _), by omega, (TMI_some (MCX_c q6101.1 hr6156.1 (hF6154.2.1 233 ma_X11_reckonAll_231_233) (hF6154.1 231 27 mf_X11_reckonAll_231_231_27)) (by omega) (by omega) (show x6082.toInt < RWM g0 (eA g0 233 3).toInt 1 from by rw [show RWM g0 (eA g0 233 3).toInt 1 = v6107.toInt from by (show (eA g0 233 (110 + 900 * (eA g0 233 3).toInt + 1)).toInt = _); rw [hv5283, show 110 + 900 * v5283.toInt + 1 = (900 * v5283.toInt + 111) from by omega, hv6107]]; omega) (fun h1 => absurd h1 (by omega)) (fun h1 => absurd h1 (by omega))), (by rw [show RWM g0 (eA g0 233 3).toInt 1 = v6107.toInt from by (show (eA g0 233 (110 + 900 * (eA g0 233 3).toInt + 1)).toInt = _); rw [hv5283, show 110 + 900 * v5283.toInt + 1 = (900 * v5283.toInt + 111) from by omega, hv6107]]; omega)⟩ ⟨by omega, by omega⟩
                  · have c6164_ : a1.toInt < 2 := en_i_ge_f c6164
                    refine At.enter rfl ?_
                    refine r_aload_n (w_p1 (by decide) (Or.inr rfl) e6090) ?_
                    obtain ⟨v6167, hv6167⟩ : ∃ v, gJ g6083 231 32 = v := ⟨_, rfl⟩
                    refine q_getJv (Sh.long hI6153.1 kx_231 rfl) v6167 ((hF6154.2.2 231 32 mf_X11_reckonAll_231_231_32).trans hv6167) ?_
                    refine r_goto ?_
                    refine At.enter rfl ?_
                    refine r_lstore _ rfl ?_
                    refine Ar.fall 224 rfl ?_
                    refine At.enter rfl ?_
                    refine q_iinc (w_p2 (by decide) (by decide) (Or.inr rfl) (w_p1 (by decide) (Or.inr rfl) e6099)) (x6082.toInt + 1) rfl (by omega) (fun v6168 hv6168 => ?_)
                    refine r_goto ?_
                    exact ih6088 (12 - v6168.toInt) _ _ ⟨v6167, v6168, by first | rfl | omega, hI6153, hF6157, ((hF6154.1 231 27 mf_X11_reckonAll_231_231_27).trans e6089), (w_p1 (by decide) (Or.inr rfl) (w_p2 (by decide) (by decide) (Or.inr rfl) (w_p1 (by decide) (Or.inr rfl) e6090))), (w_p1 (by decide) (Or.inr rfl) (w_p2 (by decide) (by decide) (Or.inr rfl) (w_p1 (by decide) (Or.inr rfl) e6091))), (w_p1 (by decide) (Or.inr rfl) (w_p2 (by decide) (by decide) (Or.inr rfl) (w_p1 (by decide) (Or.inr rfl) e6092))), (w_p1 (by decide) (Or.inr rfl) (w_p2 (by decide) (by decide) (Or.inr rfl) (w_p1 (by decide) (Or.inr rfl) e6093))), (w_p1 (by decide) (Or.inr rfl) (w_p2 (by decide) (by decide) (Or.inr rfl) (w_p1 (by decide) (Or.inr rfl) e6094))), (w_p1 (by decide) (Or.inr rfl) (w_p2 (by decide) (by decide) (Or.inr rfl) (w_p1 (by decide) (Or.inr rfl) e6095))), (w_p1 (by decide) (Or.inl (by decide)) (w_p2 (by decide) (by decide) (Or.inl (by decide)) (w_p1 (by decide) (Or.inl (by decide)) e6096))), (w_p1 (by decide) (Or.inr rfl) (w_p2 (by decide) (by decide) (Or.inr rfl) (w_p1 (by decide) (Or.inr rfl) e6097))), (w_p1 (by decide) (Or.inl (by decide)) (w_e2 _ _ _)), (w_e1 _ _ _), by omega, (TMI_some (MCX_c q6101.1 hr6156.1 (hF6154.2.1 233 ma_X11_reckonAll_231_233) (hF6154.1 231 27 mf_X11_reckonAll_231_231_27)) (by omega) (by omega) (show x6082.toInt < RWM g0 (eA g0 233 3).toInt 1 from by rw [show RWM g0 (eA g0 233 3).toInt 1 = v6107.toInt from by (show (eA g0 233 (110 + 900 * (eA g0 233 3).toInt + 1)).toInt = _); rw [hv5283, show 110 + 900 * v5283.toInt + 1 = (900 * v5283.toInt + 111) from by omega, hv6107]]; omega) (fun h1 => absurd h1 (by omega)) (fun h1 => absurd h1 (by omega))), (by rw [show RWM g0 (eA g0 233 3).toInt 1 = v6107.toInt from by (show (eA g0 233 (110 + 900 * (eA g0 233 3).toInt + 1)).toInt = _); rw [hv5283, show 110 + 900 * v5283.toInt + 1 = (900 * v5283.toInt + 111) from by omega, hv6107]]; omega)⟩ ⟨by omega, by omega⟩
                · have c6163_ : v6114.toInt < 2 := en_i_ge_f c6163
                  refine At.enter rfl ?_
                  refine r_aload_n rfl ?_
                  refine r_aload_n rfl ?_
                  refine q_getR (Sh.ref hI6153.1 kx_231 rfl) ?_
                  refine r_iload_n rfl ?_
                  refine r_iconst 3 rfl ?_
                  refine q_iadd (v6113.toInt + 3) rfl (by omega) (fun v6169 hv6169 => ?_)
                  obtain ⟨v6170, hv6170⟩ : ∃ v, eA g0 233 (900 * v5283.toInt + 8 * x6082.toInt + 115) = v := ⟨_, rfl⟩
                  refine q_iald (Sh.arr hI6153.1 ka_233) (900 * v5283.toInt + 8 * x6082.toInt + 115) (by omega) (by omega) v6170 ((eA_c ((hF6154.2.1 233 ma_X11_reckonAll_231_233).trans (hF6085.2.1 233 (by decide)))).trans hv6170) ?_
                  refine r_aload_n rfl ?_
                  refine q_getR (Sh.ref hI6153.1 kx_231 rfl) ?_
                  refine r_iload_n rfl ?_
                  refine r_iconst 4 rfl ?_
                  refine q_iadd (v6113.toInt + 4) rfl (by omega) (fun v6171 hv6171 => ?_)
                  obtain ⟨v6172, hv6172⟩ : ∃ v, eA g0 233 (900 * v5283.toInt + 8 * x6082.toInt + 116) = v := ⟨_, rfl⟩
                  refine q_iald (Sh.arr hI6153.1 ka_233) (900 * v5283.toInt + 8 * x6082.toInt + 116) (by omega) (by omega) v6172 ((eA_c ((hF6154.2.1 233 ma_X11_reckonAll_231_233).trans (hF6085.2.1 233 (by decide)))).trans hv6172) ?_
                  refine r_callV 89 rfl [.ref 231, .int v6170, .int v6172] [] (Nat.le_of_ble_eq_true rfl) rfl (T_X11_reckonAll_231 _ hI6153 v6170 v6172 (HI.code hI0 (j := v5283.toInt) (c := x6082.toInt) ⟨by omega, by omega⟩ ((hF6154.2.1 233 ma_X11_reckonAll_231_233).trans (hF6085.2.1 233 (by decide))) (by rw [((hF6154.1 231 27 mf_X11_reckonAll_231_231_27).trans e6089)]; omega) (i := (900 * v5283.toInt + 111)) (by omega) (congrArg Int32.toInt hv6107) ⟨by omega, by omega⟩ (i3 := (900 * v5283.toInt + 8 * x6082.toInt + 115)) (i4 := (900 * v5283.toInt + 8 * x6082.toInt + 116)) 3 (by decide) (by omega) (by omega) (congrArg Int32.toInt hv6170) (congrArg Int32.toInt hv6172))) ?_
                  rintro _ _ ⟨g6173, rfl, hI6174, hF6175, rfl, hr6177⟩
                  refine At.stn ?_
                  have hF6178 := Fr.tr hF6157 hF6175 rfl rfl
                  refine At.enter rfl ?_
                  refine r_aload_n rfl ?_
                  refine r_aload_n rfl ?_
                  obtain ⟨v6179, hv6179⟩ : ∃ v, gJ g6173 231 31 = v := ⟨_, rfl⟩
                  refine q_getJv (Sh.long hI6174.1 kx_231 rfl) v6179 hv6179 ?_
                  refine q_putJ (Sh.long hI6174.1 kx_231 rfl) rfl ?_
                  have hI6180 := HI.wJ hI6174 kx_231 rfl (p := 231) (b := 32) (v := v6179)
                  have hF6181 := Fr.wJ (p := 231) (b := 32) (v := v6179) hF6178 rfl
                  refine r_aload_n rfl ?_
                  obtain ⟨v6182, hv6182⟩ : ∃ v, gI g6173 231 30 = v := ⟨_, rfl⟩
                  refine q_getI (Sh.int hI6180.1 kx_231 rfl) v6182 ((gI_sJ_ne (by decide)).trans hv6182) ?_
                  refine r_ifs 104 rfl (fun c6183 => ?_) (fun c6183 => ?_)
                  · have c6183_ : v6182.toInt ≠ 0 := en_k_ne_t c6183
                    refine At.enter rfl ?_
                    refine r_iconst 0 rfl ?_
                    refine Ar.fall 109 rfl ?_
                    refine At.enter rfl ?_
                    refine q_iretz (by decide) ?_
                    refine At.enter rfl ?_
                    refine r_ift (by decide) ?_
                    refine At.enter rfl ?_
                    refine q_iinc (w_p1 (by decide) (Or.inr rfl) e6099) (x6082.toInt + 1) rfl (by omega) (fun v6184 hv6184 => ?_)
                    refine r_goto ?_
                    exact ih6088 (12 - v6184.toInt) _ _ ⟨x6081, v6184, by first | rfl | omega, hI6180, hF6181, (((gI_sJ_ne (by decide)).trans ((hF6175.1 231 27 mf_X11_reckonAll_231_231_27).trans (hF6154.1 231 27 mf_X11_reckonAll_231_231_27))).trans e6089), (w_p1 (by decide) (Or.inr rfl) (w_p1 (by decide) (Or.inr rfl) e6090)), (w_p1 (by decide) (Or.inr rfl) (w_p1 (by decide) (Or.inr rfl) e6091)), (w_p1 (by decide) (Or.inr rfl) (w_p1 (by decide) (Or.inr rfl) e6092)), (w_p1 (by decide) (Or.inr rfl) (w_p1 (by decide) (Or.inr rfl) e6093)), (w_p1 (by decide) (Or.inr rfl) (w_p1 (by decide) (Or.inr rfl) e6094)), (w_p1 (by decide) (Or.inr rfl) (w_p1 (by decide) (Or.inr rfl) e6095)), (w_p1 (by decide) (Or.inl (by decide)) (w_p1 (by decide) (Or.inl (by decide)) e6096)), (w_p1 (by decide) (Or.inr rfl) (w_p1 (by decide) (Or.inr rfl) e6097)), (w_p1 (by decide) (Or.inl (by decide)) (w_p1 (by decide) (Or.inl (by decide)) e6098)), (w_e1 _ _ _), by omega, (TMI_none q6101 (MCX_c (MCX_c (MCX_c q6101.1 hr6156.1 (hF6154.2.1 233 ma_X11_reckonAll_231_233) (hF6154.1 231 27 mf_X11_reckonAll_231_231_27)) hr6177.1 (hF6175.2.1 233 ma_X11_reckonAll_231_233) (hF6175.1 231 27 mf_X11_reckonAll_231_231_27)) gK_sJ gA_sJ (gI_sJ_ne (by decide))) (by omega) (by omega) (show x6082.toInt < RWM g0 (eA g0 233 3).toInt 1 from by rw [show RWM g0 (eA g0 233 3).toInt 1 = v6107.toInt from by (show (eA g0 233 (110 + 900 * (eA g0 233 3).toInt + 1)).toInt = _); rw [hv5283, show 110 + 900 * v5283.toInt + 1 = (900 * v5283.toInt + 111) from by omega, hv6107]]; omega) (fun h1 L => (CMW_yes (by rw [(show RWM g0 (eA g0 233 3).toInt (2 + 8 * x6082.toInt + 5) = v6118.toInt from by (show (eA g0 233 (110 + 900 * (eA g0 233 3).toInt + (2 + 8 * x6082.toInt + 5))).toInt = _); rw [hv5283, show 110 + 900 * v5283.toInt + (2 + 8 * x6082.toInt + 5) = (900 * v5283.toInt + 8 * x6082.toInt + 117) from by omega, hv6118]), (show RWM g0 (eA g0 233 3).toInt (2 + 8 * x6082.toInt + 6) = v6120.toInt from by (show (eA g0 233 (110 + 900 * (eA g0 233 3).toInt + (2 + 8 * x6082.toInt + 6))).toInt = _); rw [hv5283, show 110 + 900 * v5283.toInt + (2 + 8 * x6082.toInt + 6) = (900 * v5283.toInt + 8 * x6082.toInt + 118) from by omega, hv6120])]; omega) (WRN_e hr6156 (show RWM g0 (eA g0 233 3).toInt (2 + 8 * x6082.toInt + 5) = v6118.toInt from by (show (eA g0 233 (110 + 900 * (eA g0 233 3).toInt + (2 + 8 * x6082.toInt + 5))).toInt = _); rw [hv5283, show 110 + 900 * v5283.toInt + (2 + 8 * x6082.toInt + 5) = (900 * v5283.toInt + 8 * x6082.toInt + 117) from by omega, hv6118]) (show RWM g0 (eA g0 233 3).toInt (2 + 8 * x6082.toInt + 6) = v6120.toInt from by (show (eA g0 233 (110 + 900 * (eA g0 233 3).toInt + (2 + 8 * x6082.toInt + 6))).toInt = _); rw [hv5283, show 110 + 900 * v5283.toInt + (2 + 8 * x6082.toInt + 6) = (900 * v5283.toInt + 8 * x6082.toInt + 118) from by omega, hv6120])) q6101.1 (congrArg Int64.toInt hv6161) ((congrArg Int32.toInt hv6158).trans (by omega)) (by omega) L).trans (EVM_none (WRN_e hr6177 (show RWM g0 (eA g0 233 3).toInt (2 + 8 * x6082.toInt + 3) = v6170.toInt from by (show (eA g0 233 (110 + 900 * (eA g0 233 3).toInt + (2 + 8 * x6082.toInt + 3))).toInt = _); rw [hv5283, show 110 + 900 * v5283.toInt + (2 + 8 * x6082.toInt + 3) = (900 * v5283.toInt + 8 * x6082.toInt + 115) from by omega, hv6170]) (show RWM g0 (eA g0 233 3).toInt (2 + 8 * x6082.toInt + 4) = v6172.toInt from by (show (eA g0 233 (110 + 900 * (eA g0 233 3).toInt + (2 + 8 * x6082.toInt + 4))).toInt = _); rw [hv5283, show 110 + 900 * v5283.toInt + (2 + 8 * x6082.toInt + 4) = (900 * v5283.toInt + 8 * x6082.toInt + 116) from by omega, hv6172])) (MCX_c q6101.1 hr6156.1 (hF6154.2.1 233 ma_X11_reckonAll_231_233) (hF6154.1 231 27 mf_X11_reckonAll_231_231_27)) (by rw [hv6182]; omega) L.1))), (by rw [show RWM g0 (eA g0 233 3).toInt 1 = v6107.toInt from by (show (eA g0 233 (110 + 900 * (eA g0 233 3).toInt + 1)).toInt = _); rw [hv5283, show 110 + 900 * v5283.toInt + 1 = (900 * v5283.toInt + 111) from by omega, hv6107]]; omega)⟩ ⟨by omega, by omega⟩
                  · have c6183_ : v6182.toInt = 0 := en_k_ne_f c6183
                    refine At.enter rfl ?_
                    refine r_iconst 1 rfl ?_
                    refine r_goto ?_
                    refine At.enter rfl ?_
                    refine q_iretz (by decide) ?_
                    refine At.enter rfl ?_
                    refine r_iff 209 rfl (by decide) ?_
                    refine At.enter rfl ?_
                    refine r_iload_n (w_p1 (by decide) (Or.inr rfl) e6091) ?_
                    refine r_iconst 2 rfl ?_
                    refine r_ics 214 rfl (fun c6185 => ?_) (fun c6185 => ?_)
                    · have c6185_ : a1.toInt ≥ 2 := en_i_ge_t c6185
                      refine At.enter rfl ?_
                      refine r_lconst 1 rfl ?_
                      refine Ar.fall 222 rfl ?_
                      refine At.enter rfl ?_
                      refine r_lstore _ rfl ?_
                      refine Ar.fall 224 rfl ?_
                      refine At.enter rfl ?_
                      refine q_iinc (w_p2 (by decide) (by decide) (Or.inr rfl) (w_p1 (by decide) (Or.inr rfl) e6099)) (x6082.toInt + 1) rfl (by omega) (fun v6186 hv6186 => ?_)
                      refine r_goto ?_
                      have zv6187 : (1 : Int64).toInt = 1 := rfl
                      exact ih6088 (12 - v6186.toInt) _ _ ⟨1, v6186, by first | rfl | omega, hI6180, hF6181, (((gI_sJ_ne (by decide)).trans ((hF6175.1 231 27 mf_X11_reckonAll_231_231_27).trans (hF6154.1 231 27 mf_X11_reckonAll_231_231_27))).trans e6089), (w_p1 (by decide) (Or.inr rfl) (w_p2 (by decide) (by decide) (Or.inr rfl) (w_p1 (by decide) (Or.inr rfl) e6090))), (w_p1 (by decide) (Or.inr rfl) (w_p2 (by decide) (by decide) (Or.inr rfl) (w_p1 (by decide) (Or.inr rfl) e6091))), (w_p1 (by decide) (Or.inr rfl) (w_p2 (by decide) (by decide) (Or.inr rfl) (w_p1 (by decide) (Or.inr rfl) e6092))), (w_p1 (by decide) (Or.inr rfl) (w_p2 (by decide) (by decide) (Or.inr rfl) (w_p1 (by decide) (Or.inr rfl) e6093))), (w_p1 (by decide) (Or.inr rfl) (w_p2 (by decide) (by decide) (Or.inr rfl) (w_p1 (by decide) (Or.inr rfl) e6094))), (w_p1 (by decide) (Or.inr rfl) (w_p2 (by decide) (by decide) (Or.inr rfl) (w_p1 (by decide) (Or.inr rfl) e6095))), (w_p1 (by decide) (Or.inl (by decide)) (w_p2 (by decide) (by decide) (Or.inl (by decide)) (w_p1 (by decide) (Or.inl (by decide)) e6096))), (w_p1 (by decide) (Or.inr rfl) (w_p2 (by decide) (by decide) (Or.inr rfl) (w_p1 (by decide) (Or.inr rfl) e6097))), (w_p1 (by decide) (Or.inl (by decide)) (w_e2 _ _ _)), (w_e1 _ _ _), by omega, (by first | exact TMI_some (MCX_c (MCX_c (MCX_c q6101.1 hr6156.1 (hF6154.2.1 233 ma_X11_reckonAll_231_233) (hF6154.1 231 27 mf_X11_reckonAll_231_231_27)) hr6177.1 (hF6175.2.1 233 ma_X11_reckonAll_231_233) (hF6175.1 231 27 mf_X11_reckonAll_231_231_27)) gK_sJ gA_sJ (gI_sJ_ne (by decide))) (by omega) (by omega) (show x6082.toInt < RWM g0 (eA g0 233 3).toInt 1 from by rw [show RWM g0 (eA g0 233 3).toInt 1 = v6107.toInt from by (show (eA g0 233 (110 + 900 * (eA g0 233 3).toInt + 1)).toInt = _); rw [hv5283, show 110 + 900 * v5283.toInt + 1 = (900 * v5283.toInt + 111) from by omega, hv6107]]; omega) (fun h1 => by rw [(show RWM g0 (eA g0 233 3).toInt (2 + 8 * x6082.toInt) = v6114.toInt from by (show (eA g0 233 (110 + 900 * (eA g0 233 3).toInt + (2 + 8 * x6082.toInt))).toInt = _); rw [hv5283, show 110 + 900 * v5283.toInt + (2 + 8 * x6082.toInt) = (900 * v5283.toInt + 8 * x6082.toInt + 112) from by omega, hv6114])]; omega) (fun h1 L => (CMW_yes (by rw [(show RWM g0 (eA g0 233 3).toInt (2 + 8 * x6082.toInt + 5) = v6118.toInt from by (show (eA g0 233 (110 + 900 * (eA g0 233 3).toInt + (2 + 8 * x6082.toInt + 5))).toInt = _); rw [hv5283, show 110 + 900 * v5283.toInt + (2 + 8 * x6082.toInt + 5) = (900 * v5283.toInt + 8 * x6082.toInt + 117) from by omega, hv6118]), (show RWM g0 (eA g0 233 3).toInt (2 + 8 * x6082.toInt + 6) = v6120.toInt from by (show (eA g0 233 (110 + 900 * (eA g0 233 3).toInt + (2 + 8 * x6082.toInt + 6))).toInt = _); rw [hv5283, show 110 + 900 * v5283.toInt + (2 + 8 * x6082.toInt + 6) = (900 * v5283.toInt + 8 * x6082.toInt + 118) from by omega, hv6120])]; omega) (WRN_e hr6156 (show RWM g0 (eA g0 233 3).toInt (2 + 8 * x6082.toInt + 5) = v6118.toInt from by (show (eA g0 233 (110 + 900 * (eA g0 233 3).toInt + (2 + 8 * x6082.toInt + 5))).toInt = _); rw [hv5283, show 110 + 900 * v5283.toInt + (2 + 8 * x6082.toInt + 5) = (900 * v5283.toInt + 8 * x6082.toInt + 117) from by omega, hv6118]) (show RWM g0 (eA g0 233 3).toInt (2 + 8 * x6082.toInt + 6) = v6120.toInt from by (show (eA g0 233 (110 + 900 * (eA g0 233 3).toInt + (2 + 8 * x6082.toInt + 6))).toInt = _); rw [hv5283, show 110 + 900 * v5283.toInt + (2 + 8 * x6082.toInt + 6) = (900 * v5283.toInt + 8 * x6082.toInt + 118) from by omega, hv6120])) q6101.1 (congrArg Int64.toInt hv6161) ((congrArg Int32.toInt hv6158).trans (by omega)) (by omega) L).trans (EVM_some (WRN_e hr6177 (show RWM g0 (eA g0 233 3).toInt (2 + 8 * x6082.toInt + 3) = v6170.toInt from by (show (eA g0 233 (110 + 900 * (eA g0 233 3).toInt + (2 + 8 * x6082.toInt + 3))).toInt = _); rw [hv5283, show 110 + 900 * v5283.toInt + (2 + 8 * x6082.toInt + 3) = (900 * v5283.toInt + 8 * x6082.toInt + 115) from by omega, hv6170]) (show RWM g0 (eA g0 233 3).toInt (2 + 8 * x6082.toInt + 4) = v6172.toInt from by (show (eA g0 233 (110 + 900 * (eA g0 233 3).toInt + (2 + 8 * x6082.toInt + 4))).toInt = _); rw [hv5283, show 110 + 900 * v5283.toInt + (2 + 8 * x6082.toInt + 4) = (900 * v5283.toInt + 8 * x6082.toInt + 116) from by omega, hv6172])) (MCX_c q6101.1 hr6156.1 (hF6154.2.1 233 ma_X11_reckonAll_231_233) (hF6154.1 231 27 mf_X11_reckonAll_231_231_27)) ((congrArg Int32.toInt hv6182).trans (by omega)) (congrArg Int64.toInt hv6179) L.1)) | exact TMI_some (MCX_c (MCX_c (MCX_c q6101.1 hr6156.1 (hF6154.2.1 233 ma_X11_reckonAll_231_233) (hF6154.1 231 27 mf_X11_reckonAll_231_231_27)) hr6177.1 (hF6175.2.1 233 ma_X11_reckonAll_231_233) (hF6175.1 231 27 mf_X11_reckonAll_231_231_27)) gK_sJ gA_sJ (gI_sJ_ne (by decide))) (by omega) (by omega) (show x6082.toInt < RWM g0 (eA g0 233 3).toInt 1 from by rw [show RWM g0 (eA g0 233 3).toInt 1 = v6107.toInt from by (show (eA g0 233 (110 + 900 * (eA g0 233 3).toInt + 1)).toInt = _); rw [hv5283, show 110 + 900 * v5283.toInt + 1 = (900 * v5283.toInt + 111) from by omega, hv6107]]; omega) (fun h1 => absurd h1 (by omega)) (fun h1 => absurd h1 (by omega))), (by rw [show RWM g0 (eA g0 233 3).toInt 1 = v6107.toInt from by (show (eA g0 233 (110 + 900 * (eA g0 233 3).toInt + 1)).toInt = _); rw [hv5283, show 110 + 900 * v5283.toInt + 1 = (900 * v5283.toInt + 111) from by omega, hv6107]]; omega)⟩ ⟨by omega, by omega⟩
                    · have c6185_ : a1.toInt < 2 := en_i_ge_f c6185
                      refine At.enter rfl ?_
                      refine r_aload_n (w_p1 (by decide) (Or.inr rfl) e6090) ?_
                      refine q_getJv (Sh.long hI6180.1 kx_231 rfl) v6179 (gJ_sJ_eq hI6174.1 kx_231 rfl _) ?_
                      refine r_goto ?_
                      refine At.enter rfl ?_
                      refine r_lstore _ rfl ?_
                      refine Ar.fall 224 rfl ?_
                      refine At.enter rfl ?_
                      refine q_iinc (w_p2 (by decide) (by decide) (Or.inr rfl) (w_p1 (by decide) (Or.inr rfl) e6099)) (x6082.toInt + 1) rfl (by omega) (fun v6188 hv6188 => ?_)
                      refine r_goto ?_
                      exact ih6088 (12 - v6188.toInt) _ _ ⟨v6179, v6188, by first | rfl | omega, hI6180, hF6181, (((gI_sJ_ne (by decide)).trans ((hF6175.1 231 27 mf_X11_reckonAll_231_231_27).trans (hF6154.1 231 27 mf_X11_reckonAll_231_231_27))).trans e6089), (w_p1 (by decide) (Or.inr rfl) (w_p2 (by decide) (by decide) (Or.inr rfl) (w_p1 (by decide) (Or.inr rfl) e6090))), (w_p1 (by decide) (Or.inr rfl) (w_p2 (by decide) (by decide) (Or.inr rfl) (w_p1 (by decide) (Or.inr rfl) e6091))), (w_p1 (by decide) (Or.inr rfl) (w_p2 (by decide) (by decide) (Or.inr rfl) (w_p1 (by decide) (Or.inr rfl) e6092))), (w_p1 (by decide) (Or.inr rfl) (w_p2 (by decide) (by decide) (Or.inr rfl) (w_p1 (by decide) (Or.inr rfl) e6093))), (w_p1 (by decide) (Or.inr rfl) (w_p2 (by decide) (by decide) (Or.inr rfl) (w_p1 (by decide) (Or.inr rfl) e6094))), (w_p1 (by decide) (Or.inr rfl) (w_p2 (by decide) (by decide) (Or.inr rfl) (w_p1 (by decide) (Or.inr rfl) e6095))), (w_p1 (by decide) (Or.inl (by decide)) (w_p2 (by decide) (by decide) (Or.inl (by decide)) (w_p1 (by decide) (Or.inl (by decide)) e6096))), (w_p1 (by decide) (Or.inr rfl) (w_p2 (by decide) (by decide) (Or.inr rfl) (w_p1 (by decide) (Or.inr rfl) e6097))), (w_p1 (by decide) (Or.inl (by decide)) (w_e2 _ _ _)), (w_e1 _ _ _), by omega, (by first | exact TMI_some (MCX_c (MCX_c (MCX_c q6101.1 hr6156.1 (hF6154.2.1 233 ma_X11_reckonAll_231_233) (hF6154.1 231 27 mf_X11_reckonAll_231_231_27)) hr6177.1 (hF6175.2.1 233 ma_X11_reckonAll_231_233) (hF6175.1 231 27 mf_X11_reckonAll_231_231_27)) gK_sJ gA_sJ (gI_sJ_ne (by decide))) (by omega) (by omega) (show x6082.toInt < RWM g0 (eA g0 233 3).toInt 1 from by rw [show RWM g0 (eA g0 233 3).toInt 1 = v6107.toInt from by (show (eA g0 233 (110 + 900 * (eA g0 233 3).toInt + 1)).toInt = _); rw [hv5283, show 110 + 900 * v5283.toInt + 1 = (900 * v5283.toInt + 111) from by omega, hv6107]]; omega) (fun h1 => by rw [(show RWM g0 (eA g0 233 3).toInt (2 + 8 * x6082.toInt) = v6114.toInt from by (show (eA g0 233 (110 + 900 * (eA g0 233 3).toInt + (2 + 8 * x6082.toInt))).toInt = _); rw [hv5283, show 110 + 900 * v5283.toInt + (2 + 8 * x6082.toInt) = (900 * v5283.toInt + 8 * x6082.toInt + 112) from by omega, hv6114])]; omega) (fun h1 L => (CMW_yes (by rw [(show RWM g0 (eA g0 233 3).toInt (2 + 8 * x6082.toInt + 5) = v6118.toInt from by (show (eA g0 233 (110 + 900 * (eA g0 233 3).toInt + (2 + 8 * x6082.toInt + 5))).toInt = _); rw [hv5283, show 110 + 900 * v5283.toInt + (2 + 8 * x6082.toInt + 5) = (900 * v5283.toInt + 8 * x6082.toInt + 117) from by omega, hv6118]), (show RWM g0 (eA g0 233 3).toInt (2 + 8 * x6082.toInt + 6) = v6120.toInt from by (show (eA g0 233 (110 + 900 * (eA g0 233 3).toInt + (2 + 8 * x6082.toInt + 6))).toInt = _); rw [hv5283, show 110 + 900 * v5283.toInt + (2 + 8 * x6082.toInt + 6) = (900 * v5283.toInt + 8 * x6082.toInt + 118) from by omega, hv6120])]; omega) (WRN_e hr6156 (show RWM g0 (eA g0 233 3).toInt (2 + 8 * x6082.toInt + 5) = v6118.toInt from by (show (eA g0 233 (110 + 900 * (eA g0 233 3).toInt + (2 + 8 * x6082.toInt + 5))).toInt = _); rw [hv5283, show 110 + 900 * v5283.toInt + (2 + 8 * x6082.toInt + 5) = (900 * v5283.toInt + 8 * x6082.toInt + 117) from by omega, hv6118]) (show RWM g0 (eA g0 233 3).toInt (2 + 8 * x6082.toInt + 6) = v6120.toInt from by (show (eA g0 233 (110 + 900 * (eA g0 233 3).toInt + (2 + 8 * x6082.toInt + 6))).toInt = _); rw [hv5283, show 110 + 900 * v5283.toInt + (2 + 8 * x6082.toInt + 6) = (900 * v5283.toInt + 8 * x6082.toInt + 118) from by omega, hv6120])) q6101.1 (congrArg Int64.toInt hv6161) ((congrArg Int32.toInt hv6158).trans (by omega)) (by omega) L).trans (EVM_some (WRN_e hr6177 (show RWM g0 (eA g0 233 3).toInt (2 + 8 * x6082.toInt + 3) = v6170.toInt from by (show (eA g0 233 (110 + 900 * (eA g0 233 3).toInt + (2 + 8 * x6082.toInt + 3))).toInt = _); rw [hv5283, show 110 + 900 * v5283.toInt + (2 + 8 * x6082.toInt + 3) = (900 * v5283.toInt + 8 * x6082.toInt + 115) from by omega, hv6170]) (show RWM g0 (eA g0 233 3).toInt (2 + 8 * x6082.toInt + 4) = v6172.toInt from by (show (eA g0 233 (110 + 900 * (eA g0 233 3).toInt + (2 + 8 * x6082.toInt + 4))).toInt = _); rw [hv5283, show 110 + 900 * v5283.toInt + (2 + 8 * x6082.toInt + 4) = (900 * v5283.toInt + 8 * x6082.toInt + 116) from by omega, hv6172])) (MCX_c q6101.1 hr6156.1 (hF6154.2.1 233 ma_X11_reckonAll_231_233) (hF6154.1 231 27 mf_X11_reckonAll_231_231_27)) ((congrArg Int32.toInt hv6182).trans (by omega)) (congrArg Int64.toInt hv6179) L.1)) | exact TMI_some (MCX_c (MCX_c (MCX_c q6101.1 hr6156.1 (hF6154.2.1 233 ma_X11_reckonAll_231_233) (hF6154.1 231 27 mf_X11_reckonAll_231_231_27)) hr6177.1 (hF6175.2.1 233 ma_X11_reckonAll_231_233) (hF6175.1 231 27 mf_X11_reckonAll_231_231_27)) gK_sJ gA_sJ (gI_sJ_ne (by decide))) (by omega) (by omega) (show x6082.toInt < RWM g0 (eA g0 233 3).toInt 1 from by rw [show RWM g0 (eA g0 233 3).toInt 1 = v6107.toInt from by (show (eA g0 233 (110 + 900 * (eA g0 233 3).toInt + 1)).toInt = _); rw [hv5283, show 110 + 900 * v5283.toInt + 1 = (900 * v5283.toInt + 111) from by omega, hv6107]]; omega) (fun h1 => absurd h1 (by omega)) (fun h1 => absurd h1 (by omega))), (by rw [show RWM g0 (eA g0 233 3).toInt 1 = v6107.toInt from by (show (eA g0 233 (110 + 900 * (eA g0 233 3).toInt + 1)).toInt = _); rw [hv5283, show 110 + 900 * v5283.toInt + 1 = (900 * v5283.toInt + 111) from by omega, hv6107]]; omega)⟩ ⟨by omega, by omega⟩
              · have c6162_ : v6161.toInt = 0 := en_j_ne_f c6162
                refine At.enter rfl ?_
                refine r_iconst 0 rfl ?_
                refine q_iretz (by decide) ?_
                refine At.enter rfl ?_
                refine r_ift (by decide) ?_
                refine At.enter rfl ?_
                refine q_iinc (w_p1 (by decide) (Or.inr rfl) e6099) (x6082.toInt + 1) rfl (by omega) (fun v6189 hv6189 => ?_)
                refine r_goto ?_
                exact ih6088 (12 - v6189.toInt) _ _ ⟨x6081, v6189, by first | rfl | omega, hI6153, hF6157, ((hF6154.1 231 27 mf_X11_reckonAll_231_231_27).trans e6089), (w_p1 (by decide) (Or.inr rfl) (w_p1 (by decide) (Or.inr rfl) e6090)), (w_p1 (by decide) (Or.inr rfl) (w_p1 (by decide) (Or.inr rfl) e6091)), (w_p1 (by decide) (Or.inr rfl) (w_p1 (by decide) (Or.inr rfl) e6092)), (w_p1 (by decide) (Or.inr rfl) (w_p1 (by decide) (Or.inr rfl) e6093)), (w_p1 (by decide) (Or.inr rfl) (w_p1 (by decide) (Or.inr rfl) e6094)), (w_p1 (by decide) (Or.inr rfl) (w_p1 (by decide) (Or.inr rfl) e6095)), (w_p1 (by decide) (Or.inl (by decide)) (w_p1 (by decide) (Or.inl (by decide)) e6096)), (w_p1 (by decide) (Or.inr rfl) (w_p1 (by decide) (Or.inr rfl) e6097)), (w_p1 (by decide) (Or.inl (by decide)) (w_p1 (by decide) (Or.inl (by decide)) e6098)), (w_e1 _ _ _), by omega, (TMI_none q6101 (MCX_c q6101.1 hr6156.1 (hF6154.2.1 233 ma_X11_reckonAll_231_233) (hF6154.1 231 27 mf_X11_reckonAll_231_231_27)) (by omega) (by omega) (show x6082.toInt < RWM g0 (eA g0 233 3).toInt 1 from by rw [show RWM g0 (eA g0 233 3).toInt 1 = v6107.toInt from by (show (eA g0 233 (110 + 900 * (eA g0 233 3).toInt + 1)).toInt = _); rw [hv5283, show 110 + 900 * v5283.toInt + 1 = (900 * v5283.toInt + 111) from by omega, hv6107]]; omega) (fun h1 L => by first | exact CMW_no (by rw [(show RWM g0 (eA g0 233 3).toInt (2 + 8 * x6082.toInt + 5) = v6118.toInt from by (show (eA g0 233 (110 + 900 * (eA g0 233 3).toInt + (2 + 8 * x6082.toInt + 5))).toInt = _); rw [hv5283, show 110 + 900 * v5283.toInt + (2 + 8 * x6082.toInt + 5) = (900 * v5283.toInt + 8 * x6082.toInt + 117) from by omega, hv6118]), (show RWM g0 (eA g0 233 3).toInt (2 + 8 * x6082.toInt + 6) = v6120.toInt from by (show (eA g0 233 (110 + 900 * (eA g0 233 3).toInt + (2 + 8 * x6082.toInt + 6))).toInt = _); rw [hv5283, show 110 + 900 * v5283.toInt + (2 + 8 * x6082.toInt + 6) = (900 * v5283.toInt + 8 * x6082.toInt + 118) from by omega, hv6120])]; omega) (WRN_e hr6156 (show RWM g0 (eA g0 233 3).toInt (2 + 8 * x6082.toInt + 5) = v6118.toInt from by (show (eA g0 233 (110 + 900 * (eA g0 233 3).toInt + (2 + 8 * x6082.toInt + 5))).toInt = _); rw [hv5283, show 110 + 900 * v5283.toInt + (2 + 8 * x6082.toInt + 5) = (900 * v5283.toInt + 8 * x6082.toInt + 117) from by omega, hv6118]) (show RWM g0 (eA g0 233 3).toInt (2 + 8 * x6082.toInt + 6) = v6120.toInt from by (show (eA g0 233 (110 + 900 * (eA g0 233 3).toInt + (2 + 8 * x6082.toInt + 6))).toInt = _); rw [hv5283, show 110 + 900 * v5283.toInt + (2 + 8 * x6082.toInt + 6) = (900 * v5283.toInt + 8 * x6082.toInt + 118) from by omega, hv6120])) q6101.1 (congrArg Int64.toInt hv6161) (Or.inl (by rw [hv6158]; omega)) L | exact CMW_no (by rw [(show RWM g0 (eA g0 233 3).toInt (2 + 8 * x6082.toInt + 5) = v6118.toInt from by (show (eA g0 233 (110 + 900 * (eA g0 233 3).toInt + (2 + 8 * x6082.toInt + 5))).toInt = _); rw [hv5283, show 110 + 900 * v5283.toInt + (2 + 8 * x6082.toInt + 5) = (900 * v5283.toInt + 8 * x6082.toInt + 117) from by omega, hv6118]), (show RWM g0 (eA g0 233 3).toInt (2 + 8 * x6082.toInt + 6) = v6120.toInt from by (show (eA g0 233 (110 + 900 * (eA g0 233 3).toInt + (2 + 8 * x6082.toInt + 6))).toInt = _); rw [hv5283, show 110 + 900 * v5283.toInt + (2 + 8 * x6082.toInt + 6) = (900 * v5283.toInt + 8 * x6082.toInt + 118) from by omega, hv6120])]; omega) (WRN_e hr6156 (show RWM g0 (eA g0 233 3).toInt (2 + 8 * x6082.toInt + 5) = v6118.toInt from by (show (eA g0 233 (110 + 900 * (eA g0 233 3).toInt + (2 + 8 * x6082.toInt + 5))).toInt = _); rw [hv5283, show 110 + 900 * v5283.toInt + (2 + 8 * x6082.toInt + 5) = (900 * v5283.toInt + 8 * x6082.toInt + 117) from by omega, hv6118]) (show RWM g0 (eA g0 233 3).toInt (2 + 8 * x6082.toInt + 6) = v6120.toInt from by (show (eA g0 233 (110 + 900 * (eA g0 233 3).toInt + (2 + 8 * x6082.toInt + 6))).toInt = _); rw [hv5283, show 110 + 900 * v5283.toInt + (2 + 8 * x6082.toInt + 6) = (900 * v5283.toInt + 8 * x6082.toInt + 118) from by omega, hv6120])) q6101.1 (congrArg Int64.toInt hv6161) (Or.inr (by omega)) L)), (by rw [show RWM g0 (eA g0 233 3).toInt 1 = v6107.toInt from by (show (eA g0 233 (110 + 900 * (eA g0 233 3).toInt + 1)).toInt = _); rw [hv5283, show 110 + 900 * v5283.toInt + 1 = (900 * v5283.toInt + 111) from by omega, hv6107]]; omega)⟩ ⟨by omega, by omega⟩
    · have c5317_ : v5313.toInt ≥ 0 := en_j_lt_f c5317
      refine At.enter rfl ?_
      refine r_lload_n rfl ?_
      refine r_lload rfl ?_
      refine r_lcmp _ rfl ?_
      refine r_ifs 13 rfl (fun c6190 => ?_) (fun c6190 => ?_)
      · have c6190_ : v5313.toInt > v5316.toInt := en_j_gt_t c6190
        refine At.enter rfl ?_
        refine r_iconst 0 rfl ?_
        refine Ar.fall 18 rfl ?_
        refine At.enter rfl ?_
        refine q_iretz (by decide) ?_
        refine At.enter rfl ?_
        refine q_iretz (by decide) ?_
        refine At.enter rfl ?_
        refine r_ift (by decide) ?_
        refine At.enter rfl ?_
        refine r_ldc2 (-1) rfl ?_
        refine Ar.fall 103 rfl ?_
        refine At.enter rfl ?_
        refine q_last (Sh.lar hI5311.1 ka_244) (5) rfl (by decide) ?_
        have hI6191 := HI.wK hI5311 ka_244 (5) ((-1)) (by decide)
        have hF6192 := Fr.wK (p := 244) (j := 5) (v := (-1)) hF5312
        refine r_aload_n rfl ?_
        refine q_getR (Sh.ref hI6191.1 kx_231 rfl) ?_
        refine r_bipush 6 rfl ?_
        refine r_iload rfl ?_
        refine q_i2l (fun v6193 hv6193 => ?_)
        refine q_last (Sh.lar hI6191.1 ka_244) (6) rfl (by decide) ?_
        have hI6194 := HI.wK hI6191 ka_244 (6) (v6193) (by decide)
        have hF6195 := Fr.wK (p := 244) (j := 6) (v := v6193) hF6192
        refine r_aload_n rfl ?_
        refine q_getR (Sh.ref hI6194.1 kx_231 rfl) ?_
        refine r_bipush 7 rfl ?_
        refine r_iload rfl ?_
        refine q_i2l (fun v6196 hv6196 => ?_)
        refine q_last (Sh.lar hI6194.1 ka_244) (7) rfl (by decide) ?_
        have hI6197 := HI.wK hI6194 ka_244 (7) (v6196) (by decide)
        have hF6198 := Fr.wK (p := 244) (j := 7) (v := v6196) hF6195
        refine r_aload_n rfl ?_
        refine q_getR (Sh.ref hI6197.1 kx_231 rfl) ?_
        refine r_bipush 8 rfl ?_
        refine r_aload_n rfl ?_
        refine q_getR (Sh.ref hI6197.1 kx_231 rfl) ?_
        refine r_iload_n rfl ?_
        obtain ⟨v6199, hv6199⟩ : ∃ v, eA g0 246 a3.toInt = v := ⟨_, rfl⟩
        refine q_iald (Sh.arr hI6197.1 ka_246) a3.toInt rfl (by omega) v6199 ((eA_c ((gA_sX).trans ((gA_sX).trans ((gA_sX).trans ((gA_sX).trans ((gA_sX).trans ((gA_sX).trans ((gA_sX).trans (gA_sI))))))))).trans hv6199) ?_
        refine q_i2l (fun v6200 hv6200 => ?_)
        refine q_last (Sh.lar hI6197.1 ka_244) (8) rfl (by decide) ?_
        have hI6201 := HI.wK hI6197 ka_244 (8) (v6200) (by decide)
        have hF6202 := Fr.wK (p := 244) (j := 8) (v := v6200) hF6198
        refine r_aload_n rfl ?_
        refine q_getR (Sh.ref hI6201.1 kx_231 rfl) ?_
        refine r_bipush 9 rfl ?_
        refine r_aload_n rfl ?_
        refine q_getR (Sh.ref hI6201.1 kx_231 rfl) ?_
        refine r_iload_n rfl ?_
        obtain ⟨v6203, hv6203⟩ : ∃ v, eA g0 247 a3.toInt = v := ⟨_, rfl⟩
        refine q_iald (Sh.arr hI6201.1 ka_247) a3.toInt rfl (by omega) v6203 ((eA_c ((gA_sX).trans ((gA_sX).trans ((gA_sX).trans ((gA_sX).trans ((gA_sX).trans ((gA_sX).trans ((gA_sX).trans ((gA_sX).trans (gA_sI)))))))))).trans hv6203) ?_
        refine q_i2l (fun v6204 hv6204 => ?_)
        refine q_last (Sh.lar hI6201.1 ka_244) (9) rfl (by decide) ?_
        have hI6205 := HI.wK hI6201 ka_244 (9) (v6204) (by decide)
        have hF6206 := Fr.wK (p := 244) (j := 9) (v := v6204) hF6202
        refine r_lload rfl ?_
        refine r_lstore ([(9, .long a6), (8, .int v5292), (0, .ref 231), (1, .int a1), (2, .int a2), (3, .int a3), (4, .int a4), (5, .int a5), (6, .long a6)]) rfl ?_
        refine r_iconst 0 rfl ?_
        refine r_istore ([(11, .int 0), (9, .long a6), (8, .int v5292), (0, .ref 231), (1, .int a1), (2, .int a2), (3, .int a3), (4, .int a4), (5, .int a5), (6, .long a6)]) rfl ?_
        refine Ar.fall 159 rfl ?_
        have z_6976 : (0 : Int32).toInt = 0 := rfl
        refine w_loopI (fun n_ l_ g_ => ∃ x6954 : Int64, ∃ x6955 : Int32, n_ = 12 - x6955.toInt ∧ HI g_ ∧ Fr F_X11_tells_231 A_X11_tells_231 g0 g_ ∧ gI g_ 231 27 = v5286 ∧ en_get 0 l_ = some (.ref 231) ∧ en_get 1 l_ = some (.int a1) ∧ en_get 2 l_ = some (.int a2) ∧ en_get 3 l_ = some (.int a3) ∧ en_get 4 l_ = some (.int a4) ∧ en_get 5 l_ = some (.int a5) ∧ en_get 6 l_ = some (.long a6) ∧ en_get 8 l_ = some (.int v5292) ∧ en_get 9 l_ = some (.long x6954) ∧ en_get 11 l_ = some (.int x6955) ∧ (0 ≤ x6955.toInt ∧ x6955.toInt ≤ 12) ∧ (TMI g_ (RWM g0 (eA g0 233 3).toInt) (WWM g0 a2.toInt a3.toInt a4.toInt a5.toInt) a1.toInt (RWM g0 (eA g0 233 3).toInt 1) x6955.toInt a6.toInt x6954.toInt) ∧ (x6955.toInt ≤ RWM g0 (eA g0 233 3).toInt 1)) ?_ (12 - 0) ⟨a6, 0, by first | rfl | omega, hI6205, hF6206, ((gI_sX).trans ((gI_sX).trans ((gI_sX).trans ((gI_sX).trans ((gI_sX).trans ((gI_sX).trans ((gI_sX).trans ((gI_sX).trans ((gI_sX).trans (gI_sI_eq hI0.1 kx_231 rfl _)))))))))), rfl, rfl, rfl, rfl, rfl, rfl, rfl, rfl, rfl, rfl, by decide, (TMI_z ⟨WRM_mk (show (eK _ 244 1).toInt = _ from (congrArg Int64.toInt ((eK_neT hI6201.1 ka_244 (by decide) (by decide) (by decide)).trans ((eK_neT hI6197.1 ka_244 (by decide) (by decide) (by decide)).trans ((eK_neT hI6194.1 ka_244 (by decide) (by decide) (by decide)).trans ((eK_neT hI6191.1 ka_244 (by decide) (by decide) (by decide)).trans ((eK_neT hI5311.1 ka_244 (by decide) (by decide) (by decide)).trans ((eK_neT hI5308.1 ka_244 (by decide) (by decide) (by decide)).trans ((eK_neT hI5301.1 ka_244 (by decide) (by decide) (by decide)).trans ((eK_neT hI5294.1 ka_244 (by decide) (by decide) (by decide)).trans (eK_eqT hI5287.1 ka_244 rfl (by decide) (by decide))))))))))).trans hv5293) (show (eK _ 244 2).toInt = _ from ((congrArg Int64.toInt ((eK_neT hI6201.1 ka_244 (by decide) (by decide) (by decide)).trans ((eK_neT hI6197.1 ka_244 (by decide) (by decide) (by decide)).trans ((eK_neT hI6194.1 ka_244 (by decide) (by decide) (by decide)).trans ((eK_neT hI6191.1 ka_244 (by decide) (by decide) (by decide)).trans ((eK_neT hI5311.1 ka_244 (by decide) (by decide) (by decide)).trans ((eK_neT hI5308.1 ka_244 (by decide) (by decide) (by decide)).trans ((eK_neT hI5301.1 ka_244 (by decide) (by decide) (by decide)).trans (eK_eqT hI5294.1 ka_244 rfl (by decide) (by decide)))))))))).trans hv5300).trans (show v5299.toInt = LDM g0 a2.toInt 0 from by unfold LDM; rw [show 46 + 6 * a2.toInt + 0 = (6 * a2.toInt + 46) from by omega, hv5299])) (show (eK _ 244 3).toInt = _ from ((congrArg Int64.toInt ((eK_neT hI6201.1 ka_244 (by decide) (by decide) (by decide)).trans ((eK_neT hI6197.1 ka_244 (by decide) (by decide) (by decide)).trans ((eK_neT hI6194.1 ka_244 (by decide) (by decide) (by decide)).trans ((eK_neT hI6191.1 ka_244 (by decide) (by decide) (by decide)).trans ((eK_neT hI5311.1 ka_244 (by decide) (by decide) (by decide)).trans ((eK_neT hI5308.1 ka_244 (by decide) (by decide) (by decide)).trans (eK_eqT hI5301.1 ka_244 rfl (by decide) (by decide))))))))).trans hv5307).trans (show v5306.toInt = LDM g0 a2.toInt 4 from by unfold LDM; rw [show 46 + 6 * a2.toInt + 4 = (6 * a2.toInt + 50) from by omega, hv5306])) (show (eK _ 244 4).toInt = _ from (congrArg Int64.toInt ((eK_neT hI6201.1 ka_244 (by decide) (by decide) (by decide)).trans ((eK_neT hI6197.1 ka_244 (by decide) (by decide) (by decide)).trans ((eK_neT hI6194.1 ka_244 (by decide) (by decide) (by decide)).trans ((eK_neT hI6191.1 ka_244 (by decide) (by decide) (by decide)).trans ((eK_neT hI5311.1 ka_244 (by decide) (by decide) (by decide)).trans (eK_eqT hI5308.1 ka_244 rfl (by decide) (by decide)))))))).trans hv5310) (show (eK _ 244 5).toInt = _ from (congrArg Int64.toInt ((eK_neT hI6201.1 ka_244 (by decide) (by decide) (by decide)).trans ((eK_neT hI6197.1 ka_244 (by decide) (by decide) (by decide)).trans ((eK_neT hI6194.1 ka_244 (by decide) (by decide) (by decide)).trans ((eK_neT hI6191.1 ka_244 (by decide) (by decide) (by decide)).trans (eK_eqT hI5311.1 ka_244 rfl (by decide) (by decide))))))).trans (show ((-1) : Int64).toInt = NMo g0 a3.toInt from by rw [show ((-1) : Int64).toInt = -1 from rfl]; have x : (eA g0 233 (10 + 3 * a3.toInt)).toInt = v5292.toInt := (by rw [show 10 + 3 * a3.toInt = (3 * a3.toInt + 10) from by omega, hv5292]); have y : (eA g0 233 0).toInt = v5314.toInt := congrArg Int32.toInt hv5314; have z := NMo.no (g := g0) (s := a3.toInt) (by omega); omega)) (show (eK _ 244 6).toInt = _ from (congrArg Int64.toInt ((eK_neT hI6201.1 ka_244 (by decide) (by decide) (by decide)).trans ((eK_neT hI6197.1 ka_244 (by decide) (by decide) (by decide)).trans ((eK_neT hI6194.1 ka_244 (by decide) (by decide) (by decide)).trans (eK_eqT hI6191.1 ka_244 rfl (by decide) (by decide)))))).trans hv6193) (show (eK _ 244 7).toInt = _ from (congrArg Int64.toInt ((eK_neT hI6201.1 ka_244 (by decide) (by decide) (by decide)).trans ((eK_neT hI6197.1 ka_244 (by decide) (by decide) (by decide)).trans (eK_eqT hI6194.1 ka_244 rfl (by decide) (by decide))))).trans hv6196) (show (eK _ 244 8).toInt = _ from ((congrArg Int64.toInt ((eK_neT hI6201.1 ka_244 (by decide) (by decide) (by decide)).trans (eK_eqT hI6197.1 ka_244 rfl (by decide) (by decide)))).trans hv6200).trans (congrArg Int32.toInt hv6199).symm) (show (eK _ 244 9).toInt = _ from ((congrArg Int64.toInt (eK_eqT hI6201.1 ka_244 rfl (by decide) (by decide))).trans hv6204).trans (congrArg Int32.toInt hv6203).symm), SMM_mk (show (eK _ 244 1).toInt = _ from (congrArg Int64.toInt ((eK_neT hI6201.1 ka_244 (by decide) (by decide) (by decide)).trans ((eK_neT hI6197.1 ka_244 (by decide) (by decide) (by decide)).trans ((eK_neT hI6194.1 ka_244 (by decide) (by decide) (by decide)).trans ((eK_neT hI6191.1 ka_244 (by decide) (by decide) (by decide)).trans ((eK_neT hI5311.1 ka_244 (by decide) (by decide) (by decide)).trans ((eK_neT hI5308.1 ka_244 (by decide) (by decide) (by decide)).trans ((eK_neT hI5301.1 ka_244 (by decide) (by decide) (by decide)).trans ((eK_neT hI5294.1 ka_244 (by decide) (by decide) (by decide)).trans (eK_eqT hI5287.1 ka_244 rfl (by decide) (by decide))))))))))).trans hv5293) (show (eK _ 244 2).toInt = _ from ((congrArg Int64.toInt ((eK_neT hI6201.1 ka_244 (by decide) (by decide) (by decide)).trans ((eK_neT hI6197.1 ka_244 (by decide) (by decide) (by decide)).trans ((eK_neT hI6194.1 ka_244 (by decide) (by decide) (by decide)).trans ((eK_neT hI6191.1 ka_244 (by decide) (by decide) (by decide)).trans ((eK_neT hI5311.1 ka_244 (by decide) (by decide) (by decide)).trans ((eK_neT hI5308.1 ka_244 (by decide) (by decide) (by decide)).trans ((eK_neT hI5301.1 ka_244 (by decide) (by decide) (by decide)).trans (eK_eqT hI5294.1 ka_244 rfl (by decide) (by decide)))))))))).trans hv5300).trans (show v5299.toInt = LDM g0 a2.toInt 0 from by unfold LDM; rw [show 46 + 6 * a2.toInt + 0 = (6 * a2.toInt + 46) from by omega, hv5299])) (show (eK _ 244 3).toInt = _ from ((congrArg Int64.toInt ((eK_neT hI6201.1 ka_244 (by decide) (by decide) (by decide)).trans ((eK_neT hI6197.1 ka_244 (by decide) (by decide) (by decide)).trans ((eK_neT hI6194.1 ka_244 (by decide) (by decide) (by decide)).trans ((eK_neT hI6191.1 ka_244 (by decide) (by decide) (by decide)).trans ((eK_neT hI5311.1 ka_244 (by decide) (by decide) (by decide)).trans ((eK_neT hI5308.1 ka_244 (by decide) (by decide) (by decide)).trans (eK_eqT hI5301.1 ka_244 rfl (by decide) (by decide))))))))).trans hv5307).trans (show v5306.toInt = LDM g0 a2.toInt 4 from by unfold LDM; rw [show 46 + 6 * a2.toInt + 4 = (6 * a2.toInt + 50) from by omega, hv5306])) (show (eK _ 244 4).toInt = _ from (congrArg Int64.toInt ((eK_neT hI6201.1 ka_244 (by decide) (by decide) (by decide)).trans ((eK_neT hI6197.1 ka_244 (by decide) (by decide) (by decide)).trans ((eK_neT hI6194.1 ka_244 (by decide) (by decide) (by decide)).trans ((eK_neT hI6191.1 ka_244 (by decide) (by decide) (by decide)).trans ((eK_neT hI5311.1 ka_244 (by decide) (by decide) (by decide)).trans (eK_eqT hI5308.1 ka_244 rfl (by decide) (by decide)))))))).trans hv5310) (show (eK _ 244 5).toInt = _ from (congrArg Int64.toInt ((eK_neT hI6201.1 ka_244 (by decide) (by decide) (by decide)).trans ((eK_neT hI6197.1 ka_244 (by decide) (by decide) (by decide)).trans ((eK_neT hI6194.1 ka_244 (by decide) (by decide) (by decide)).trans ((eK_neT hI6191.1 ka_244 (by decide) (by decide) (by decide)).trans (eK_eqT hI5311.1 ka_244 rfl (by decide) (by decide))))))).trans (show ((-1) : Int64).toInt = NMo g0 a3.toInt from by rw [show ((-1) : Int64).toInt = -1 from rfl]; have x : (eA g0 233 (10 + 3 * a3.toInt)).toInt = v5292.toInt := (by rw [show 10 + 3 * a3.toInt = (3 * a3.toInt + 10) from by omega, hv5292]); have y : (eA g0 233 0).toInt = v5314.toInt := congrArg Int32.toInt hv5314; have z := NMo.no (g := g0) (s := a3.toInt) (by omega); omega)) (show (eK _ 244 6).toInt = _ from (congrArg Int64.toInt ((eK_neT hI6201.1 ka_244 (by decide) (by decide) (by decide)).trans ((eK_neT hI6197.1 ka_244 (by decide) (by decide) (by decide)).trans ((eK_neT hI6194.1 ka_244 (by decide) (by decide) (by decide)).trans (eK_eqT hI6191.1 ka_244 rfl (by decide) (by decide)))))).trans hv6193) (show (eK _ 244 7).toInt = _ from (congrArg Int64.toInt ((eK_neT hI6201.1 ka_244 (by decide) (by decide) (by decide)).trans ((eK_neT hI6197.1 ka_244 (by decide) (by decide) (by decide)).trans (eK_eqT hI6194.1 ka_244 rfl (by decide) (by decide))))).trans hv6196) (show (eK _ 244 8).toInt = _ from ((congrArg Int64.toInt ((eK_neT hI6201.1 ka_244 (by decide) (by decide) (by decide)).trans (eK_eqT hI6197.1 ka_244 rfl (by decide) (by decide)))).trans hv6200).trans (congrArg Int32.toInt hv6199).symm) (show (eK _ 244 9).toInt = _ from ((congrArg Int64.toInt (eK_eqT hI6201.1 ka_244 rfl (by decide) (by decide))).trans hv6204).trans (congrArg Int32.toInt hv6203).symm) (by have b2 := q_bnd a2; have b3 := q_bnd a3; have b4 := q_bnd a4; have b5 := q_bnd a5; have c0 := q_bnd v5299; have c1 := q_bnd v5306; have c2 := q_bnd v6199; have c3 := q_bnd v6203; exact ⟨by omega, q_b32 _, q_b32 _, by omega, NMo_b _ _, by omega, by omega, q_b32 _, q_b32 _⟩), (OQM_e (show (gI _ 231 27).toInt = 110 + 900 * (eA g0 233 3).toInt from (congrArg Int32.toInt (((gI_sX).trans ((gI_sX).trans ((gI_sX).trans ((gI_sX).trans ((gI_sX).trans ((gI_sX).trans ((gI_sX).trans ((gI_sX).trans ((gI_sX).trans (gI_sI_eq hI0.1 kx_231 rfl _)))))))))))).trans (by have f := congrArg Int32.toInt hv5283; omega)) (((gA_sX).trans ((gA_sX).trans ((gA_sX).trans ((gA_sX).trans ((gA_sX).trans ((gA_sX).trans ((gA_sX).trans ((gA_sX).trans ((gA_sX).trans (gA_sI)))))))))))).1, (OQM_e (show (gI _ 231 27).toInt = 110 + 900 * (eA g0 233 3).toInt from (congrArg Int32.toInt (((gI_sX).trans ((gI_sX).trans ((gI_sX).trans ((gI_sX).trans ((gI_sX).trans ((gI_sX).trans ((gI_sX).trans ((gI_sX).trans ((gI_sX).trans (gI_sI_eq hI0.1 kx_231 rfl _)))))))))))).trans (by have f := congrArg Int32.toInt hv5283; omega)) (((gA_sX).trans ((gA_sX).trans ((gA_sX).trans ((gA_sX).trans ((gA_sX).trans ((gA_sX).trans ((gA_sX).trans ((gA_sX).trans ((gA_sX).trans (gA_sI)))))))))))).2⟩ rfl rfl), (show _ ≤ RWM g0 (eA g0 233 3).toInt 1 from by have w := HI.lawn hI0 (j := v5283.toInt) (i := 110 + 900 * (eA g0 233 3).toInt + 1) ⟨by omega, by omega⟩ (by rw [hv5283]); exact (show (0 : Int) ≤ (eA g0 233 (110 + 900 * (eA g0 233 3).toInt + 1)).toInt from by omega))⟩
        rintro n6960 l6959 g6956 ⟨x6954, x6955, hm6977, hI6957, hF6958, e6962, e6963, e6964, e6965, e6966, e6967, e6968, e6969, e6970, e6971, e6972, r6973, q6974, q6975⟩ ih6961
        have tv6978 := congrArg Int32.toInt e6962
        refine At.enter rfl ?_
        refine r_iload e6972 ?_
        refine r_aload_n e6963 ?_
        refine q_getR (Sh.ref hI6957.1 kx_231 rfl) ?_
        refine r_aload_n e6963 ?_
        refine q_getI (Sh.int hI6957.1 kx_231 rfl) v5286 e6962 ?_
        refine r_iconst 1 rfl ?_
        refine q_iadd (v5286.toInt + 1) rfl (by omega) (fun v6979 hv6979 => ?_)
        obtain ⟨v6980, hv6980⟩ : ∃ v, eA g0 233 (900 * v5283.toInt + 111) = v := ⟨_, rfl⟩
        have wv6980 := HI.lawn hI0 (j := v5283.toInt) (i := (900 * v5283.toInt + 111)) ⟨by omega, by omega⟩ (by omega)
        rw [hv6980] at wv6980
        refine q_iald (Sh.arr hI6957.1 ka_233) (900 * v5283.toInt + 111) (by omega) (by omega) v6980 ((eA_c (hF6958.2.1 233 (by decide))).trans hv6980) ?_
        have bv6982 := q_bnd x6955
        have bv6983 := q_bnd v6980
        refine r_ics 175 rfl (fun c6981 => ?_) (fun c6981 => ?_)
        · have c6981_ : x6955.toInt ≥ v6980.toInt := en_i_ge_t c6981
          refine At.enter rfl ?_
          refine r_lload e6971 ?_
          refine r_lret ?_
          exact ⟨_, rfl, hI6957, hF6958, _, rfl, trivial, (TMI_end q6974 (by rw [(show RWM g0 (eA g0 233 3).toInt 1 = v6980.toInt from by (show (eA g0 233 (110 + 900 * (eA g0 233 3).toInt + 1)).toInt = _); rw [hv5283, show 110 + 900 * v5283.toInt + 1 = (900 * v5283.toInt + 111) from by omega, hv6980])]; omega) q6975 (by have e := congrArg Int32.toInt hv5283; omega))⟩
        · have c6981_ : x6955.toInt < v6980.toInt := en_i_ge_f c6981
          refine At.enter rfl ?_
          refine r_aload_n e6963 ?_
          refine q_getI (Sh.int hI6957.1 kx_231 rfl) v5286 e6962 ?_
          refine r_iconst 2 rfl ?_
          refine q_iadd (v5286.toInt + 2) rfl (by omega) (fun v6984 hv6984 => ?_)
          refine r_bipush 8 rfl ?_
          refine r_iload e6972 ?_
          refine q_imul (8 * x6955.toInt) rfl (by omega) (fun v6985 hv6985 => ?_)
          refine q_iadd (v6984.toInt + v6985.toInt) rfl (by omega) (fun v6986 hv6986 => ?_)
          refine r_istore _ rfl ?_
          refine r_aload_n (w_p1 (by decide) (Or.inr rfl) e6963) ?_
          refine q_getR (Sh.ref hI6957.1 kx_231 rfl) ?_
          refine r_iload (w_e1 _ _ _) ?_
          obtain ⟨v6987, hv6987⟩ : ∃ v, eA g0 233 (900 * v5283.toInt + 8 * x6955.toInt + 112) = v := ⟨_, rfl⟩
          refine q_iald (Sh.arr hI6957.1 ka_233) (900 * v5283.toInt + 8 * x6955.toInt + 112) (by omega) (by omega) v6987 ((eA_c (hF6958.2.1 233 (by decide))).trans hv6987) ?_
          refine r_iload_n (w_p1 (by decide) (Or.inr rfl) e6964) ?_
          refine r_ics 200 rfl (fun c6988 => ?_) (fun c6988 => ?_)
          · have c6988_ : v6987.toInt ≠ a1.toInt := en_i_ne_t c6988
            refine At.enter rfl ?_
            refine q_iinc (w_p1 (by decide) (Or.inr rfl) e6972) (x6955.toInt + 1) rfl (by omega) (fun v6989 hv6989 => ?_)
            refine r_goto ?_
            exact ih6961 (12 - v6989.toInt) _ _ ⟨x6954, v6989, by first | rfl | omega, hI6957, hF6958, e6962, (w_p1 (by decide) (Or.inr rfl) (w_p1 (by decide) (Or.inr rfl) e6963)), (w_p1 (by decide) (Or.inr rfl) (w_p1 (by decide) (Or.inr rfl) e6964)), (w_p1 (by decide) (Or.inr rfl) (w_p1 (by decide) (Or.inr rfl) e6965)), (w_p1 (by decide) (Or.inr rfl) (w_p1 (by decide) (Or.inr rfl) e6966)), (w_p1 (by decide) (Or.inr rfl) (w_p1 (by decide) (Or.inr rfl) e6967)), (w_p1 (by decide) (Or.inr rfl) (w_p1 (by decide) (Or.inr rfl) e6968)), (w_p1 (by decide) (Or.inl (by decide)) (w_p1 (by decide) (Or.inl (by decide)) e6969)), (w_p1 (by decide) (Or.inr rfl) (w_p1 (by decide) (Or.inr rfl) e6970)), (w_p1 (by decide) (Or.inl (by decide)) (w_p1 (by decide) (Or.inl (by decide)) e6971)), (w_e1 _ _ _), by omega, (TMI_skip q6974 q6974.1 (by omega) (by omega) (fun h1 => by rw [(show RWM g0 (eA g0 233 3).toInt (2 + 8 * x6955.toInt) = v6987.toInt from by (show (eA g0 233 (110 + 900 * (eA g0 233 3).toInt + (2 + 8 * x6955.toInt))).toInt = _); rw [hv5283, show 110 + 900 * v5283.toInt + (2 + 8 * x6955.toInt) = (900 * v5283.toInt + 8 * x6955.toInt + 112) from by omega, hv6987])]; omega)), (by rw [show RWM g0 (eA g0 233 3).toInt 1 = v6980.toInt from by (show (eA g0 233 (110 + 900 * (eA g0 233 3).toInt + 1)).toInt = _); rw [hv5283, show 110 + 900 * v5283.toInt + 1 = (900 * v5283.toInt + 111) from by omega, hv6980]]; omega)⟩ ⟨by omega, by omega⟩
          · have c6988_ : v6987.toInt = a1.toInt := en_i_ne_f c6988
            refine At.enter rfl ?_
            refine r_aload_n (w_p1 (by decide) (Or.inr rfl) e6963) ?_
            refine r_iload (w_e1 _ _ _) ?_
            refine q_inlV 206 rfl [.ref 231, .int v6986] [] (Nat.le_of_ble_eq_true rfl) rfl ?_
            refine Ev.mk rfl rfl ⟨Nat.le_of_ble_eq_true rfl, Or.inr (q_rc hI6957.1 kx_231 rfl)⟩ ?_
            show At _ none _ _ (0, [(0, .ref 231), (1, .int v6986)], [], (_, _)) _
            refine At.enter rfl ?_
            refine r_aload_n rfl ?_
            refine q_getR (Sh.ref hI6957.1 kx_231 rfl) ?_
            refine r_iload_n rfl ?_
            refine r_iconst 5 rfl ?_
            refine q_iadd (v6986.toInt + 5) rfl (by omega) (fun v6990 hv6990 => ?_)
            obtain ⟨v6991, hv6991⟩ : ∃ v, eA g0 233 (900 * v5283.toInt + 8 * x6955.toInt + 117) = v := ⟨_, rfl⟩
            refine q_iald (Sh.arr hI6957.1 ka_233) (900 * v5283.toInt + 8 * x6955.toInt + 117) (by omega) (by omega) v6991 ((eA_c (hF6958.2.1 233 (by decide))).trans hv6991) ?_
            refine r_aload_n rfl ?_
            refine q_getR (Sh.ref hI6957.1 kx_231 rfl) ?_
            refine r_iload_n rfl ?_
            refine r_bipush 6 rfl ?_
            refine q_iadd (v6986.toInt + 6) rfl (by omega) (fun v6992 hv6992 => ?_)
            obtain ⟨v6993, hv6993⟩ : ∃ v, eA g0 233 (900 * v5283.toInt + 8 * x6955.toInt + 118) = v := ⟨_, rfl⟩
            refine q_iald (Sh.arr hI6957.1 ka_233) (900 * v5283.toInt + 8 * x6955.toInt + 118) (by omega) (by omega) v6993 ((eA_c (hF6958.2.1 233 (by decide))).trans hv6993) ?_
            have bv6995 := q_bnd v6991
            have bv6996 := q_bnd v6993
            refine r_ics 20 rfl (fun c6994 => ?_) (fun c6994 => ?_)
            · have c6994_ : v6991.toInt ≥ v6993.toInt := en_i_ge_t c6994
              refine At.enter rfl ?_
              refine r_aload_n rfl ?_
              refine q_getR (Sh.ref hI6957.1 kx_231 rfl) ?_
              refine r_iload_n rfl ?_
              refine q_iald (Sh.arr hI6957.1 ka_233) (900 * v5283.toInt + 8 * x6955.toInt + 112) (by omega) (by omega) v6987 ((eA_c (hF6958.2.1 233 (by decide))).trans hv6987) ?_
              refine r_iconst 2 rfl ?_
              refine r_ics 69 rfl (fun c6997 => ?_) (fun c6997 => ?_)
              · have c6997_ : v6987.toInt ≥ 2 := en_i_ge_t c6997
                refine At.enter rfl ?_
                refine r_iconst 1 rfl ?_
                refine q_iretz (by decide) ?_
                refine At.enter rfl ?_
                refine r_iff 209 rfl (by decide) ?_
                refine At.enter rfl ?_
                refine r_iload_n (w_p1 (by decide) (Or.inr rfl) e6964) ?_
                refine r_iconst 2 rfl ?_
                refine r_ics 214 rfl (fun c6998 => ?_) (fun c6998 => ?_)
                · have c6998_ : a1.toInt ≥ 2 := en_i_ge_t c6998
                  refine At.enter rfl ?_
                  refine r_lconst 1 rfl ?_
                  refine Ar.fall 222 rfl ?_
                  refine At.enter rfl ?_
                  refine r_lstore _ rfl ?_
                  refine Ar.fall 224 rfl ?_
                  refine At.enter rfl ?_
                  refine q_iinc (w_p2 (by decide) (by decide) (Or.inr rfl) (w_p1 (by decide) (Or.inr rfl) e6972)) (x6955.toInt + 1) rfl (by omega) (fun v6999 hv6999 => ?_)
                  refine r_goto ?_
                  have zv7000 : (1 : Int64).toInt = 1 := rfl
                  exact ih6961 (12 - v6999.toInt) _ _ ⟨1, v6999, by first | rfl | omega, hI6957, hF6958, e6962, (w_p1 (by decide) (Or.inr rfl) (w_p2 (by decide) (by decide) (Or.inr rfl) (w_p1 (by decide) (Or.inr rfl) e6963))), (w_p1 (by decide) (Or.inr rfl) (w_p2 (by decide) (by decide) (Or.inr rfl) (w_p1 (by decide) (Or.inr rfl) e6964))), (w_p1 (by decide) (Or.inr rfl) (w_p2 (by decide) (by decide) (Or.inr rfl) (w_p1 (by decide) (Or.inr rfl) e6965))), (w_p1 (by decide) (Or.inr rfl) (w_p2 (by decide) (by decide) (Or.inr rfl) (w_p1 (by decide) (Or.inr rfl) e6966))), (w_p1 (by decide) (Or.inr rfl) (w_p2 (by decide) (by decide) (Or.inr rfl) (w_p1 (by decide) (Or.inr rfl) e6967))), (w_p1 (by decide) (Or.inr rfl) (w_p2 (by decide) (by decide) (Or.inr rfl) (w_p1 (by decide) (Or.inr rfl) e6968))), (w_p1 (by decide) (Or.inl (by decide)) (w_p2 (by decide) (by decide) (Or.inl (by decide)) (w_p1 (by decide) (Or.inl (by decide)) e6969))), (w_p1 (by decide) (Or.inr rfl) (w_p2 (by decide) (by decide) (Or.inr rfl) (w_p1 (by decide) (Or.inr rfl) e6970))), (w_p1 (by decide) (Or.inl (by decide)) (w_e2 _ _ _)), (w_e1 _ _ _), by omega, (TMI_some q6974.1 (by omega) (by omega) (show x6955.toInt < RWM g0 (eA g0 233 3).toInt 1 from by rw [show RWM g0 (eA g0 233 3).toInt 1 = v6980.toInt from by (show (eA g0 233 (110 + 900 * (eA g0 233 3).toInt + 1)).toInt = _); rw [hv5283, show 110 + 900 * v5283.toInt + 1 = (900 * v5283.toInt + 111) from by omega, hv6980]]; omega) (fun h1 => absurd h1 (by omega)) (fun h1 => absurd h1 (by omega))), (by rw [show RWM g0 (eA g0 233 3).toInt 1 = v6980.toInt from by (show (eA g0 233 (110 + 900 * (eA g0 233 3).toInt + 1)).toInt = _); rw [hv5283, show 110 + 900 * v5283.toInt + 1 = (900 * v5283.toInt + 111) from by omega, hv6980]]; omega)⟩ ⟨by omega, by omega⟩
                · have c6998_ : a1.toInt < 2 := en_i_ge_f c6998
                  refine At.enter rfl ?_
                  refine r_aload_n (w_p1 (by decide) (Or.inr rfl) e6963) ?_
                  obtain ⟨v7001, hv7001⟩ : ∃ v, gJ g6956 231 32 = v := ⟨_, rfl⟩
                  refine q_getJv (Sh.long hI6957.1 kx_231 rfl) v7001 hv7001 ?_
                  refine r_goto ?_
                  refine At.enter rfl ?_
                  refine r_lstore _ rfl ?_
                  refine Ar.fall 224 rfl ?_
                  refine At.enter rfl ?_
                  refine q_iinc (w_p2 (by decide) (by decide) (Or.inr rfl) (w_p1 (by decide) (Or.inr rfl) e6972)) (x6955.toInt + 1) rfl (by omega) (fun v7002 hv7002 => ?_)
                  refine r_goto ?_
                  exact ih6961 (12 - v7002.toInt) _ _ ⟨v7001, v7002, by first | rfl | omega, hI6957, hF6958, e6962, (w_p1 (by decide) (Or.inr rfl) (w_p2 (by decide) (by decide) (Or.inr rfl) (w_p1 (by decide) (Or.inr rfl) e6963))), (w_p1 (by decide) (Or.inr rfl) (w_p2 (by decide) (by decide) (Or.inr rfl) (w_p1 (by decide) (Or.inr rfl) e6964))), (w_p1 (by decide) (Or.inr rfl) (w_p2 (by decide) (by decide) (Or.inr rfl) (w_p1 (by decide) (Or.inr rfl) e6965))), (w_p1 (by decide) (Or.inr rfl) (w_p2 (by decide) (by decide) (Or.inr rfl) (w_p1 (by decide) (Or.inr rfl) e6966))), (w_p1 (by decide) (Or.inr rfl) (w_p2 (by decide) (by decide) (Or.inr rfl) (w_p1 (by decide) (Or.inr rfl) e6967))), (w_p1 (by decide) (Or.inr rfl) (w_p2 (by decide) (by decide) (Or.inr rfl) (w_p1 (by decide) (Or.inr rfl) e6968))), (w_p1 (by decide) (Or.inl (by decide)) (w_p2 (by decide) (by decide) (Or.inl (by decide)) (w_p1 (by decide) (Or.inl (by decide)) e6969))), (w_p1 (by decide) (Or.inr rfl) (w_p2 (by decide) (by decide) (Or.inr rfl) (w_p1 (by decide) (Or.inr rfl) e6970))), (w_p1 (by decide) (Or.inl (by decide)) (w_e2 _ _ _)), (w_e1 _ _ _), by omega, (TMI_some q6974.1 (by omega) (by omega) (show x6955.toInt < RWM g0 (eA g0 233 3).toInt 1 from by rw [show RWM g0 (eA g0 233 3).toInt 1 = v6980.toInt from by (show (eA g0 233 (110 + 900 * (eA g0 233 3).toInt + 1)).toInt = _); rw [hv5283, show 110 + 900 * v5283.toInt + 1 = (900 * v5283.toInt + 111) from by omega, hv6980]]; omega) (fun h1 => absurd h1 (by omega)) (fun h1 => absurd h1 (by omega))), (by rw [show RWM g0 (eA g0 233 3).toInt 1 = v6980.toInt from by (show (eA g0 233 (110 + 900 * (eA g0 233 3).toInt + 1)).toInt = _); rw [hv5283, show 110 + 900 * v5283.toInt + 1 = (900 * v5283.toInt + 111) from by omega, hv6980]]; omega)⟩ ⟨by omega, by omega⟩
              · have c6997_ : v6987.toInt < 2 := en_i_ge_f c6997
                refine At.enter rfl ?_
                refine r_aload_n rfl ?_
                refine r_aload_n rfl ?_
                refine q_getR (Sh.ref hI6957.1 kx_231 rfl) ?_
                refine r_iload_n rfl ?_
                refine r_iconst 3 rfl ?_
                refine q_iadd (v6986.toInt + 3) rfl (by omega) (fun v7003 hv7003 => ?_)
                obtain ⟨v7004, hv7004⟩ : ∃ v, eA g0 233 (900 * v5283.toInt + 8 * x6955.toInt + 115) = v := ⟨_, rfl⟩
                refine q_iald (Sh.arr hI6957.1 ka_233) (900 * v5283.toInt + 8 * x6955.toInt + 115) (by omega) (by omega) v7004 ((eA_c (hF6958.2.1 233 (by decide))).trans hv7004) ?_
                refine r_aload_n rfl ?_
                refine q_getR (Sh.ref hI6957.1 kx_231 rfl) ?_
                refine r_iload_n rfl ?_
                refine r_iconst 4 rfl ?_
                refine q_iadd (v6986.toInt + 4) rfl (by omega) (fun v7005 hv7005 => ?_)
                obtain ⟨v7006, hv7006⟩ : ∃ v, eA g0 233 (900 * v5283.toInt + 8 * x6955.toInt + 116) = v := ⟨_, rfl⟩
                refine q_iald (Sh.arr hI6957.1 ka_233) (900 * v5283.toInt + 8 * x6955.toInt + 116) (by omega) (by omega) v7006 ((eA_c (hF6958.2.1 233 (by decide))).trans hv7006) ?_
                refine r_callV 89 rfl [.ref 231, .int v7004, .int v7006] [] (Nat.le_of_ble_eq_true rfl) rfl (T_X11_reckonAll_231 _ hI6957 v7004 v7006 (HI.code hI0 (j := v5283.toInt) (c := x6955.toInt) ⟨by omega, by omega⟩ (hF6958.2.1 233 (by decide)) (by rw [e6962]; omega) (i := (900 * v5283.toInt + 111)) (by omega) (congrArg Int32.toInt hv6980) ⟨by omega, by omega⟩ (i3 := (900 * v5283.toInt + 8 * x6955.toInt + 115)) (i4 := (900 * v5283.toInt + 8 * x6955.toInt + 116)) 3 (by decide) (by omega) (by omega) (congrArg Int32.toInt hv7004) (congrArg Int32.toInt hv7006))) ?_
                rintro _ _ ⟨g7007, rfl, hI7008, hF7009, rfl, hr7011⟩
                refine At.stn ?_
                have hF7012 := Fr.tr hF6958 hF7009 rfl rfl
                refine At.enter rfl ?_
                refine r_aload_n rfl ?_
                refine r_aload_n rfl ?_
                obtain ⟨v7013, hv7013⟩ : ∃ v, gJ g7007 231 31 = v := ⟨_, rfl⟩
                refine q_getJv (Sh.long hI7008.1 kx_231 rfl) v7013 hv7013 ?_
                refine q_putJ (Sh.long hI7008.1 kx_231 rfl) rfl ?_
                have hI7014 := HI.wJ hI7008 kx_231 rfl (p := 231) (b := 32) (v := v7013)
                have hF7015 := Fr.wJ (p := 231) (b := 32) (v := v7013) hF7012 rfl
                refine r_aload_n rfl ?_
                obtain ⟨v7016, hv7016⟩ : ∃ v, gI g7007 231 30 = v := ⟨_, rfl⟩
                refine q_getI (Sh.int hI7014.1 kx_231 rfl) v7016 ((gI_sJ_ne (by decide)).trans hv7016) ?_
                refine r_ifs 104 rfl (fun c7017 => ?_) (fun c7017 => ?_)
                · have c7017_ : v7016.toInt ≠ 0 := en_k_ne_t c7017
                  refine At.enter rfl ?_
                  refine r_iconst 0 rfl ?_
                  refine Ar.fall 109 rfl ?_
                  refine At.enter rfl ?_
                  refine q_iretz (by decide) ?_
                  refine At.enter rfl ?_
                  refine r_ift (by decide) ?_
                  refine At.enter rfl ?_
                  refine q_iinc (w_p1 (by decide) (Or.inr rfl) e6972) (x6955.toInt + 1) rfl (by omega) (fun v7018 hv7018 => ?_)
                  refine r_goto ?_
                  exact ih6961 (12 - v7018.toInt) _ _ ⟨x6954, v7018, by first | rfl | omega, hI7014, hF7015, (((gI_sJ_ne (by decide)).trans (hF7009.1 231 27 mf_X11_reckonAll_231_231_27)).trans e6962), (w_p1 (by decide) (Or.inr rfl) (w_p1 (by decide) (Or.inr rfl) e6963)), (w_p1 (by decide) (Or.inr rfl) (w_p1 (by decide) (Or.inr rfl) e6964)), (w_p1 (by decide) (Or.inr rfl) (w_p1 (by decide) (Or.inr rfl) e6965)), (w_p1 (by decide) (Or.inr rfl) (w_p1 (by decide) (Or.inr rfl) e6966)), (w_p1 (by decide) (Or.inr rfl) (w_p1 (by decide) (Or.inr rfl) e6967)), (w_p1 (by decide) (Or.inr rfl) (w_p1 (by decide) (Or.inr rfl) e6968)), (w_p1 (by decide) (Or.inl (by decide)) (w_p1 (by decide) (Or.inl (by decide)) e6969)), (w_p1 (by decide) (Or.inr rfl) (w_p1 (by decide) (Or.inr rfl) e6970)), (w_p1 (by decide) (Or.inl (by decide)) (w_p1 (by decide) (Or.inl (by decide)) e6971)), (w_e1 _ _ _), by omega, (TMI_none q6974 (MCX_c (MCX_c q6974.1 hr7011.1 (hF7009.2.1 233 ma_X11_reckonAll_231_233) (hF7009.1 231 27 mf_X11_reckonAll_231_231_27)) gK_sJ gA_sJ (gI_sJ_ne (by decide))) (by omega) (by omega) (show x6955.toInt < RWM g0 (eA g0 233 3).toInt 1 from by rw [show RWM g0 (eA g0 233 3).toInt 1 = v6980.toInt from by (show (eA g0 233 (110 + 900 * (eA g0 233 3).toInt + 1)).toInt = _); rw [hv5283, show 110 + 900 * v5283.toInt + 1 = (900 * v5283.toInt + 111) from by omega, hv6980]]; omega) (fun h1 L => (CMW_bare (by rw [(show RWM g0 (eA g0 233 3).toInt (2 + 8 * x6955.toInt + 5) = v6991.toInt from by (show (eA g0 233 (110 + 900 * (eA g0 233 3).toInt + (2 + 8 * x6955.toInt + 5))).toInt = _); rw [hv5283, show 110 + 900 * v5283.toInt + (2 + 8 * x6955.toInt + 5) = (900 * v5283.toInt + 8 * x6955.toInt + 117) from by omega, hv6991]), (show RWM g0 (eA g0 233 3).toInt (2 + 8 * x6955.toInt + 6) = v6993.toInt from by (show (eA g0 233 (110 + 900 * (eA g0 233 3).toInt + (2 + 8 * x6955.toInt + 6))).toInt = _); rw [hv5283, show 110 + 900 * v5283.toInt + (2 + 8 * x6955.toInt + 6) = (900 * v5283.toInt + 8 * x6955.toInt + 118) from by omega, hv6993])]; omega) L).trans (EVM_none (WRN_e hr7011 (show RWM g0 (eA g0 233 3).toInt (2 + 8 * x6955.toInt + 3) = v7004.toInt from by (show (eA g0 233 (110 + 900 * (eA g0 233 3).toInt + (2 + 8 * x6955.toInt + 3))).toInt = _); rw [hv5283, show 110 + 900 * v5283.toInt + (2 + 8 * x6955.toInt + 3) = (900 * v5283.toInt + 8 * x6955.toInt + 115) from by omega, hv7004]) (show RWM g0 (eA g0 233 3).toInt (2 + 8 * x6955.toInt + 4) = v7006.toInt from by (show (eA g0 233 (110 + 900 * (eA g0 233 3).toInt + (2 + 8 * x6955.toInt + 4))).toInt = _); rw [hv5283, show 110 + 900 * v5283.toInt + (2 + 8 * x6955.toInt + 4) = (900 * v5283.toInt + 8 * x6955.toInt + 116) from by omega, hv7006])) q6974.1 (by rw [hv7016]; omega) L.1))), (by rw [show RWM g0 (eA g0 233 3).toInt 1 = v6980.toInt from by (show (eA g0 233 (110 + 900 * (eA g0 233 3).toInt + 1)).toInt = _); rw [hv5283, show 110 + 900 * v5283.toInt + 1 = (900 * v5283.toInt + 111) from by omega, hv6980]]; omega)⟩ ⟨by omega, by omega⟩
                · have c7017_ : v7016.toInt = 0 := en_k_ne_f c7017
                  refine At.enter rfl ?_
                  refine r_iconst 1 rfl ?_
                  refine r_goto ?_
                  refine At.enter rfl ?_
                  refine q_iretz (by decide) ?_
                  refine At.enter rfl ?_
                  refine r_iff 209 rfl (by decide) ?_
                  refine At.enter rfl ?_
                  refine r_iload_n (w_p1 (by decide) (Or.inr rfl) e6964) ?_
                  refine r_iconst 2 rfl ?_
                  refine r_ics 214 rfl (fun c7019 => ?_) (fun c7019 => ?_)
                  · have c7019_ : a1.toInt ≥ 2 := en_i_ge_t c7019
                    refine At.enter rfl ?_
                    refine r_lconst 1 rfl ?_
                    refine Ar.fall 222 rfl ?_
                    refine At.enter rfl ?_
                    refine r_lstore _ rfl ?_
                    refine Ar.fall 224 rfl ?_
                    refine At.enter rfl ?_
                    refine q_iinc (w_p2 (by decide) (by decide) (Or.inr rfl) (w_p1 (by decide) (Or.inr rfl) e6972)) (x6955.toInt + 1) rfl (by omega) (fun v7020 hv7020 => ?_)
                    refine r_goto ?_
                    have zv7021 : (1 : Int64).toInt = 1 := rfl
                    exact ih6961 (12 - v7020.toInt) _ _ ⟨1, v7020, by first | rfl | omega, hI7014, hF7015, (((gI_sJ_ne (by decide)).trans (hF7009.1 231 27 mf_X11_reckonAll_231_231_27)).trans e6962), (w_p1 (by decide) (Or.inr rfl) (w_p2 (by decide) (by decide) (Or.inr rfl) (w_p1 (by decide) (Or.inr rfl) e6963))), (w_p1 (by decide) (Or.inr rfl) (w_p2 (by decide) (by decide) (Or.inr rfl) (w_p1 (by decide) (Or.inr rfl) e6964))), (w_p1 (by decide) (Or.inr rfl) (w_p2 (by decide) (by decide) (Or.inr rfl) (w_p1 (by decide) (Or.inr rfl) e6965))), (w_p1 (by decide) (Or.inr rfl) (w_p2 (by decide) (by decide) (Or.inr rfl) (w_p1 (by decide) (Or.inr rfl) e6966))), (w_p1 (by decide) (Or.inr rfl) (w_p2 (by decide) (by decide) (Or.inr rfl) (w_p1 (by decide) (Or.inr rfl) e6967))), (w_p1 (by decide) (Or.inr rfl) (w_p2 (by decide) (by decide) (Or.inr rfl) (w_p1 (by decide) (Or.inr rfl) e6968))), (w_p1 (by decide) (Or.inl (by decide)) (w_p2 (by decide) (by decide) (Or.inl (by decide)) (w_p1 (by decide) (Or.inl (by decide)) e6969))), (w_p1 (by decide) (Or.inr rfl) (w_p2 (by decide) (by decide) (Or.inr rfl) (w_p1 (by decide) (Or.inr rfl) e6970))), (w_p1 (by decide) (Or.inl (by decide)) (w_e2 _ _ _)), (w_e1 _ _ _), by omega, (by first | exact TMI_some (MCX_c (MCX_c q6974.1 hr7011.1 (hF7009.2.1 233 ma_X11_reckonAll_231_233) (hF7009.1 231 27 mf_X11_reckonAll_231_231_27)) gK_sJ gA_sJ (gI_sJ_ne (by decide))) (by omega) (by omega) (show x6955.toInt < RWM g0 (eA g0 233 3).toInt 1 from by rw [show RWM g0 (eA g0 233 3).toInt 1 = v6980.toInt from by (show (eA g0 233 (110 + 900 * (eA g0 233 3).toInt + 1)).toInt = _); rw [hv5283, show 110 + 900 * v5283.toInt + 1 = (900 * v5283.toInt + 111) from by omega, hv6980]]; omega) (fun h1 => by rw [(show RWM g0 (eA g0 233 3).toInt (2 + 8 * x6955.toInt) = v6987.toInt from by (show (eA g0 233 (110 + 900 * (eA g0 233 3).toInt + (2 + 8 * x6955.toInt))).toInt = _); rw [hv5283, show 110 + 900 * v5283.toInt + (2 + 8 * x6955.toInt) = (900 * v5283.toInt + 8 * x6955.toInt + 112) from by omega, hv6987])]; omega) (fun h1 L => (CMW_bare (by rw [(show RWM g0 (eA g0 233 3).toInt (2 + 8 * x6955.toInt + 5) = v6991.toInt from by (show (eA g0 233 (110 + 900 * (eA g0 233 3).toInt + (2 + 8 * x6955.toInt + 5))).toInt = _); rw [hv5283, show 110 + 900 * v5283.toInt + (2 + 8 * x6955.toInt + 5) = (900 * v5283.toInt + 8 * x6955.toInt + 117) from by omega, hv6991]), (show RWM g0 (eA g0 233 3).toInt (2 + 8 * x6955.toInt + 6) = v6993.toInt from by (show (eA g0 233 (110 + 900 * (eA g0 233 3).toInt + (2 + 8 * x6955.toInt + 6))).toInt = _); rw [hv5283, show 110 + 900 * v5283.toInt + (2 + 8 * x6955.toInt + 6) = (900 * v5283.toInt + 8 * x6955.toInt + 118) from by omega, hv6993])]; omega) L).trans (EVM_some (WRN_e hr7011 (show RWM g0 (eA g0 233 3).toInt (2 + 8 * x6955.toInt + 3) = v7004.toInt from by (show (eA g0 233 (110 + 900 * (eA g0 233 3).toInt + (2 + 8 * x6955.toInt + 3))).toInt = _); rw [hv5283, show 110 + 900 * v5283.toInt + (2 + 8 * x6955.toInt + 3) = (900 * v5283.toInt + 8 * x6955.toInt + 115) from by omega, hv7004]) (show RWM g0 (eA g0 233 3).toInt (2 + 8 * x6955.toInt + 4) = v7006.toInt from by (show (eA g0 233 (110 + 900 * (eA g0 233 3).toInt + (2 + 8 * x6955.toInt + 4))).toInt = _); rw [hv5283, show 110 + 900 * v5283.toInt + (2 + 8 * x6955.toInt + 4) = (900 * v5283.toInt + 8 * x6955.toInt + 116) from by omega, hv7006])) q6974.1 ((congrArg Int32.toInt hv7016).trans (by omega)) (congrArg Int64.toInt hv7013) L.1)) | exact TMI_some (MCX_c (MCX_c q6974.1 hr7011.1 (hF7009.2.1 233 ma_X11_reckonAll_231_233) (hF7009.1 231 27 mf_X11_reckonAll_231_231_27)) gK_sJ gA_sJ (gI_sJ_ne (by decide))) (by omega) (by omega) (show x6955.toInt < RWM g0 (eA g0 233 3).toInt 1 from by rw [show RWM g0 (eA g0 233 3).toInt 1 = v6980.toInt from by (show (eA g0 233 (110 + 900 * (eA g0 233 3).toInt + 1)).toInt = _); rw [hv5283, show 110 + 900 * v5283.toInt + 1 = (900 * v5283.toInt + 111) from by omega, hv6980]]; omega) (fun h1 => absurd h1 (by omega)) (fun h1 => absurd h1 (by omega))), (by rw [show RWM g0 (eA g0 233 3).toInt 1 = v6980.toInt from by (show (eA g0 233 (110 + 900 * (eA g0 233 3).toInt + 1)).toInt = _); rw [hv5283, show 110 + 900 * v5283.toInt + 1 = (900 * v5283.toInt + 111) from by omega, hv6980]]; omega)⟩ ⟨by omega, by omega⟩
                  · have c7019_ : a1.toInt < 2 := en_i_ge_f c7019
                    refine At.enter rfl ?_
                    refine r_aload_n (w_p1 (by decide) (Or.inr rfl) e6963) ?_
                    refine q_getJv (Sh.long hI7014.1 kx_231 rfl) v7013 (gJ_sJ_eq hI7008.1 kx_231 rfl _) ?_
                    refine r_goto ?_
                    refine At.enter rfl ?_
                    refine r_lstore _ rfl ?_
                    refine Ar.fall 224 rfl ?_
                    refine At.enter rfl ?_
                    refine q_iinc (w_p2 (by decide) (by decide) (Or.inr rfl) (w_p1 (by decide) (Or.inr rfl) e6972)) (x6955.toInt + 1) rfl (by omega) (fun v7022 hv7022 => ?_)
                    refine r_goto ?_
                    exact ih6961 (12 - v7022.toInt) _ _ ⟨v7013, v7022, by first | rfl | omega, hI7014, hF7015, (((gI_sJ_ne (by decide)).trans (hF7009.1 231 27 mf_X11_reckonAll_231_231_27)).trans e6962), (w_p1 (by decide) (Or.inr rfl) (w_p2 (by decide) (by decide) (Or.inr rfl) (w_p1 (by decide) (Or.inr rfl) e6963))), (w_p1 (by decide) (Or.inr rfl) (w_p2 (by decide) (by decide) (Or.inr rfl) (w_p1 (by decide) (Or.inr rfl) e6964))), (w_p1 (by decide) (Or.inr rfl) (w_p2 (by decide) (by decide) (Or.inr rfl) (w_p1 (by decide) (Or.inr rfl) e6965))), (w_p1 (by decide) (Or.inr rfl) (w_p2 (by decide) (by decide) (Or.inr rfl) (w_p1 (by decide) (Or.inr rfl) e6966))), (w_p1 (by decide) (Or.inr rfl) (w_p2 (by decide) (by decide) (Or.inr rfl) (w_p1 (by decide) (Or.inr rfl) e6967))), (w_p1 (by decide) (Or.inr rfl) (w_p2 (by decide) (by decide) (Or.inr rfl) (w_p1 (by decide) (Or.inr rfl) e6968))), (w_p1 (by decide) (Or.inl (by decide)) (w_p2 (by decide) (by decide) (Or.inl (by decide)) (w_p1 (by decide) (Or.inl (by decide)) e6969))), (w_p1 (by decide) (Or.inr rfl) (w_p2 (by decide) (by decide) (Or.inr rfl) (w_p1 (by decide) (Or.inr rfl) e6970))), (w_p1 (by decide) (Or.inl (by decide)) (w_e2 _ _ _)), (w_e1 _ _ _), by omega, (by first | exact TMI_some (MCX_c (MCX_c q6974.1 hr7011.1 (hF7009.2.1 233 ma_X11_reckonAll_231_233) (hF7009.1 231 27 mf_X11_reckonAll_231_231_27)) gK_sJ gA_sJ (gI_sJ_ne (by decide))) (by omega) (by omega) (show x6955.toInt < RWM g0 (eA g0 233 3).toInt 1 from by rw [show RWM g0 (eA g0 233 3).toInt 1 = v6980.toInt from by (show (eA g0 233 (110 + 900 * (eA g0 233 3).toInt + 1)).toInt = _); rw [hv5283, show 110 + 900 * v5283.toInt + 1 = (900 * v5283.toInt + 111) from by omega, hv6980]]; omega) (fun h1 => by rw [(show RWM g0 (eA g0 233 3).toInt (2 + 8 * x6955.toInt) = v6987.toInt from by (show (eA g0 233 (110 + 900 * (eA g0 233 3).toInt + (2 + 8 * x6955.toInt))).toInt = _); rw [hv5283, show 110 + 900 * v5283.toInt + (2 + 8 * x6955.toInt) = (900 * v5283.toInt + 8 * x6955.toInt + 112) from by omega, hv6987])]; omega) (fun h1 L => (CMW_bare (by rw [(show RWM g0 (eA g0 233 3).toInt (2 + 8 * x6955.toInt + 5) = v6991.toInt from by (show (eA g0 233 (110 + 900 * (eA g0 233 3).toInt + (2 + 8 * x6955.toInt + 5))).toInt = _); rw [hv5283, show 110 + 900 * v5283.toInt + (2 + 8 * x6955.toInt + 5) = (900 * v5283.toInt + 8 * x6955.toInt + 117) from by omega, hv6991]), (show RWM g0 (eA g0 233 3).toInt (2 + 8 * x6955.toInt + 6) = v6993.toInt from by (show (eA g0 233 (110 + 900 * (eA g0 233 3).toInt + (2 + 8 * x6955.toInt + 6))).toInt = _); rw [hv5283, show 110 + 900 * v5283.toInt + (2 + 8 * x6955.toInt + 6) = (900 * v5283.toInt + 8 * x6955.toInt + 118) from by omega, hv6993])]; omega) L).trans (EVM_some (WRN_e hr7011 (show RWM g0 (eA g0 233 3).toInt (2 + 8 * x6955.toInt + 3) = v7004.toInt from by (show (eA g0 233 (110 + 900 * (eA g0 233 3).toInt + (2 + 8 * x6955.toInt + 3))).toInt = _); rw [hv5283, show 110 + 900 * v5283.toInt + (2 + 8 * x6955.toInt + 3) = (900 * v5283.toInt + 8 * x6955.toInt + 115) from by omega, hv7004]) (show RWM g0 (eA g0 233 3).toInt (2 + 8 * x6955.toInt + 4) = v7006.toInt from by (show (eA g0 233 (110 + 900 * (eA g0 233 3).toInt + (2 + 8 * x6955.toInt + 4))).toInt = _); rw [hv5283, show 110 + 900 * v5283.toInt + (2 + 8 * x6955.toInt + 4) = (900 * v5283.toInt + 8 * x6955.toInt + 116) from by omega, hv7006])) q6974.1 ((congrArg Int32.toInt hv7016).trans (by omega)) (congrArg Int64.toInt hv7013) L.1)) | exact TMI_some (MCX_c (MCX_c q6974.1 hr7011.1 (hF7009.2.1 233 ma_X11_reckonAll_231_233) (hF7009.1 231 27 mf_X11_reckonAll_231_231_27)) gK_sJ gA_sJ (gI_sJ_ne (by decide))) (by omega) (by omega) (show x6955.toInt < RWM g0 (eA g0 233 3).toInt 1 from by rw [show RWM g0 (eA g0 233 3).toInt 1 = v6980.toInt from by (show (eA g0 233 (110 + 900 * (eA g0 233 3).toInt + 1)).toInt = _); rw [hv5283, show 110 + 900 * v5283.toInt + 1 = (900 * v5283.toInt + 111) from by omega, hv6980]]; omega) (fun h1 => absurd h1 (by omega)) (fun h1 => absurd h1 (by omega))), (by rw [show RWM g0 (eA g0 233 3).toInt 1 = v6980.toInt from by (show (eA g0 233 (110 + 900 * (eA g0 233 3).toInt + 1)).toInt = _); rw [hv5283, show 110 + 900 * v5283.toInt + 1 = (900 * v5283.toInt + 111) from by omega, hv6980]]; omega)⟩ ⟨by omega, by omega⟩
            · have c6994_ : v6991.toInt < v6993.toInt := en_i_ge_f c6994
              refine At.enter rfl ?_
              refine r_aload_n rfl ?_
              refine r_aload_n rfl ?_
              refine q_getR (Sh.ref hI6957.1 kx_231 rfl) ?_
              refine r_iload_n rfl ?_
              refine r_iconst 5 rfl ?_
              refine q_iadd (v6986.toInt + 5) rfl (by omega) (fun v7023 hv7023 => ?_)
              refine q_iald (Sh.arr hI6957.1 ka_233) (900 * v5283.toInt + 8 * x6955.toInt + 117) (by omega) (by omega) v6991 ((eA_c (hF6958.2.1 233 (by decide))).trans hv6991) ?_
              refine r_aload_n rfl ?_
              refine q_getR (Sh.ref hI6957.1 kx_231 rfl) ?_
              refine r_iload_n rfl ?_
              refine r_bipush 6 rfl ?_
              refine q_iadd (v6986.toInt + 6) rfl (by omega) (fun v7024 hv7024 => ?_)
              refine q_iald (Sh.arr hI6957.1 ka_233) (900 * v5283.toInt + 8 * x6955.toInt + 118) (by omega) (by omega) v6993 ((eA_c (hF6958.2.1 233 (by decide))).trans hv6993) ?_
              refine r_callV 41 rfl [.ref 231, .int v6991, .int v6993] [] (Nat.le_of_ble_eq_true rfl) rfl (T_X11_reckonAll_231 _ hI6957 v6991 v6993 (HI.code hI0 (j := v5283.toInt) (c := x6955.toInt) ⟨by omega, by omega⟩ (hF6958.2.1 233 (by decide)) (by rw [e6962]; omega) (i := (900 * v5283.toInt + 111)) (by omega) (congrArg Int32.toInt hv6980) ⟨by omega, by omega⟩ (i3 := (900 * v5283.toInt + 8 * x6955.toInt + 117)) (i4 := (900 * v5283.toInt + 8 * x6955.toInt + 118)) 5 (by decide) (by omega) (by omega) (congrArg Int32.toInt hv6991) (congrArg Int32.toInt hv6993))) ?_
              rintro _ _ ⟨g7025, rfl, hI7026, hF7027, rfl, hr7029⟩
              refine At.stn ?_
              have hF7030 := Fr.tr hF6958 hF7027 rfl rfl
              refine At.enter rfl ?_
              refine r_aload_n rfl ?_
              obtain ⟨v7031, hv7031⟩ : ∃ v, gI g7025 231 30 = v := ⟨_, rfl⟩
              refine q_getI (Sh.int hI7026.1 kx_231 rfl) v7031 hv7031 ?_
              refine r_ifs 48 rfl (fun c7032 => ?_) (fun c7032 => ?_)
              · have c7032_ : v7031.toInt ≠ 0 := en_k_ne_t c7032
                refine At.enter rfl ?_
                refine r_iconst 0 rfl ?_
                refine q_iretz (by decide) ?_
                refine At.enter rfl ?_
                refine r_ift (by decide) ?_
                refine At.enter rfl ?_
                refine q_iinc (w_p1 (by decide) (Or.inr rfl) e6972) (x6955.toInt + 1) rfl (by omega) (fun v7033 hv7033 => ?_)
                refine r_goto ?_
                exact ih6961 (12 - v7033.toInt) _ _ ⟨x6954, v7033, by first | rfl | omega, hI7026, hF7030, ((hF7027.1 231 27 mf_X11_reckonAll_231_231_27).trans e6962), (w_p1 (by decide) (Or.inr rfl) (w_p1 (by decide) (Or.inr rfl) e6963)), (w_p1 (by decide) (Or.inr rfl) (w_p1 (by decide) (Or.inr rfl) e6964)), (w_p1 (by decide) (Or.inr rfl) (w_p1 (by decide) (Or.inr rfl) e6965)), (w_p1 (by decide) (Or.inr rfl) (w_p1 (by decide) (Or.inr rfl) e6966)), (w_p1 (by decide) (Or.inr rfl) (w_p1 (by decide) (Or.inr rfl) e6967)), (w_p1 (by decide) (Or.inr rfl) (w_p1 (by decide) (Or.inr rfl) e6968)), (w_p1 (by decide) (Or.inl (by decide)) (w_p1 (by decide) (Or.inl (by decide)) e6969)), (w_p1 (by decide) (Or.inr rfl) (w_p1 (by decide) (Or.inr rfl) e6970)), (w_p1 (by decide) (Or.inl (by decide)) (w_p1 (by decide) (Or.inl (by decide)) e6971)), (w_e1 _ _ _), by omega, (TMI_none q6974 (MCX_c q6974.1 hr7029.1 (hF7027.2.1 233 ma_X11_reckonAll_231_233) (hF7027.1 231 27 mf_X11_reckonAll_231_231_27)) (by omega) (by omega) (show x6955.toInt < RWM g0 (eA g0 233 3).toInt 1 from by rw [show RWM g0 (eA g0 233 3).toInt 1 = v6980.toInt from by (show (eA g0 233 (110 + 900 * (eA g0 233 3).toInt + 1)).toInt = _); rw [hv5283, show 110 + 900 * v5283.toInt + 1 = (900 * v5283.toInt + 111) from by omega, hv6980]]; omega) (fun h1 L => by first | exact CMW_no (by rw [(show RWM g0 (eA g0 233 3).toInt (2 + 8 * x6955.toInt + 5) = v6991.toInt from by (show (eA g0 233 (110 + 900 * (eA g0 233 3).toInt + (2 + 8 * x6955.toInt + 5))).toInt = _); rw [hv5283, show 110 + 900 * v5283.toInt + (2 + 8 * x6955.toInt + 5) = (900 * v5283.toInt + 8 * x6955.toInt + 117) from by omega, hv6991]), (show RWM g0 (eA g0 233 3).toInt (2 + 8 * x6955.toInt + 6) = v6993.toInt from by (show (eA g0 233 (110 + 900 * (eA g0 233 3).toInt + (2 + 8 * x6955.toInt + 6))).toInt = _); rw [hv5283, show 110 + 900 * v5283.toInt + (2 + 8 * x6955.toInt + 6) = (900 * v5283.toInt + 8 * x6955.toInt + 118) from by omega, hv6993])]; omega) (WRN_e hr7029 (show RWM g0 (eA g0 233 3).toInt (2 + 8 * x6955.toInt + 5) = v6991.toInt from by (show (eA g0 233 (110 + 900 * (eA g0 233 3).toInt + (2 + 8 * x6955.toInt + 5))).toInt = _); rw [hv5283, show 110 + 900 * v5283.toInt + (2 + 8 * x6955.toInt + 5) = (900 * v5283.toInt + 8 * x6955.toInt + 117) from by omega, hv6991]) (show RWM g0 (eA g0 233 3).toInt (2 + 8 * x6955.toInt + 6) = v6993.toInt from by (show (eA g0 233 (110 + 900 * (eA g0 233 3).toInt + (2 + 8 * x6955.toInt + 6))).toInt = _); rw [hv5283, show 110 + 900 * v5283.toInt + (2 + 8 * x6955.toInt + 6) = (900 * v5283.toInt + 8 * x6955.toInt + 118) from by omega, hv6993])) q6974.1 rfl (Or.inl (by rw [hv7031]; omega)) L)), (by rw [show RWM g0 (eA g0 233 3).toInt 1 = v6980.toInt from by (show (eA g0 233 (110 + 900 * (eA g0 233 3).toInt + 1)).toInt = _); rw [hv5283, show 110 + 900 * v5283.toInt + 1 = (900 * v5283.toInt + 111) from by omega, hv6980]]; omega)⟩ ⟨by omega, by omega⟩
              · have c7032_ : v7031.toInt = 0 := en_k_ne_f c7032
                refine At.enter rfl ?_
                refine r_aload_n rfl ?_
                obtain ⟨v7034, hv7034⟩ : ∃ v, gJ g7025 231 31 = v := ⟨_, rfl⟩
                refine q_getJv (Sh.long hI7026.1 kx_231 rfl) v7034 hv7034 ?_
                refine r_lconst 0 rfl ?_
                refine r_lcmp _ rfl ?_
                refine r_ifs 57 rfl (fun c7035 => ?_) (fun c7035 => ?_)
                · have c7035_ : v7034.toInt ≠ 0 := en_j_ne_t c7035
                  refine At.enter rfl ?_
                  refine r_aload_n rfl ?_
                  refine q_getR (Sh.ref hI7026.1 kx_231 rfl) ?_
                  refine r_iload_n rfl ?_
                  refine q_iald (Sh.arr hI7026.1 ka_233) (900 * v5283.toInt + 8 * x6955.toInt + 112) (by omega) (by omega) v6987 ((eA_c ((hF7027.2.1 233 ma_X11_reckonAll_231_233).trans (hF6958.2.1 233 (by decide)))).trans hv6987) ?_
                  refine r_iconst 2 rfl ?_
                  refine r_ics 69 rfl (fun c7036 => ?_) (fun c7036 => ?_)
                  · have c7036_ : v6987.toInt ≥ 2 := en_i_ge_t c7036
                    refine At.enter rfl ?_
                    refine r_iconst 1 rfl ?_
                    refine q_iretz (by decide) ?_
                    refine At.enter rfl ?_
                    refine r_iff 209 rfl (by decide) ?_
                    refine At.enter rfl ?_
                    refine r_iload_n (w_p1 (by decide) (Or.inr rfl) e6964) ?_
                    refine r_iconst 2 rfl ?_
                    refine r_ics 214 rfl (fun c7037 => ?_) (fun c7037 => ?_)
                    · have c7037_ : a1.toInt ≥ 2 := en_i_ge_t c7037
                      refine At.enter rfl ?_
                      refine r_lconst 1 rfl ?_
                      refine Ar.fall 222 rfl ?_
                      refine At.enter rfl ?_
                      refine r_lstore _ rfl ?_
                      refine Ar.fall 224 rfl ?_
                      refine At.enter rfl ?_
                      refine q_iinc (w_p2 (by decide) (by decide) (Or.inr rfl) (w_p1 (by decide) (Or.inr rfl) e6972)) (x6955.toInt + 1) rfl (by omega) (fun v7038 hv7038 => ?_)
                      refine r_goto ?_
                      have zv7039 : (1 : Int64).toInt = 1 := rfl
                      exact ih6961 (12 - v7038.toInt) _ _ ⟨1, v7038, by first | rfl | omega, hI7026, hF7030, ((hF7027.1 231 27 mf_X11_reckonAll_231_231_27).trans e6962), (w_p1 (by decide) (Or.inr rfl) (w_p2 (by decide) (by decide) (Or.inr rfl) (w_p1 (by decide) (Or.inr rfl) e6963))), (w_p1 (by decide) (Or.inr rfl) (w_p2 (by decide) (by decide) (Or.inr rfl) (w_p1 (by decide) (Or.inr rfl) e6964))), (w_p1 (by decide) (Or.inr rfl) (w_p2 (by decide) (by decide) (Or.inr rfl) (w_p1 (by decide) (Or.inr rfl) e6965))), (w_p1 (by decide) (Or.inr rfl) (w_p2 (by decide) (by decide) (Or.inr rfl) (w_p1 (by decide) (Or.inr rfl) e6966))), (w_p1 (by decide) (Or.inr rfl) (w_p2 (by decide) (by decide) (Or.inr rfl) (w_p1 (by decide) (Or.inr rfl) e6967))), (w_p1 (by decide) (Or.inr rfl) (w_p2 (by decide) (by decide) (Or.inr rfl) (w_p1 (by decide) (Or.inr rfl) e6968))), (w_p1 (by decide) (Or.inl (by decide)) (w_p2 (by decide) (by decide) (Or.inl (by decide)) (w_p1 (by decide) (Or.inl (by decide)) e6969))), (w_p1 (by decide) (Or.inr rfl) (w_p2 (by decide) (by decide) (Or.inr rfl) (w_p1 (by decide) (Or.inr rfl) e6970))), (w_p1 (by decide) (Or.inl (by decide)) (w_e2 _ _ _)), (w_e1 _ _ _), by omega, (TMI_some (MCX_c q6974.1 hr7029.1 (hF7027.2.1 233 ma_X11_reckonAll_231_233) (hF7027.1 231 27 mf_X11_reckonAll_231_231_27)) (by omega) (by omega) (show x6955.toInt < RWM g0 (eA g0 233 3).toInt 1 from by rw [show RWM g0 (eA g0 233 3).toInt 1 = v6980.toInt from by (show (eA g0 233 (110 + 900 * (eA g0 233 3).toInt + 1)).toInt = _); rw [hv5283, show 110 + 900 * v5283.toInt + 1 = (900 * v5283.toInt + 111) from by omega, hv6980]]; omega) (fun h1 => absurd h1 (by omega)) (fun h1 => absurd h1 (by omega))), (by rw [show RWM g0 (eA g0 233 3).toInt 1 = v6980.toInt from by (show (eA g0 233 (110 + 900 * (eA g0 233 3).toInt + 1)).toInt = _); rw [hv5283, show 110 + 900 * v5283.toInt + 1 = (900 * v5283.toInt + 111) from by omega, hv6980]]; omega)⟩ ⟨by omega, by omega⟩
                    · have c7037_ : a1.toInt < 2 := en_i_ge_f c7037
                      refine At.enter rfl ?_
                      refine r_aload_n (w_p1 (by decide) (Or.inr rfl) e6963) ?_
                      obtain ⟨v7040, hv7040⟩ : ∃ v, gJ g6956 231 32 = v := ⟨_, rfl⟩
                      refine q_getJv (Sh.long hI7026.1 kx_231 rfl) v7040 ((hF7027.2.2 231 32 mf_X11_reckonAll_231_231_32).trans hv7040) ?_
                      refine r_goto ?_
                      refine At.enter rfl ?_
                      refine r_lstore _ rfl ?_
                      refine Ar.fall 224 rfl ?_
                      refine At.enter rfl ?_
                      refine q_iinc (w_p2 (by decide) (by decide) (Or.inr rfl) (w_p1 (by decide) (Or.inr rfl) e6972)) (x6955.toInt + 1) rfl (by omega) (fun v7041 hv7041 => ?_)
                      refine r_goto ?_
                      exact ih6961 (12 - v7041.toInt) _ _ ⟨v7040, v7041, by first | rfl | omega, hI7026, hF7030, ((hF7027.1 231 27 mf_X11_reckonAll_231_231_27).trans e6962), (w_p1 (by decide) (Or.inr rfl) (w_p2 (by decide) (by decide) (Or.inr rfl) (w_p1 (by decide) (Or.inr rfl) e6963))), (w_p1 (by decide) (Or.inr rfl) (w_p2 (by decide) (by decide) (Or.inr rfl) (w_p1 (by decide) (Or.inr rfl) e6964))), (w_p1 (by decide) (Or.inr rfl) (w_p2 (by decide) (by decide) (Or.inr rfl) (w_p1 (by decide) (Or.inr rfl) e6965))), (w_p1 (by decide) (Or.inr rfl) (w_p2 (by decide) (by decide) (Or.inr rfl) (w_p1 (by decide) (Or.inr rfl) e6966))), (w_p1 (by decide) (Or.inr rfl) (w_p2 (by decide) (by decide) (Or.inr rfl) (w_p1 (by decide) (Or.inr rfl) e6967))), (w_p1 (by decide) (Or.inr rfl) (w_p2 (by decide) (by decide) (Or.inr rfl) (w_p1 (by decide) (Or.inr rfl) e6968))), (w_p1 (by decide) (Or.inl (by decide)) (w_p2 (by decide) (by decide) (Or.inl (by decide)) (w_p1 (by decide) (Or.inl (by decide)) e6969))), (w_p1 (by decide) (Or.inr rfl) (w_p2 (by decide) (by decide) (Or.inr rfl) (w_p1 (by decide) (Or.inr rfl) e6970))), (w_p1 (by decide) (Or.inl (by decide)) (w_e2 _ _ _)), (w_e1 _ _ _), by omega, (TMI_some (MCX_c q6974.1 hr7029.1 (hF7027.2.1 233 ma_X11_reckonAll_231_233) (hF7027.1 231 27 mf_X11_reckonAll_231_231_27)) (by omega) (by omega) (show x6955.toInt < RWM g0 (eA g0 233 3).toInt 1 from by rw [show RWM g0 (eA g0 233 3).toInt 1 = v6980.toInt from by (show (eA g0 233 (110 + 900 * (eA g0 233 3).toInt + 1)).toInt = _); rw [hv5283, show 110 + 900 * v5283.toInt + 1 = (900 * v5283.toInt + 111) from by omega, hv6980]]; omega) (fun h1 => absurd h1 (by omega)) (fun h1 => absurd h1 (by omega))), (by rw [show RWM g0 (eA g0 233 3).toInt 1 = v6980.toInt from by (show (eA g0 233 (110 + 900 * (eA g0 233 3).toInt + 1)).toInt = _); rw [hv5283, show 110 + 900 * v5283.toInt + 1 = (900 * v5283.toInt + 111) from by omega, hv6980]]; omega)⟩ ⟨by omega, by omega⟩
                  · have c7036_ : v6987.toInt < 2 := en_i_ge_f c7036
                    refine At.enter rfl ?_
                    refine r_aload_n rfl ?_
                    refine r_aload_n rfl ?_
                    refine q_getR (Sh.ref hI7026.1 kx_231 rfl) ?_
                    refine r_iload_n rfl ?_
                    refine r_iconst 3 rfl ?_
                    refine q_iadd (v6986.toInt + 3) rfl (by omega) (fun v7042 hv7042 => ?_)
                    obtain ⟨v7043, hv7043⟩ : ∃ v, eA g0 233 (900 * v5283.toInt + 8 * x6955.toInt + 115) = v := ⟨_, rfl⟩
                    refine q_iald (Sh.arr hI7026.1 ka_233) (900 * v5283.toInt + 8 * x6955.toInt + 115) (by omega) (by omega) v7043 ((eA_c ((hF7027.2.1 233 ma_X11_reckonAll_231_233).trans (hF6958.2.1 233 (by decide)))).trans hv7043) ?_
                    refine r_aload_n rfl ?_
                    refine q_getR (Sh.ref hI7026.1 kx_231 rfl) ?_
                    refine r_iload_n rfl ?_
                    refine r_iconst 4 rfl ?_
                    refine q_iadd (v6986.toInt + 4) rfl (by omega) (fun v7044 hv7044 => ?_)
                    obtain ⟨v7045, hv7045⟩ : ∃ v, eA g0 233 (900 * v5283.toInt + 8 * x6955.toInt + 116) = v := ⟨_, rfl⟩
                    refine q_iald (Sh.arr hI7026.1 ka_233) (900 * v5283.toInt + 8 * x6955.toInt + 116) (by omega) (by omega) v7045 ((eA_c ((hF7027.2.1 233 ma_X11_reckonAll_231_233).trans (hF6958.2.1 233 (by decide)))).trans hv7045) ?_
                    refine r_callV 89 rfl [.ref 231, .int v7043, .int v7045] [] (Nat.le_of_ble_eq_true rfl) rfl (T_X11_reckonAll_231 _ hI7026 v7043 v7045 (HI.code hI0 (j := v5283.toInt) (c := x6955.toInt) ⟨by omega, by omega⟩ ((hF7027.2.1 233 ma_X11_reckonAll_231_233).trans (hF6958.2.1 233 (by decide))) (by rw [((hF7027.1 231 27 mf_X11_reckonAll_231_231_27).trans e6962)]; omega) (i := (900 * v5283.toInt + 111)) (by omega) (congrArg Int32.toInt hv6980) ⟨by omega, by omega⟩ (i3 := (900 * v5283.toInt + 8 * x6955.toInt + 115)) (i4 := (900 * v5283.toInt + 8 * x6955.toInt + 116)) 3 (by decide) (by omega) (by omega) (congrArg Int32.toInt hv7043) (congrArg Int32.toInt hv7045))) ?_
                    rintro _ _ ⟨g7046, rfl, hI7047, hF7048, rfl, hr7050⟩
                    refine At.stn ?_
                    have hF7051 := Fr.tr hF7030 hF7048 rfl rfl
                    refine At.enter rfl ?_
                    refine r_aload_n rfl ?_
                    refine r_aload_n rfl ?_
                    obtain ⟨v7052, hv7052⟩ : ∃ v, gJ g7046 231 31 = v := ⟨_, rfl⟩
                    refine q_getJv (Sh.long hI7047.1 kx_231 rfl) v7052 hv7052 ?_
                    refine q_putJ (Sh.long hI7047.1 kx_231 rfl) rfl ?_
                    have hI7053 := HI.wJ hI7047 kx_231 rfl (p := 231) (b := 32) (v := v7052)
                    have hF7054 := Fr.wJ (p := 231) (b := 32) (v := v7052) hF7051 rfl
                    refine r_aload_n rfl ?_
                    obtain ⟨v7055, hv7055⟩ : ∃ v, gI g7046 231 30 = v := ⟨_, rfl⟩
                    refine q_getI (Sh.int hI7053.1 kx_231 rfl) v7055 ((gI_sJ_ne (by decide)).trans hv7055) ?_
                    refine r_ifs 104 rfl (fun c7056 => ?_) (fun c7056 => ?_)
                    · have c7056_ : v7055.toInt ≠ 0 := en_k_ne_t c7056
                      refine At.enter rfl ?_
                      refine r_iconst 0 rfl ?_
                      refine Ar.fall 109 rfl ?_
                      refine At.enter rfl ?_
                      refine q_iretz (by decide) ?_
                      refine At.enter rfl ?_
                      refine r_ift (by decide) ?_
                      refine At.enter rfl ?_
                      refine q_iinc (w_p1 (by decide) (Or.inr rfl) e6972) (x6955.toInt + 1) rfl (by omega) (fun v7057 hv7057 => ?_)
                      refine r_goto ?_
                      exact ih6961 (12 - v7057.toInt) _ _ ⟨x6954, v7057, by first | rfl | omega, hI7053, hF7054, (((gI_sJ_ne (by decide)).trans ((hF7048.1 231 27 mf_X11_reckonAll_231_231_27).trans (hF7027.1 231 27 mf_X11_reckonAll_231_231_27))).trans e6962), (w_p1 (by decide) (Or.inr rfl) (w_p1 (by decide) (Or.inr rfl) e6963)), (w_p1 (by decide) (Or.inr rfl) (w_p1 (by decide) (Or.inr rfl) e6964)), (w_p1 (by decide) (Or.inr rfl) (w_p1 (by decide) (Or.inr rfl) e6965)), (w_p1 (by decide) (Or.inr rfl) (w_p1 (by decide) (Or.inr rfl) e6966)), (w_p1 (by decide) (Or.inr rfl) (w_p1 (by decide) (Or.inr rfl) e6967)), (w_p1 (by decide) (Or.inr rfl) (w_p1 (by decide) (Or.inr rfl) e6968)), (w_p1 (by decide) (Or.inl (by decide)) (w_p1 (by decide) (Or.inl (by decide)) e6969)), (w_p1 (by decide) (Or.inr rfl) (w_p1 (by decide) (Or.inr rfl) e6970)), (w_p1 (by decide) (Or.inl (by decide)) (w_p1 (by decide) (Or.inl (by decide)) e6971)), (w_e1 _ _ _), by omega, (TMI_none q6974 (MCX_c (MCX_c (MCX_c q6974.1 hr7029.1 (hF7027.2.1 233 ma_X11_reckonAll_231_233) (hF7027.1 231 27 mf_X11_reckonAll_231_231_27)) hr7050.1 (hF7048.2.1 233 ma_X11_reckonAll_231_233) (hF7048.1 231 27 mf_X11_reckonAll_231_231_27)) gK_sJ gA_sJ (gI_sJ_ne (by decide))) (by omega) (by omega) (show x6955.toInt < RWM g0 (eA g0 233 3).toInt 1 from by rw [show RWM g0 (eA g0 233 3).toInt 1 = v6980.toInt from by (show (eA g0 233 (110 + 900 * (eA g0 233 3).toInt + 1)).toInt = _); rw [hv5283, show 110 + 900 * v5283.toInt + 1 = (900 * v5283.toInt + 111) from by omega, hv6980]]; omega) (fun h1 L => (CMW_yes (by rw [(show RWM g0 (eA g0 233 3).toInt (2 + 8 * x6955.toInt + 5) = v6991.toInt from by (show (eA g0 233 (110 + 900 * (eA g0 233 3).toInt + (2 + 8 * x6955.toInt + 5))).toInt = _); rw [hv5283, show 110 + 900 * v5283.toInt + (2 + 8 * x6955.toInt + 5) = (900 * v5283.toInt + 8 * x6955.toInt + 117) from by omega, hv6991]), (show RWM g0 (eA g0 233 3).toInt (2 + 8 * x6955.toInt + 6) = v6993.toInt from by (show (eA g0 233 (110 + 900 * (eA g0 233 3).toInt + (2 + 8 * x6955.toInt + 6))).toInt = _); rw [hv5283, show 110 + 900 * v5283.toInt + (2 + 8 * x6955.toInt + 6) = (900 * v5283.toInt + 8 * x6955.toInt + 118) from by omega, hv6993])]; omega) (WRN_e hr7029 (show RWM g0 (eA g0 233 3).toInt (2 + 8 * x6955.toInt + 5) = v6991.toInt from by (show (eA g0 233 (110 + 900 * (eA g0 233 3).toInt + (2 + 8 * x6955.toInt + 5))).toInt = _); rw [hv5283, show 110 + 900 * v5283.toInt + (2 + 8 * x6955.toInt + 5) = (900 * v5283.toInt + 8 * x6955.toInt + 117) from by omega, hv6991]) (show RWM g0 (eA g0 233 3).toInt (2 + 8 * x6955.toInt + 6) = v6993.toInt from by (show (eA g0 233 (110 + 900 * (eA g0 233 3).toInt + (2 + 8 * x6955.toInt + 6))).toInt = _); rw [hv5283, show 110 + 900 * v5283.toInt + (2 + 8 * x6955.toInt + 6) = (900 * v5283.toInt + 8 * x6955.toInt + 118) from by omega, hv6993])) q6974.1 (congrArg Int64.toInt hv7034) ((congrArg Int32.toInt hv7031).trans (by omega)) (by omega) L).trans (EVM_none (WRN_e hr7050 (show RWM g0 (eA g0 233 3).toInt (2 + 8 * x6955.toInt + 3) = v7043.toInt from by (show (eA g0 233 (110 + 900 * (eA g0 233 3).toInt + (2 + 8 * x6955.toInt + 3))).toInt = _); rw [hv5283, show 110 + 900 * v5283.toInt + (2 + 8 * x6955.toInt + 3) = (900 * v5283.toInt + 8 * x6955.toInt + 115) from by omega, hv7043]) (show RWM g0 (eA g0 233 3).toInt (2 + 8 * x6955.toInt + 4) = v7045.toInt from by (show (eA g0 233 (110 + 900 * (eA g0 233 3).toInt + (2 + 8 * x6955.toInt + 4))).toInt = _); rw [hv5283, show 110 + 900 * v5283.toInt + (2 + 8 * x6955.toInt + 4) = (900 * v5283.toInt + 8 * x6955.toInt + 116) from by omega, hv7045])) (MCX_c q6974.1 hr7029.1 (hF7027.2.1 233 ma_X11_reckonAll_231_233) (hF7027.1 231 27 mf_X11_reckonAll_231_231_27)) (by rw [hv7055]; omega) L.1))), (by rw [show RWM g0 (eA g0 233 3).toInt 1 = v6980.toInt from by (show (eA g0 233 (110 + 900 * (eA g0 233 3).toInt + 1)).toInt = _); rw [hv5283, show 110 + 900 * v5283.toInt + 1 = (900 * v5283.toInt + 111) from by omega, hv6980]]; omega)⟩ ⟨by omega, by omega⟩
                    · have c7056_ : v7055.toInt = 0 := en_k_ne_f c7056
                      refine At.enter rfl ?_
                      refine r_iconst 1 rfl ?_
                      refine r_goto ?_
                      refine At.enter rfl ?_
                      refine q_iretz (by decide) ?_
                      refine At.enter rfl ?_
                      refine r_iff 209 rfl (by decide) ?_
                      refine At.enter rfl ?_
                      refine r_iload_n (w_p1 (by decide) (Or.inr rfl) e6964) ?_
                      refine r_iconst 2 rfl ?_
                      refine r_ics 214 rfl (fun c7058 => ?_) (fun c7058 => ?_)
                      · have c7058_ : a1.toInt ≥ 2 := en_i_ge_t c7058
                        refine At.enter rfl ?_
                        refine r_lconst 1 rfl ?_
                        refine Ar.fall 222 rfl ?_
                        refine At.enter rfl ?_
                        refine r_lstore _ rfl ?_
                        refine Ar.fall 224 rfl ?_
                        refine At.enter rfl ?_
                        refine q_iinc (w_p2 (by decide) (by decide) (Or.inr rfl) (w_p1 (by decide) (Or.inr rfl) e6972)) (x6955.toInt + 1) rfl (by omega) (fun v7059 hv7059 => ?_)
                        refine r_goto ?_
                        have zv7060 : (1 : Int64).toInt = 1 := rfl
                        exact ih6961 (12 - v7059.toInt) _ _ ⟨1, v7059, by first | rfl | omega, hI7053, hF7054, (((gI_sJ_ne (by decide)).trans ((hF7048.1 231 27 mf_X11_reckonAll_231_231_27).trans (hF7027.1 231 27 mf_X11_reckonAll_231_231_27))).trans e6962), (w_p1 (by decide) (Or.inr rfl) (w_p2 (by decide) (by decide) (Or.inr rfl) (w_p1 (by decide) (Or.inr rfl) e6963))), (w_p1 (by decide) (Or.inr rfl) (w_p2 (by decide) (by decide) (Or.inr rfl) (w_p1 (by decide) (Or.inr rfl) e6964))), (w_p1 (by decide) (Or.inr rfl) (w_p2 (by decide) (by decide) (Or.inr rfl) (w_p1 (by decide) (Or.inr rfl) e6965))), (w_p1 (by decide) (Or.inr rfl) (w_p2 (by decide) (by decide) (Or.inr rfl) (w_p1 (by decide) (Or.inr rfl) e6966))), (w_p1 (by decide) (Or.inr rfl) (w_p2 (by decide) (by decide) (Or.inr rfl) (w_p1 (by decide) (Or.inr rfl) e6967))), (w_p1 (by decide) (Or.inr rfl) (w_p2 (by decide) (by decide) (Or.inr rfl) (w_p1 (by decide) (Or.inr rfl) e6968))), (w_p1 (by decide) (Or.inl (by decide)) (w_p2 (by decide) (by decide) (Or.inl (by decide)) (w_p1 (by decide) (Or.inl (by decide)) e6969))), (w_p1 (by decide) (Or.inr rfl) (w_p2 (by decide) (by decide) (Or.inr rfl) (w_p1 (by decide) (Or.inr rfl) e6970))), (w_p1 (by decide) (Or.inl (by decide)) (w_e2 _ _ _)), (w_e1 _ _ _), by omega, (by first | exact TMI_some (MCX_c (MCX_c (MCX_c q6974.1 hr7029.1 (hF7027.2.1 233 ma_X11_reckonAll_231_233) (hF7027.1 231 27 mf_X11_reckonAll_231_231_27)) hr7050.1 (hF7048.2.1 233 ma_X11_reckonAll_231_233) (hF7048.1 231 27 mf_X11_reckonAll_231_231_27)) gK_sJ gA_sJ (gI_sJ_ne (by decide))) (by omega) (by omega) (show x6955.toInt < RWM g0 (eA g0 233 3).toInt 1 from by rw [show RWM g0 (eA g0 233 3).toInt 1 = v6980.toInt from by (show (eA g0 233 (110 + 900 * (eA g0 233 3).toInt + 1)).toInt = _); rw [hv5283, show 110 + 900 * v5283.toInt + 1 = (900 * v5283.toInt + 111) from by omega, hv6980]]; omega) (fun h1 => by rw [(show RWM g0 (eA g0 233 3).toInt (2 + 8 * x6955.toInt) = v6987.toInt from by (show (eA g0 233 (110 + 900 * (eA g0 233 3).toInt + (2 + 8 * x6955.toInt))).toInt = _); rw [hv5283, show 110 + 900 * v5283.toInt + (2 + 8 * x6955.toInt) = (900 * v5283.toInt + 8 * x6955.toInt + 112) from by omega, hv6987])]; omega) (fun h1 L => (CMW_yes (by rw [(show RWM g0 (eA g0 233 3).toInt (2 + 8 * x6955.toInt + 5) = v6991.toInt from by (show (eA g0 233 (110 + 900 * (eA g0 233 3).toInt + (2 + 8 * x6955.toInt + 5))).toInt = _); rw [hv5283, show 110 + 900 * v5283.toInt + (2 + 8 * x6955.toInt + 5) = (900 * v5283.toInt + 8 * x6955.toInt + 117) from by omega, hv6991]), (show RWM g0 (eA g0 233 3).toInt (2 + 8 * x6955.toInt + 6) = v6993.toInt from by (show (eA g0 233 (110 + 900 * (eA g0 233 3).toInt + (2 + 8 * x6955.toInt + 6))).toInt = _); rw [hv5283, show 110 + 900 * v5283.toInt + (2 + 8 * x6955.toInt + 6) = (900 * v5283.toInt + 8 * x6955.toInt + 118) from by omega, hv6993])]; omega) (WRN_e hr7029 (show RWM g0 (eA g0 233 3).toInt (2 + 8 * x6955.toInt + 5) = v6991.toInt from by (show (eA g0 233 (110 + 900 * (eA g0 233 3).toInt + (2 + 8 * x6955.toInt + 5))).toInt = _); rw [hv5283, show 110 + 900 * v5283.toInt + (2 + 8 * x6955.toInt + 5) = (900 * v5283.toInt + 8 * x6955.toInt + 117) from by omega, hv6991]) (show RWM g0 (eA g0 233 3).toInt (2 + 8 * x6955.toInt + 6) = v6993.toInt from by (show (eA g0 233 (110 + 900 * (eA g0 233 3).toInt + (2 + 8 * x6955.toInt + 6))).toInt = _); rw [hv5283, show 110 + 900 * v5283.toInt + (2 + 8 * x6955.toInt + 6) = (900 * v5283.toInt + 8 * x6955.toInt + 118) from by omega, hv6993])) q6974.1 (congrArg Int64.toInt hv7034) ((congrArg Int32.toInt hv7031).trans (by omega)) (by omega) L).trans (EVM_some (WRN_e hr7050 (show RWM g0 (eA g0 233 3).toInt (2 + 8 * x6955.toInt + 3) = v7043.toInt from by (show (eA g0 233 (110 + 900 * (eA g0 233 3).toInt + (2 + 8 * x6955.toInt + 3))).toInt = _); rw [hv5283, show 110 + 900 * v5283.toInt + (2 + 8 * x6955.toInt + 3) = (900 * v5283.toInt + 8 * x6955.toInt + 115) from by omega, hv7043]) (show RWM g0 (eA g0 233 3).toInt (2 + 8 * x6955.toInt + 4) = v7045.toInt from by (show (eA g0 233 (110 + 900 * (eA g0 233 3).toInt + (2 + 8 * x6955.toInt + 4))).toInt = _); rw [hv5283, show 110 + 900 * v5283.toInt + (2 + 8 * x6955.toInt + 4) = (900 * v5283.toInt + 8 * x6955.toInt + 116) from by omega, hv7045])) (MCX_c q6974.1 hr7029.1 (hF7027.2.1 233 ma_X11_reckonAll_231_233) (hF7027.1 231 27 mf_X11_reckonAll_231_231_27)) ((congrArg Int32.toInt hv7055).trans (by omega)) (congrArg Int64.toInt hv7052) L.1)) | exact TMI_some (MCX_c (MCX_c (MCX_c q6974.1 hr7029.1 (hF7027.2.1 233 ma_X11_reckonAll_231_233) (hF7027.1 231 27 mf_X11_reckonAll_231_231_27)) hr7050.1 (hF7048.2.1 233 ma_X11_reckonAll_231_233) (hF7048.1 231 27 mf_X11_reckonAll_231_231_27)) gK_sJ gA_sJ (gI_sJ_ne (by decide))) (by omega) (by omega) (show x6955.toInt < RWM g0 (eA g0 233 3).toInt 1 from by rw [show RWM g0 (eA g0 233 3).toInt 1 = v6980.toInt from by (show (eA g0 233 (110 + 900 * (eA g0 233 3).toInt + 1)).toInt = _); rw [hv5283, show 110 + 900 * v5283.toInt + 1 = (900 * v5283.toInt + 111) from by omega, hv6980]]; omega) (fun h1 => absurd h1 (by omega)) (fun h1 => absurd h1 (by omega))), (by rw [show RWM g0 (eA g0 233 3).toInt 1 = v6980.toInt from by (show (eA g0 233 (110 + 900 * (eA g0 233 3).toInt + 1)).toInt = _); rw [hv5283, show 110 + 900 * v5283.toInt + 1 = (900 * v5283.toInt + 111) from by omega, hv6980]]; omega)⟩ ⟨by omega, by omega⟩
                      · have c7058_ : a1.toInt < 2 := en_i_ge_f c7058
                        refine At.enter rfl ?_
                        refine r_aload_n (w_p1 (by decide) (Or.inr rfl) e6963) ?_
                        refine q_getJv (Sh.long hI7053.1 kx_231 rfl) v7052 (gJ_sJ_eq hI7047.1 kx_231 rfl _) ?_
                        refine r_goto ?_
                        refine At.enter rfl ?_
                        refine r_lstore _ rfl ?_
                        refine Ar.fall 224 rfl ?_
                        refine At.enter rfl ?_
                        refine q_iinc (w_p2 (by decide) (by decide) (Or.inr rfl) (w_p1 (by decide) (Or.inr rfl) e6972)) (x6955.toInt + 1) rfl (by omega) (fun v7061 hv7061 => ?_)
                        refine r_goto ?_
                        exact ih6961 (12 - v7061.toInt) _ _ ⟨v7052, v7061, by first | rfl | omega, hI7053, hF7054, (((gI_sJ_ne (by decide)).trans ((hF7048.1 231 27 mf_X11_reckonAll_231_231_27).trans (hF7027.1 231 27 mf_X11_reckonAll_231_231_27))).trans e6962), (w_p1 (by decide) (Or.inr rfl) (w_p2 (by decide) (by decide) (Or.inr rfl) (w_p1 (by decide) (Or.inr rfl) e6963))), (w_p1 (by decide) (Or.inr rfl) (w_p2 (by decide) (by decide) (Or.inr rfl) (w_p1 (by decide) (Or.inr rfl) e6964))), (w_p1 (by decide) (Or.inr rfl) (w_p2 (by decide) (by decide) (Or.inr rfl) (w_p1 (by decide) (Or.inr rfl) e6965))), (w_p1 (by decide) (Or.inr rfl) (w_p2 (by decide) (by decide) (Or.inr rfl) (w_p1 (by decide) (Or.inr rfl) e6966))), (w_p1 (by decide) (Or.inr rfl) (w_p2 (by decide) (by decide) (Or.inr rfl) (w_p1 (by decide) (Or.inr rfl) e6967))), (w_p1 (by decide) (Or.inr rfl) (w_p2 (by decide) (by decide) (Or.inr rfl) (w_p1 (by decide) (Or.inr rfl) e6968))), (w_p1 (by decide) (Or.inl (by decide)) (w_p2 (by decide) (by decide) (Or.inl (by decide)) (w_p1 (by decide) (Or.inl (by decide)) e6969))), (w_p1 (by decide) (Or.inr rfl) (w_p2 (by decide) (by decide) (Or.inr rfl) (w_p1 (by decide) (Or.inr rfl) e6970))), (w_p1 (by decide) (Or.inl (by decide)) (w_e2 _ _ _)), (w_e1 _ _ _), by omega, (by first | exact TMI_some (MCX_c (MCX_c (MCX_c q6974.1 hr7029.1 (hF7027.2.1 233 ma_X11_reckonAll_231_233) (hF7027.1 231 27 mf_X11_reckonAll_231_231_27)) hr7050.1 (hF7048.2.1 233 ma_X11_reckonAll_231_233) (hF7048.1 231 27 mf_X11_reckonAll_231_231_27)) gK_sJ gA_sJ (gI_sJ_ne (by decide))) (by omega) (by omega) (show x6955.toInt < RWM g0 (eA g0 233 3).toInt 1 from by rw [show RWM g0 (eA g0 233 3).toInt 1 = v6980.toInt from by (show (eA g0 233 (110 + 900 * (eA g0 233 3).toInt + 1)).toInt = _); rw [hv5283, show 110 + 900 * v5283.toInt + 1 = (900 * v5283.toInt + 111) from by omega, hv6980]]; omega) (fun h1 => by rw [(show RWM g0 (eA g0 233 3).toInt (2 + 8 * x6955.toInt) = v6987.toInt from by (show (eA g0 233 (110 + 900 * (eA g0 233 3).toInt + (2 + 8 * x6955.toInt))).toInt = _); rw [hv5283, show 110 + 900 * v5283.toInt + (2 + 8 * x6955.toInt) = (900 * v5283.toInt + 8 * x6955.toInt + 112) from by omega, hv6987])]; omega) (fun h1 L => (CMW_yes (by rw [(show RWM g0 (eA g0 233 3).toInt (2 + 8 * x6955.toInt + 5) = v6991.toInt from by (show (eA g0 233 (110 + 900 * (eA g0 233 3).toInt + (2 + 8 * x6955.toInt + 5))).toInt = _); rw [hv5283, show 110 + 900 * v5283.toInt + (2 + 8 * x6955.toInt + 5) = (900 * v5283.toInt + 8 * x6955.toInt + 117) from by omega, hv6991]), (show RWM g0 (eA g0 233 3).toInt (2 + 8 * x6955.toInt + 6) = v6993.toInt from by (show (eA g0 233 (110 + 900 * (eA g0 233 3).toInt + (2 + 8 * x6955.toInt + 6))).toInt = _); rw [hv5283, show 110 + 900 * v5283.toInt + (2 + 8 * x6955.toInt + 6) = (900 * v5283.toInt + 8 * x6955.toInt + 118) from by omega, hv6993])]; omega) (WRN_e hr7029 (show RWM g0 (eA g0 233 3).toInt (2 + 8 * x6955.toInt + 5) = v6991.toInt from by (show (eA g0 233 (110 + 900 * (eA g0 233 3).toInt + (2 + 8 * x6955.toInt + 5))).toInt = _); rw [hv5283, show 110 + 900 * v5283.toInt + (2 + 8 * x6955.toInt + 5) = (900 * v5283.toInt + 8 * x6955.toInt + 117) from by omega, hv6991]) (show RWM g0 (eA g0 233 3).toInt (2 + 8 * x6955.toInt + 6) = v6993.toInt from by (show (eA g0 233 (110 + 900 * (eA g0 233 3).toInt + (2 + 8 * x6955.toInt + 6))).toInt = _); rw [hv5283, show 110 + 900 * v5283.toInt + (2 + 8 * x6955.toInt + 6) = (900 * v5283.toInt + 8 * x6955.toInt + 118) from by omega, hv6993])) q6974.1 (congrArg Int64.toInt hv7034) ((congrArg Int32.toInt hv7031).trans (by omega)) (by omega) L).trans (EVM_some (WRN_e hr7050 (show RWM g0 (eA g0 233 3).toInt (2 + 8 * x6955.toInt + 3) = v7043.toInt from by (show (eA g0 233 (110 + 900 * (eA g0 233 3).toInt + (2 + 8 * x6955.toInt + 3))).toInt = _); rw [hv5283, show 110 + 900 * v5283.toInt + (2 + 8 * x6955.toInt + 3) = (900 * v5283.toInt + 8 * x6955.toInt + 115) from by omega, hv7043]) (show RWM g0 (eA g0 233 3).toInt (2 + 8 * x6955.toInt + 4) = v7045.toInt from by (show (eA g0 233 (110 + 900 * (eA g0 233 3).toInt + (2 + 8 * x6955.toInt + 4))).toInt = _); rw [hv5283, show 110 + 900 * v5283.toInt + (2 + 8 * x6955.toInt + 4) = (900 * v5283.toInt + 8 * x6955.toInt + 116) from by omega, hv7045])) (MCX_c q6974.1 hr7029.1 (hF7027.2.1 233 ma_X11_reckonAll_231_233) (hF7027.1 231 27 mf_X11_reckonAll_231_231_27)) ((congrArg Int32.toInt hv7055).trans (by omega)) (congrArg Int64.toInt hv7052) L.1)) | exact TMI_some (MCX_c (MCX_c (MCX_c q6974.1 hr7029.1 (hF7027.2.1 233 ma_X11_reckonAll_231_233) (hF7027.1 231 27 mf_X11_reckonAll_231_231_27)) hr7050.1 (hF7048.2.1 233 ma_X11_reckonAll_231_233) (hF7048.1 231 27 mf_X11_reckonAll_231_231_27)) gK_sJ gA_sJ (gI_sJ_ne (by decide))) (by omega) (by omega) (show x6955.toInt < RWM g0 (eA g0 233 3).toInt 1 from by rw [show RWM g0 (eA g0 233 3).toInt 1 = v6980.toInt from by (show (eA g0 233 (110 + 900 * (eA g0 233 3).toInt + 1)).toInt = _); rw [hv5283, show 110 + 900 * v5283.toInt + 1 = (900 * v5283.toInt + 111) from by omega, hv6980]]; omega) (fun h1 => absurd h1 (by omega)) (fun h1 => absurd h1 (by omega))), (by rw [show RWM g0 (eA g0 233 3).toInt 1 = v6980.toInt from by (show (eA g0 233 (110 + 900 * (eA g0 233 3).toInt + 1)).toInt = _); rw [hv5283, show 110 + 900 * v5283.toInt + 1 = (900 * v5283.toInt + 111) from by omega, hv6980]]; omega)⟩ ⟨by omega, by omega⟩
                · have c7035_ : v7034.toInt = 0 := en_j_ne_f c7035
                  refine At.enter rfl ?_
                  refine r_iconst 0 rfl ?_
                  refine q_iretz (by decide) ?_
                  refine At.enter rfl ?_
                  refine r_ift (by decide) ?_
                  refine At.enter rfl ?_
                  refine q_iinc (w_p1 (by decide) (Or.inr rfl) e6972) (x6955.toInt + 1) rfl (by omega) (fun v7062 hv7062 => ?_)
                  refine r_goto ?_
                  exact ih6961 (12 - v7062.toInt) _ _ ⟨x6954, v7062, by first | rfl | omega, hI7026, hF7030, ((hF7027.1 231 27 mf_X11_reckonAll_231_231_27).trans e6962), (w_p1 (by decide) (Or.inr rfl) (w_p1 (by decide) (Or.inr rfl) e6963)), (w_p1 (by decide) (Or.inr rfl) (w_p1 (by decide) (Or.inr rfl) e6964)), (w_p1 (by decide) (Or.inr rfl) (w_p1 (by decide) (Or.inr rfl) e6965)), (w_p1 (by decide) (Or.inr rfl) (w_p1 (by decide) (Or.inr rfl) e6966)), (w_p1 (by decide) (Or.inr rfl) (w_p1 (by decide) (Or.inr rfl) e6967)), (w_p1 (by decide) (Or.inr rfl) (w_p1 (by decide) (Or.inr rfl) e6968)), (w_p1 (by decide) (Or.inl (by decide)) (w_p1 (by decide) (Or.inl (by decide)) e6969)), (w_p1 (by decide) (Or.inr rfl) (w_p1 (by decide) (Or.inr rfl) e6970)), (w_p1 (by decide) (Or.inl (by decide)) (w_p1 (by decide) (Or.inl (by decide)) e6971)), (w_e1 _ _ _), by omega, (TMI_none q6974 (MCX_c q6974.1 hr7029.1 (hF7027.2.1 233 ma_X11_reckonAll_231_233) (hF7027.1 231 27 mf_X11_reckonAll_231_231_27)) (by omega) (by omega) (show x6955.toInt < RWM g0 (eA g0 233 3).toInt 1 from by rw [show RWM g0 (eA g0 233 3).toInt 1 = v6980.toInt from by (show (eA g0 233 (110 + 900 * (eA g0 233 3).toInt + 1)).toInt = _); rw [hv5283, show 110 + 900 * v5283.toInt + 1 = (900 * v5283.toInt + 111) from by omega, hv6980]]; omega) (fun h1 L => by first | exact CMW_no (by rw [(show RWM g0 (eA g0 233 3).toInt (2 + 8 * x6955.toInt + 5) = v6991.toInt from by (show (eA g0 233 (110 + 900 * (eA g0 233 3).toInt + (2 + 8 * x6955.toInt + 5))).toInt = _); rw [hv5283, show 110 + 900 * v5283.toInt + (2 + 8 * x6955.toInt + 5) = (900 * v5283.toInt + 8 * x6955.toInt + 117) from by omega, hv6991]), (show RWM g0 (eA g0 233 3).toInt (2 + 8 * x6955.toInt + 6) = v6993.toInt from by (show (eA g0 233 (110 + 900 * (eA g0 233 3).toInt + (2 + 8 * x6955.toInt + 6))).toInt = _); rw [hv5283, show 110 + 900 * v5283.toInt + (2 + 8 * x6955.toInt + 6) = (900 * v5283.toInt + 8 * x6955.toInt + 118) from by omega, hv6993])]; omega) (WRN_e hr7029 (show RWM g0 (eA g0 233 3).toInt (2 + 8 * x6955.toInt + 5) = v6991.toInt from by (show (eA g0 233 (110 + 900 * (eA g0 233 3).toInt + (2 + 8 * x6955.toInt + 5))).toInt = _); rw [hv5283, show 110 + 900 * v5283.toInt + (2 + 8 * x6955.toInt + 5) = (900 * v5283.toInt + 8 * x6955.toInt + 117) from by omega, hv6991]) (show RWM g0 (eA g0 233 3).toInt (2 + 8 * x6955.toInt + 6) = v6993.toInt from by (show (eA g0 233 (110 + 900 * (eA g0 233 3).toInt + (2 + 8 * x6955.toInt + 6))).toInt = _); rw [hv5283, show 110 + 900 * v5283.toInt + (2 + 8 * x6955.toInt + 6) = (900 * v5283.toInt + 8 * x6955.toInt + 118) from by omega, hv6993])) q6974.1 (congrArg Int64.toInt hv7034) (Or.inl (by rw [hv7031]; omega)) L | exact CMW_no (by rw [(show RWM g0 (eA g0 233 3).toInt (2 + 8 * x6955.toInt + 5) = v6991.toInt from by (show (eA g0 233 (110 + 900 * (eA g0 233 3).toInt + (2 + 8 * x6955.toInt + 5))).toInt = _); rw [hv5283, show 110 + 900 * v5283.toInt + (2 + 8 * x6955.toInt + 5) = (900 * v5283.toInt + 8 * x6955.toInt + 117) from by omega, hv6991]), (show RWM g0 (eA g0 233 3).toInt (2 + 8 * x6955.toInt + 6) = v6993.toInt from by (show (eA g0 233 (110 + 900 * (eA g0 233 3).toInt + (2 + 8 * x6955.toInt + 6))).toInt = _); rw [hv5283, show 110 + 900 * v5283.toInt + (2 + 8 * x6955.toInt + 6) = (900 * v5283.toInt + 8 * x6955.toInt + 118) from by omega, hv6993])]; omega) (WRN_e hr7029 (show RWM g0 (eA g0 233 3).toInt (2 + 8 * x6955.toInt + 5) = v6991.toInt from by (show (eA g0 233 (110 + 900 * (eA g0 233 3).toInt + (2 + 8 * x6955.toInt + 5))).toInt = _); rw [hv5283, show 110 + 900 * v5283.toInt + (2 + 8 * x6955.toInt + 5) = (900 * v5283.toInt + 8 * x6955.toInt + 117) from by omega, hv6991]) (show RWM g0 (eA g0 233 3).toInt (2 + 8 * x6955.toInt + 6) = v6993.toInt from by (show (eA g0 233 (110 + 900 * (eA g0 233 3).toInt + (2 + 8 * x6955.toInt + 6))).toInt = _); rw [hv5283, show 110 + 900 * v5283.toInt + (2 + 8 * x6955.toInt + 6) = (900 * v5283.toInt + 8 * x6955.toInt + 118) from by omega, hv6993])) q6974.1 (congrArg Int64.toInt hv7034) (Or.inr (by omega)) L)), (by rw [show RWM g0 (eA g0 233 3).toInt 1 = v6980.toInt from by (show (eA g0 233 (110 + 900 * (eA g0 233 3).toInt + 1)).toInt = _); rw [hv5283, show 110 + 900 * v5283.toInt + 1 = (900 * v5283.toInt + 111) from by omega, hv6980]]; omega)⟩ ⟨by omega, by omega⟩
      · have c6190_ : v5313.toInt ≤ v5316.toInt := en_j_gt_f c6190
        refine At.enter rfl ?_
        refine r_iconst 1 rfl ?_
        refine r_goto ?_
        refine At.enter rfl ?_
        refine q_iretz (by decide) ?_
        refine At.enter rfl ?_
        refine q_iretz (by decide) ?_
        refine At.enter rfl ?_
        refine r_iff 94 rfl (by decide) ?_
        refine At.enter rfl ?_
        refine r_iload rfl ?_
        refine q_i2l (fun v7063 hv7063 => ?_)
        refine r_goto ?_
        refine At.enter rfl ?_
        refine q_last (Sh.lar hI5311.1 ka_244) (5) rfl (by decide) ?_
        have hI7064 := HI.wK hI5311 ka_244 (5) (v7063) (by decide)
        have hF7065 := Fr.wK (p := 244) (j := 5) (v := v7063) hF5312
        refine r_aload_n rfl ?_
        refine q_getR (Sh.ref hI7064.1 kx_231 rfl) ?_
        refine r_bipush 6 rfl ?_
        refine r_iload rfl ?_
        refine q_i2l (fun v7066 hv7066 => ?_)
        refine q_last (Sh.lar hI7064.1 ka_244) (6) rfl (by decide) ?_
        have hI7067 := HI.wK hI7064 ka_244 (6) (v7066) (by decide)
        have hF7068 := Fr.wK (p := 244) (j := 6) (v := v7066) hF7065
        refine r_aload_n rfl ?_
        refine q_getR (Sh.ref hI7067.1 kx_231 rfl) ?_
        refine r_bipush 7 rfl ?_
        refine r_iload rfl ?_
        refine q_i2l (fun v7069 hv7069 => ?_)
        refine q_last (Sh.lar hI7067.1 ka_244) (7) rfl (by decide) ?_
        have hI7070 := HI.wK hI7067 ka_244 (7) (v7069) (by decide)
        have hF7071 := Fr.wK (p := 244) (j := 7) (v := v7069) hF7068
        refine r_aload_n rfl ?_
        refine q_getR (Sh.ref hI7070.1 kx_231 rfl) ?_
        refine r_bipush 8 rfl ?_
        refine r_aload_n rfl ?_
        refine q_getR (Sh.ref hI7070.1 kx_231 rfl) ?_
        refine r_iload_n rfl ?_
        obtain ⟨v7072, hv7072⟩ : ∃ v, eA g0 246 a3.toInt = v := ⟨_, rfl⟩
        refine q_iald (Sh.arr hI7070.1 ka_246) a3.toInt rfl (by omega) v7072 ((eA_c ((gA_sX).trans ((gA_sX).trans ((gA_sX).trans ((gA_sX).trans ((gA_sX).trans ((gA_sX).trans ((gA_sX).trans (gA_sI))))))))).trans hv7072) ?_
        refine q_i2l (fun v7073 hv7073 => ?_)
        refine q_last (Sh.lar hI7070.1 ka_244) (8) rfl (by decide) ?_
        have hI7074 := HI.wK hI7070 ka_244 (8) (v7073) (by decide)
        have hF7075 := Fr.wK (p := 244) (j := 8) (v := v7073) hF7071
        refine r_aload_n rfl ?_
        refine q_getR (Sh.ref hI7074.1 kx_231 rfl) ?_
        refine r_bipush 9 rfl ?_
        refine r_aload_n rfl ?_
        refine q_getR (Sh.ref hI7074.1 kx_231 rfl) ?_
        refine r_iload_n rfl ?_
        obtain ⟨v7076, hv7076⟩ : ∃ v, eA g0 247 a3.toInt = v := ⟨_, rfl⟩
        refine q_iald (Sh.arr hI7074.1 ka_247) a3.toInt rfl (by omega) v7076 ((eA_c ((gA_sX).trans ((gA_sX).trans ((gA_sX).trans ((gA_sX).trans ((gA_sX).trans ((gA_sX).trans ((gA_sX).trans ((gA_sX).trans (gA_sI)))))))))).trans hv7076) ?_
        refine q_i2l (fun v7077 hv7077 => ?_)
        refine q_last (Sh.lar hI7074.1 ka_244) (9) rfl (by decide) ?_
        have hI7078 := HI.wK hI7074 ka_244 (9) (v7077) (by decide)
        have hF7079 := Fr.wK (p := 244) (j := 9) (v := v7077) hF7075
        refine r_lload rfl ?_
        refine r_lstore ([(9, .long a6), (8, .int v5292), (0, .ref 231), (1, .int a1), (2, .int a2), (3, .int a3), (4, .int a4), (5, .int a5), (6, .long a6)]) rfl ?_
        refine r_iconst 0 rfl ?_
        refine r_istore ([(11, .int 0), (9, .long a6), (8, .int v5292), (0, .ref 231), (1, .int a1), (2, .int a2), (3, .int a3), (4, .int a4), (5, .int a5), (6, .long a6)]) rfl ?_
        refine Ar.fall 159 rfl ?_
        have z_7849 : (0 : Int32).toInt = 0 := rfl
        refine w_loopI (fun n_ l_ g_ => ∃ x7827 : Int64, ∃ x7828 : Int32, n_ = 12 - x7828.toInt ∧ HI g_ ∧ Fr F_X11_tells_231 A_X11_tells_231 g0 g_ ∧ gI g_ 231 27 = v5286 ∧ en_get 0 l_ = some (.ref 231) ∧ en_get 1 l_ = some (.int a1) ∧ en_get 2 l_ = some (.int a2) ∧ en_get 3 l_ = some (.int a3) ∧ en_get 4 l_ = some (.int a4) ∧ en_get 5 l_ = some (.int a5) ∧ en_get 6 l_ = some (.long a6) ∧ en_get 8 l_ = some (.int v5292) ∧ en_get 9 l_ = some (.long x7827) ∧ en_get 11 l_ = some (.int x7828) ∧ (0 ≤ x7828.toInt ∧ x7828.toInt ≤ 12) ∧ (TMI g_ (RWM g0 (eA g0 233 3).toInt) (WWM g0 a2.toInt a3.toInt a4.toInt a5.toInt) a1.toInt (RWM g0 (eA g0 233 3).toInt 1) x7828.toInt a6.toInt x7827.toInt) ∧ (x7828.toInt ≤ RWM g0 (eA g0 233 3).toInt 1)) ?_ (12 - 0) ⟨a6, 0, by first | rfl | omega, hI7078, hF7079, ((gI_sX).trans ((gI_sX).trans ((gI_sX).trans ((gI_sX).trans ((gI_sX).trans ((gI_sX).trans ((gI_sX).trans ((gI_sX).trans ((gI_sX).trans (gI_sI_eq hI0.1 kx_231 rfl _)))))))))), rfl, rfl, rfl, rfl, rfl, rfl, rfl, rfl, rfl, rfl, by decide, (TMI_z ⟨WRM_mk (show (eK _ 244 1).toInt = _ from (congrArg Int64.toInt ((eK_neT hI7074.1 ka_244 (by decide) (by decide) (by decide)).trans ((eK_neT hI7070.1 ka_244 (by decide) (by decide) (by decide)).trans ((eK_neT hI7067.1 ka_244 (by decide) (by decide) (by decide)).trans ((eK_neT hI7064.1 ka_244 (by decide) (by decide) (by decide)).trans ((eK_neT hI5311.1 ka_244 (by decide) (by decide) (by decide)).trans ((eK_neT hI5308.1 ka_244 (by decide) (by decide) (by decide)).trans ((eK_neT hI5301.1 ka_244 (by decide) (by decide) (by decide)).trans ((eK_neT hI5294.1 ka_244 (by decide) (by decide) (by decide)).trans (eK_eqT hI5287.1 ka_244 rfl (by decide) (by decide))))))))))).trans hv5293) (show (eK _ 244 2).toInt = _ from ((congrArg Int64.toInt ((eK_neT hI7074.1 ka_244 (by decide) (by decide) (by decide)).trans ((eK_neT hI7070.1 ka_244 (by decide) (by decide) (by decide)).trans ((eK_neT hI7067.1 ka_244 (by decide) (by decide) (by decide)).trans ((eK_neT hI7064.1 ka_244 (by decide) (by decide) (by decide)).trans ((eK_neT hI5311.1 ka_244 (by decide) (by decide) (by decide)).trans ((eK_neT hI5308.1 ka_244 (by decide) (by decide) (by decide)).trans ((eK_neT hI5301.1 ka_244 (by decide) (by decide) (by decide)).trans (eK_eqT hI5294.1 ka_244 rfl (by decide) (by decide)))))))))).trans hv5300).trans (show v5299.toInt = LDM g0 a2.toInt 0 from by unfold LDM; rw [show 46 + 6 * a2.toInt + 0 = (6 * a2.toInt + 46) from by omega, hv5299])) (show (eK _ 244 3).toInt = _ from ((congrArg Int64.toInt ((eK_neT hI7074.1 ka_244 (by decide) (by decide) (by decide)).trans ((eK_neT hI7070.1 ka_244 (by decide) (by decide) (by decide)).trans ((eK_neT hI7067.1 ka_244 (by decide) (by decide) (by decide)).trans ((eK_neT hI7064.1 ka_244 (by decide) (by decide) (by decide)).trans ((eK_neT hI5311.1 ka_244 (by decide) (by decide) (by decide)).trans ((eK_neT hI5308.1 ka_244 (by decide) (by decide) (by decide)).trans (eK_eqT hI5301.1 ka_244 rfl (by decide) (by decide))))))))).trans hv5307).trans (show v5306.toInt = LDM g0 a2.toInt 4 from by unfold LDM; rw [show 46 + 6 * a2.toInt + 4 = (6 * a2.toInt + 50) from by omega, hv5306])) (show (eK _ 244 4).toInt = _ from (congrArg Int64.toInt ((eK_neT hI7074.1 ka_244 (by decide) (by decide) (by decide)).trans ((eK_neT hI7070.1 ka_244 (by decide) (by decide) (by decide)).trans ((eK_neT hI7067.1 ka_244 (by decide) (by decide) (by decide)).trans ((eK_neT hI7064.1 ka_244 (by decide) (by decide) (by decide)).trans ((eK_neT hI5311.1 ka_244 (by decide) (by decide) (by decide)).trans (eK_eqT hI5308.1 ka_244 rfl (by decide) (by decide)))))))).trans hv5310) (show (eK _ 244 5).toInt = _ from ((congrArg Int64.toInt ((eK_neT hI7074.1 ka_244 (by decide) (by decide) (by decide)).trans ((eK_neT hI7070.1 ka_244 (by decide) (by decide) (by decide)).trans ((eK_neT hI7067.1 ka_244 (by decide) (by decide) (by decide)).trans ((eK_neT hI7064.1 ka_244 (by decide) (by decide) (by decide)).trans (eK_eqT hI5311.1 ka_244 rfl (by decide) (by decide))))))).trans hv7063).trans (show v5292.toInt = NMo g0 a3.toInt from by have x : (eA g0 233 (10 + 3 * a3.toInt)).toInt = v5292.toInt := (by rw [show 10 + 3 * a3.toInt = (3 * a3.toInt + 10) from by omega, hv5292]); have y : (eA g0 233 0).toInt = v5314.toInt := congrArg Int32.toInt hv5314; have z := NMo.yes (g := g0) (s := a3.toInt) (by omega); omega)) (show (eK _ 244 6).toInt = _ from (congrArg Int64.toInt ((eK_neT hI7074.1 ka_244 (by decide) (by decide) (by decide)).trans ((eK_neT hI7070.1 ka_244 (by decide) (by decide) (by decide)).trans ((eK_neT hI7067.1 ka_244 (by decide) (by decide) (by decide)).trans (eK_eqT hI7064.1 ka_244 rfl (by decide) (by decide)))))).trans hv7066) (show (eK _ 244 7).toInt = _ from (congrArg Int64.toInt ((eK_neT hI7074.1 ka_244 (by decide) (by decide) (by decide)).trans ((eK_neT hI7070.1 ka_244 (by decide) (by decide) (by decide)).trans (eK_eqT hI7067.1 ka_244 rfl (by decide) (by decide))))).trans hv7069) (show (eK _ 244 8).toInt = _ from ((congrArg Int64.toInt ((eK_neT hI7074.1 ka_244 (by decide) (by decide) (by decide)).trans (eK_eqT hI7070.1 ka_244 rfl (by decide) (by decide)))).trans hv7073).trans (congrArg Int32.toInt hv7072).symm) (show (eK _ 244 9).toInt = _ from ((congrArg Int64.toInt (eK_eqT hI7074.1 ka_244 rfl (by decide) (by decide))).trans hv7077).trans (congrArg Int32.toInt hv7076).symm), SMM_mk (show (eK _ 244 1).toInt = _ from (congrArg Int64.toInt ((eK_neT hI7074.1 ka_244 (by decide) (by decide) (by decide)).trans ((eK_neT hI7070.1 ka_244 (by decide) (by decide) (by decide)).trans ((eK_neT hI7067.1 ka_244 (by decide) (by decide) (by decide)).trans ((eK_neT hI7064.1 ka_244 (by decide) (by decide) (by decide)).trans ((eK_neT hI5311.1 ka_244 (by decide) (by decide) (by decide)).trans ((eK_neT hI5308.1 ka_244 (by decide) (by decide) (by decide)).trans ((eK_neT hI5301.1 ka_244 (by decide) (by decide) (by decide)).trans ((eK_neT hI5294.1 ka_244 (by decide) (by decide) (by decide)).trans (eK_eqT hI5287.1 ka_244 rfl (by decide) (by decide))))))))))).trans hv5293) (show (eK _ 244 2).toInt = _ from ((congrArg Int64.toInt ((eK_neT hI7074.1 ka_244 (by decide) (by decide) (by decide)).trans ((eK_neT hI7070.1 ka_244 (by decide) (by decide) (by decide)).trans ((eK_neT hI7067.1 ka_244 (by decide) (by decide) (by decide)).trans ((eK_neT hI7064.1 ka_244 (by decide) (by decide) (by decide)).trans ((eK_neT hI5311.1 ka_244 (by decide) (by decide) (by decide)).trans ((eK_neT hI5308.1 ka_244 (by decide) (by decide) (by decide)).trans ((eK_neT hI5301.1 ka_244 (by decide) (by decide) (by decide)).trans (eK_eqT hI5294.1 ka_244 rfl (by decide) (by decide)))))))))).trans hv5300).trans (show v5299.toInt = LDM g0 a2.toInt 0 from by unfold LDM; rw [show 46 + 6 * a2.toInt + 0 = (6 * a2.toInt + 46) from by omega, hv5299])) (show (eK _ 244 3).toInt = _ from ((congrArg Int64.toInt ((eK_neT hI7074.1 ka_244 (by decide) (by decide) (by decide)).trans ((eK_neT hI7070.1 ka_244 (by decide) (by decide) (by decide)).trans ((eK_neT hI7067.1 ka_244 (by decide) (by decide) (by decide)).trans ((eK_neT hI7064.1 ka_244 (by decide) (by decide) (by decide)).trans ((eK_neT hI5311.1 ka_244 (by decide) (by decide) (by decide)).trans ((eK_neT hI5308.1 ka_244 (by decide) (by decide) (by decide)).trans (eK_eqT hI5301.1 ka_244 rfl (by decide) (by decide))))))))).trans hv5307).trans (show v5306.toInt = LDM g0 a2.toInt 4 from by unfold LDM; rw [show 46 + 6 * a2.toInt + 4 = (6 * a2.toInt + 50) from by omega, hv5306])) (show (eK _ 244 4).toInt = _ from (congrArg Int64.toInt ((eK_neT hI7074.1 ka_244 (by decide) (by decide) (by decide)).trans ((eK_neT hI7070.1 ka_244 (by decide) (by decide) (by decide)).trans ((eK_neT hI7067.1 ka_244 (by decide) (by decide) (by decide)).trans ((eK_neT hI7064.1 ka_244 (by decide) (by decide) (by decide)).trans ((eK_neT hI5311.1 ka_244 (by decide) (by decide) (by decide)).trans (eK_eqT hI5308.1 ka_244 rfl (by decide) (by decide)))))))).trans hv5310) (show (eK _ 244 5).toInt = _ from ((congrArg Int64.toInt ((eK_neT hI7074.1 ka_244 (by decide) (by decide) (by decide)).trans ((eK_neT hI7070.1 ka_244 (by decide) (by decide) (by decide)).trans ((eK_neT hI7067.1 ka_244 (by decide) (by decide) (by decide)).trans ((eK_neT hI7064.1 ka_244 (by decide) (by decide) (by decide)).trans (eK_eqT hI5311.1 ka_244 rfl (by decide) (by decide))))))).trans hv7063).trans (show v5292.toInt = NMo g0 a3.toInt from by have x : (eA g0 233 (10 + 3 * a3.toInt)).toInt = v5292.toInt := (by rw [show 10 + 3 * a3.toInt = (3 * a3.toInt + 10) from by omega, hv5292]); have y : (eA g0 233 0).toInt = v5314.toInt := congrArg Int32.toInt hv5314; have z := NMo.yes (g := g0) (s := a3.toInt) (by omega); omega)) (show (eK _ 244 6).toInt = _ from (congrArg Int64.toInt ((eK_neT hI7074.1 ka_244 (by decide) (by decide) (by decide)).trans ((eK_neT hI7070.1 ka_244 (by decide) (by decide) (by decide)).trans ((eK_neT hI7067.1 ka_244 (by decide) (by decide) (by decide)).trans (eK_eqT hI7064.1 ka_244 rfl (by decide) (by decide)))))).trans hv7066) (show (eK _ 244 7).toInt = _ from (congrArg Int64.toInt ((eK_neT hI7074.1 ka_244 (by decide) (by decide) (by decide)).trans ((eK_neT hI7070.1 ka_244 (by decide) (by decide) (by decide)).trans (eK_eqT hI7067.1 ka_244 rfl (by decide) (by decide))))).trans hv7069) (show (eK _ 244 8).toInt = _ from ((congrArg Int64.toInt ((eK_neT hI7074.1 ka_244 (by decide) (by decide) (by decide)).trans (eK_eqT hI7070.1 ka_244 rfl (by decide) (by decide)))).trans hv7073).trans (congrArg Int32.toInt hv7072).symm) (show (eK _ 244 9).toInt = _ from ((congrArg Int64.toInt (eK_eqT hI7074.1 ka_244 rfl (by decide) (by decide))).trans hv7077).trans (congrArg Int32.toInt hv7076).symm) (by have b2 := q_bnd a2; have b3 := q_bnd a3; have b4 := q_bnd a4; have b5 := q_bnd a5; have c0 := q_bnd v5299; have c1 := q_bnd v5306; have c2 := q_bnd v7072; have c3 := q_bnd v7076; exact ⟨by omega, q_b32 _, q_b32 _, by omega, NMo_b _ _, by omega, by omega, q_b32 _, q_b32 _⟩), (OQM_e (show (gI _ 231 27).toInt = 110 + 900 * (eA g0 233 3).toInt from (congrArg Int32.toInt (((gI_sX).trans ((gI_sX).trans ((gI_sX).trans ((gI_sX).trans ((gI_sX).trans ((gI_sX).trans ((gI_sX).trans ((gI_sX).trans ((gI_sX).trans (gI_sI_eq hI0.1 kx_231 rfl _)))))))))))).trans (by have f := congrArg Int32.toInt hv5283; omega)) (((gA_sX).trans ((gA_sX).trans ((gA_sX).trans ((gA_sX).trans ((gA_sX).trans ((gA_sX).trans ((gA_sX).trans ((gA_sX).trans ((gA_sX).trans (gA_sI)))))))))))).1, (OQM_e (show (gI _ 231 27).toInt = 110 + 900 * (eA g0 233 3).toInt from (congrArg Int32.toInt (((gI_sX).trans ((gI_sX).trans ((gI_sX).trans ((gI_sX).trans ((gI_sX).trans ((gI_sX).trans ((gI_sX).trans ((gI_sX).trans ((gI_sX).trans (gI_sI_eq hI0.1 kx_231 rfl _)))))))))))).trans (by have f := congrArg Int32.toInt hv5283; omega)) (((gA_sX).trans ((gA_sX).trans ((gA_sX).trans ((gA_sX).trans ((gA_sX).trans ((gA_sX).trans ((gA_sX).trans ((gA_sX).trans ((gA_sX).trans (gA_sI)))))))))))).2⟩ rfl rfl), (show _ ≤ RWM g0 (eA g0 233 3).toInt 1 from by have w := HI.lawn hI0 (j := v5283.toInt) (i := 110 + 900 * (eA g0 233 3).toInt + 1) ⟨by omega, by omega⟩ (by rw [hv5283]); exact (show (0 : Int) ≤ (eA g0 233 (110 + 900 * (eA g0 233 3).toInt + 1)).toInt from by omega))⟩
        rintro n7833 l7832 g7829 ⟨x7827, x7828, hm7850, hI7830, hF7831, e7835, e7836, e7837, e7838, e7839, e7840, e7841, e7842, e7843, e7844, e7845, r7846, q7847, q7848⟩ ih7834
        have tv7851 := congrArg Int32.toInt e7835
        refine At.enter rfl ?_
        refine r_iload e7845 ?_
        refine r_aload_n e7836 ?_
        refine q_getR (Sh.ref hI7830.1 kx_231 rfl) ?_
        refine r_aload_n e7836 ?_
        refine q_getI (Sh.int hI7830.1 kx_231 rfl) v5286 e7835 ?_
        refine r_iconst 1 rfl ?_
        refine q_iadd (v5286.toInt + 1) rfl (by omega) (fun v7852 hv7852 => ?_)
        obtain ⟨v7853, hv7853⟩ : ∃ v, eA g0 233 (900 * v5283.toInt + 111) = v := ⟨_, rfl⟩
        have wv7853 := HI.lawn hI0 (j := v5283.toInt) (i := (900 * v5283.toInt + 111)) ⟨by omega, by omega⟩ (by omega)
        rw [hv7853] at wv7853
        refine q_iald (Sh.arr hI7830.1 ka_233) (900 * v5283.toInt + 111) (by omega) (by omega) v7853 ((eA_c (hF7831.2.1 233 (by decide))).trans hv7853) ?_
        have bv7855 := q_bnd x7828
        have bv7856 := q_bnd v7853
        refine r_ics 175 rfl (fun c7854 => ?_) (fun c7854 => ?_)
        · have c7854_ : x7828.toInt ≥ v7853.toInt := en_i_ge_t c7854
          refine At.enter rfl ?_
          refine r_lload e7844 ?_
          refine r_lret ?_
          exact ⟨_, rfl, hI7830, hF7831, _, rfl, trivial, (TMI_end q7847 (by rw [(show RWM g0 (eA g0 233 3).toInt 1 = v7853.toInt from by (show (eA g0 233 (110 + 900 * (eA g0 233 3).toInt + 1)).toInt = _); rw [hv5283, show 110 + 900 * v5283.toInt + 1 = (900 * v5283.toInt + 111) from by omega, hv7853])]; omega) q7848 (by have e := congrArg Int32.toInt hv5283; omega))⟩
        · have c7854_ : x7828.toInt < v7853.toInt := en_i_ge_f c7854
          refine At.enter rfl ?_
          refine r_aload_n e7836 ?_
          refine q_getI (Sh.int hI7830.1 kx_231 rfl) v5286 e7835 ?_
          refine r_iconst 2 rfl ?_
          refine q_iadd (v5286.toInt + 2) rfl (by omega) (fun v7857 hv7857 => ?_)
          refine r_bipush 8 rfl ?_
          refine r_iload e7845 ?_
          refine q_imul (8 * x7828.toInt) rfl (by omega) (fun v7858 hv7858 => ?_)
          refine q_iadd (v7857.toInt + v7858.toInt) rfl (by omega) (fun v7859 hv7859 => ?_)
          refine r_istore _ rfl ?_
          refine r_aload_n (w_p1 (by decide) (Or.inr rfl) e7836) ?_
          refine q_getR (Sh.ref hI7830.1 kx_231 rfl) ?_
          refine r_iload (w_e1 _ _ _) ?_
          obtain ⟨v7860, hv7860⟩ : ∃ v, eA g0 233 (900 * v5283.toInt + 8 * x7828.toInt + 112) = v := ⟨_, rfl⟩
          refine q_iald (Sh.arr hI7830.1 ka_233) (900 * v5283.toInt + 8 * x7828.toInt + 112) (by omega) (by omega) v7860 ((eA_c (hF7831.2.1 233 (by decide))).trans hv7860) ?_
          refine r_iload_n (w_p1 (by decide) (Or.inr rfl) e7837) ?_
          refine r_ics 200 rfl (fun c7861 => ?_) (fun c7861 => ?_)
          · have c7861_ : v7860.toInt ≠ a1.toInt := en_i_ne_t c7861
            refine At.enter rfl ?_
            refine q_iinc (w_p1 (by decide) (Or.inr rfl) e7845) (x7828.toInt + 1) rfl (by omega) (fun v7862 hv7862 => ?_)
            refine r_goto ?_
            exact ih7834 (12 - v7862.toInt) _ _ ⟨x7827, v7862, by first | rfl | omega, hI7830, hF7831, e7835, (w_p1 (by decide) (Or.inr rfl) (w_p1 (by decide) (Or.inr rfl) e7836)), (w_p1 (by decide) (Or.inr rfl) (w_p1 (by decide) (Or.inr rfl) e7837)), (w_p1 (by decide) (Or.inr rfl) (w_p1 (by decide) (Or.inr rfl) e7838)), (w_p1 (by decide) (Or.inr rfl) (w_p1 (by decide) (Or.inr rfl) e7839)), (w_p1 (by decide) (Or.inr rfl) (w_p1 (by decide) (Or.inr rfl) e7840)), (w_p1 (by decide) (Or.inr rfl) (w_p1 (by decide) (Or.inr rfl) e7841)), (w_p1 (by decide) (Or.inl (by decide)) (w_p1 (by decide) (Or.inl (by decide)) e7842)), (w_p1 (by decide) (Or.inr rfl) (w_p1 (by decide) (Or.inr rfl) e7843)), (w_p1 (by decide) (Or.inl (by decide)) (w_p1 (by decide) (Or.inl (by decide)) e7844)), (w_e1 _ _ _), by omega, (TMI_skip q7847 q7847.1 (by omega) (by omega) (fun h1 => by rw [(show RWM g0 (eA g0 233 3).toInt (2 + 8 * x7828.toInt) = v7860.toInt from by (show (eA g0 233 (110 + 900 * (eA g0 233 3).toInt + (2 + 8 * x7828.toInt))).toInt = _); rw [hv5283, show 110 + 900 * v5283.toInt + (2 + 8 * x7828.toInt) = (900 * v5283.toInt + 8 * x7828.toInt + 112) from by omega, hv7860])]; omega)), (by rw [show RWM g0 (eA g0 233 3).toInt 1 = v7853.toInt from by (show (eA g0 233 (110 + 900 * (eA g0 233 3).toInt + 1)).toInt = _); rw [hv5283, show 110 + 900 * v5283.toInt + 1 = (900 * v5283.toInt + 111) from by omega, hv7853]]; omega)⟩ ⟨by omega, by omega⟩
          · have c7861_ : v7860.toInt = a1.toInt := en_i_ne_f c7861
            refine At.enter rfl ?_
            refine r_aload_n (w_p1 (by decide) (Or.inr rfl) e7836) ?_
            refine r_iload (w_e1 _ _ _) ?_
            refine q_inlV 206 rfl [.ref 231, .int v7859] [] (Nat.le_of_ble_eq_true rfl) rfl ?_
            refine Ev.mk rfl rfl ⟨Nat.le_of_ble_eq_true rfl, Or.inr (q_rc hI7830.1 kx_231 rfl)⟩ ?_
            show At _ none _ _ (0, [(0, .ref 231), (1, .int v7859)], [], (_, _)) _
            refine At.enter rfl ?_
            refine r_aload_n rfl ?_
            refine q_getR (Sh.ref hI7830.1 kx_231 rfl) ?_
            refine r_iload_n rfl ?_
            refine r_iconst 5 rfl ?_
            refine q_iadd (v7859.toInt + 5) rfl (by omega) (fun v7863 hv7863 => ?_)
            obtain ⟨v7864, hv7864⟩ : ∃ v, eA g0 233 (900 * v5283.toInt + 8 * x7828.toInt + 117) = v := ⟨_, rfl⟩
            refine q_iald (Sh.arr hI7830.1 ka_233) (900 * v5283.toInt + 8 * x7828.toInt + 117) (by omega) (by omega) v7864 ((eA_c (hF7831.2.1 233 (by decide))).trans hv7864) ?_
            refine r_aload_n rfl ?_
            refine q_getR (Sh.ref hI7830.1 kx_231 rfl) ?_
            refine r_iload_n rfl ?_
            refine r_bipush 6 rfl ?_
            refine q_iadd (v7859.toInt + 6) rfl (by omega) (fun v7865 hv7865 => ?_)
            obtain ⟨v7866, hv7866⟩ : ∃ v, eA g0 233 (900 * v5283.toInt + 8 * x7828.toInt + 118) = v := ⟨_, rfl⟩
            refine q_iald (Sh.arr hI7830.1 ka_233) (900 * v5283.toInt + 8 * x7828.toInt + 118) (by omega) (by omega) v7866 ((eA_c (hF7831.2.1 233 (by decide))).trans hv7866) ?_
            have bv7868 := q_bnd v7864
            have bv7869 := q_bnd v7866
            refine r_ics 20 rfl (fun c7867 => ?_) (fun c7867 => ?_)
            · have c7867_ : v7864.toInt ≥ v7866.toInt := en_i_ge_t c7867
              refine At.enter rfl ?_
              refine r_aload_n rfl ?_
              refine q_getR (Sh.ref hI7830.1 kx_231 rfl) ?_
              refine r_iload_n rfl ?_
              refine q_iald (Sh.arr hI7830.1 ka_233) (900 * v5283.toInt + 8 * x7828.toInt + 112) (by omega) (by omega) v7860 ((eA_c (hF7831.2.1 233 (by decide))).trans hv7860) ?_
              refine r_iconst 2 rfl ?_
              refine r_ics 69 rfl (fun c7870 => ?_) (fun c7870 => ?_)
              · have c7870_ : v7860.toInt ≥ 2 := en_i_ge_t c7870
                refine At.enter rfl ?_
                refine r_iconst 1 rfl ?_
                refine q_iretz (by decide) ?_
                refine At.enter rfl ?_
                refine r_iff 209 rfl (by decide) ?_
                refine At.enter rfl ?_
                refine r_iload_n (w_p1 (by decide) (Or.inr rfl) e7837) ?_
                refine r_iconst 2 rfl ?_
                refine r_ics 214 rfl (fun c7871 => ?_) (fun c7871 => ?_)
                · have c7871_ : a1.toInt ≥ 2 := en_i_ge_t c7871
                  refine At.enter rfl ?_
                  refine r_lconst 1 rfl ?_
                  refine Ar.fall 222 rfl ?_
                  refine At.enter rfl ?_
                  refine r_lstore _ rfl ?_
                  refine Ar.fall 224 rfl ?_
                  refine At.enter rfl ?_
                  refine q_iinc (w_p2 (by decide) (by decide) (Or.inr rfl) (w_p1 (by decide) (Or.inr rfl) e7845)) (x7828.toInt + 1) rfl (by omega) (fun v7872 hv7872 => ?_)
                  refine r_goto ?_
                  have zv7873 : (1 : Int64).toInt = 1 := rfl
                  exact ih7834 (12 - v7872.toInt) _ _ ⟨1, v7872, by first | rfl | omega, hI7830, hF7831, e7835, (w_p1 (by decide) (Or.inr rfl) (w_p2 (by decide) (by decide) (Or.inr rfl) (w_p1 (by decide) (Or.inr rfl) e7836))), (w_p1 (by decide) (Or.inr rfl) (w_p2 (by decide) (by decide) (Or.inr rfl) (w_p1 (by decide) (Or.inr rfl) e7837))), (w_p1 (by decide) (Or.inr rfl) (w_p2 (by decide) (by decide) (Or.inr rfl) (w_p1 (by decide) (Or.inr rfl) e7838))), (w_p1 (by decide) (Or.inr rfl) (w_p2 (by decide) (by decide) (Or.inr rfl) (w_p1 (by decide) (Or.inr rfl) e7839))), (w_p1 (by decide) (Or.inr rfl) (w_p2 (by decide) (by decide) (Or.inr rfl) (w_p1 (by decide) (Or.inr rfl) e7840))), (w_p1 (by decide) (Or.inr rfl) (w_p2 (by decide) (by decide) (Or.inr rfl) (w_p1 (by decide) (Or.inr rfl) e7841))), (w_p1 (by decide) (Or.inl (by decide)) (w_p2 (by decide) (by decide) (Or.inl (by decide)) (w_p1 (by decide) (Or.inl (by decide)) e7842))), (w_p1 (by decide) (Or.inr rfl) (w_p2 (by decide) (by decide) (Or.inr rfl) (w_p1 (by decide) (Or.inr rfl) e7843))), (w_p1 (by decide) (Or.inl (by decide)) (w_e2 _ _ _)), (w_e1 _ _ _), by omega, (TMI_some q7847.1 (by omega) (by omega) (show x7828.toInt < RWM g0 (eA g0 233 3).toInt 1 from by rw [show RWM g0 (eA g0 233 3).toInt 1 = v7853.toInt from by (show (eA g0 233 (110 + 900 * (eA g0 233 3).toInt + 1)).toInt = _); rw [hv5283, show 110 + 900 * v5283.toInt + 1 = (900 * v5283.toInt + 111) from by omega, hv7853]]; omega) (fun h1 => absurd h1 (by omega)) (fun h1 => absurd h1 (by omega))), (by rw [show RWM g0 (eA g0 233 3).toInt 1 = v7853.toInt from by (show (eA g0 233 (110 + 900 * (eA g0 233 3).toInt + 1)).toInt = _); rw [hv5283, show 110 + 900 * v5283.toInt + 1 = (900 * v5283.toInt + 111) from by omega, hv7853]]; omega)⟩ ⟨by omega, by omega⟩
                · have c7871_ : a1.toInt < 2 := en_i_ge_f c7871
                  refine At.enter rfl ?_
                  refine r_aload_n (w_p1 (by decide) (Or.inr rfl) e7836) ?_
                  obtain ⟨v7874, hv7874⟩ : ∃ v, gJ g7829 231 32 = v := ⟨_, rfl⟩
                  refine q_getJv (Sh.long hI7830.1 kx_231 rfl) v7874 hv7874 ?_
                  refine r_goto ?_
                  refine At.enter rfl ?_
                  refine r_lstore _ rfl ?_
                  refine Ar.fall 224 rfl ?_
                  refine At.enter rfl ?_
                  refine q_iinc (w_p2 (by decide) (by decide) (Or.inr rfl) (w_p1 (by decide) (Or.inr rfl) e7845)) (x7828.toInt + 1) rfl (by omega) (fun v7875 hv7875 => ?_)
                  refine r_goto ?_
                  exact ih7834 (12 - v7875.toInt) _ _ ⟨v7874, v7875, by first | rfl | omega, hI7830, hF7831, e7835, (w_p1 (by decide) (Or.inr rfl) (w_p2 (by decide) (by decide) (Or.inr rfl) (w_p1 (by decide) (Or.inr rfl) e7836))), (w_p1 (by decide) (Or.inr rfl) (w_p2 (by decide) (by decide) (Or.inr rfl) (w_p1 (by decide) (Or.inr rfl) e7837))), (w_p1 (by decide) (Or.inr rfl) (w_p2 (by decide) (by decide) (Or.inr rfl) (w_p1 (by decide) (Or.inr rfl) e7838))), (w_p1 (by decide) (Or.inr rfl) (w_p2 (by decide) (by decide) (Or.inr rfl) (w_p1 (by decide) (Or.inr rfl) e7839))), (w_p1 (by decide) (Or.inr rfl) (w_p2 (by decide) (by decide) (Or.inr rfl) (w_p1 (by decide) (Or.inr rfl) e7840))), (w_p1 (by decide) (Or.inr rfl) (w_p2 (by decide) (by decide) (Or.inr rfl) (w_p1 (by decide) (Or.inr rfl) e7841))), (w_p1 (by decide) (Or.inl (by decide)) (w_p2 (by decide) (by decide) (Or.inl (by decide)) (w_p1 (by decide) (Or.inl (by decide)) e7842))), (w_p1 (by decide) (Or.inr rfl) (w_p2 (by decide) (by decide) (Or.inr rfl) (w_p1 (by decide) (Or.inr rfl) e7843))), (w_p1 (by decide) (Or.inl (by decide)) (w_e2 _ _ _)), (w_e1 _ _ _), by omega, (TMI_some q7847.1 (by omega) (by omega) (show x7828.toInt < RWM g0 (eA g0 233 3).toInt 1 from by rw [show RWM g0 (eA g0 233 3).toInt 1 = v7853.toInt from by (show (eA g0 233 (110 + 900 * (eA g0 233 3).toInt + 1)).toInt = _); rw [hv5283, show 110 + 900 * v5283.toInt + 1 = (900 * v5283.toInt + 111) from by omega, hv7853]]; omega) (fun h1 => absurd h1 (by omega)) (fun h1 => absurd h1 (by omega))), (by rw [show RWM g0 (eA g0 233 3).toInt 1 = v7853.toInt from by (show (eA g0 233 (110 + 900 * (eA g0 233 3).toInt + 1)).toInt = _); rw [hv5283, show 110 + 900 * v5283.toInt + 1 = (900 * v5283.toInt + 111) from by omega, hv7853]]; omega)⟩ ⟨by omega, by omega⟩
              · have c7870_ : v7860.toInt < 2 := en_i_ge_f c7870
                refine At.enter rfl ?_
                refine r_aload_n rfl ?_
                refine r_aload_n rfl ?_
                refine q_getR (Sh.ref hI7830.1 kx_231 rfl) ?_
                refine r_iload_n rfl ?_
                refine r_iconst 3 rfl ?_
                refine q_iadd (v7859.toInt + 3) rfl (by omega) (fun v7876 hv7876 => ?_)
                obtain ⟨v7877, hv7877⟩ : ∃ v, eA g0 233 (900 * v5283.toInt + 8 * x7828.toInt + 115) = v := ⟨_, rfl⟩
                refine q_iald (Sh.arr hI7830.1 ka_233) (900 * v5283.toInt + 8 * x7828.toInt + 115) (by omega) (by omega) v7877 ((eA_c (hF7831.2.1 233 (by decide))).trans hv7877) ?_
                refine r_aload_n rfl ?_
                refine q_getR (Sh.ref hI7830.1 kx_231 rfl) ?_
                refine r_iload_n rfl ?_
                refine r_iconst 4 rfl ?_
                refine q_iadd (v7859.toInt + 4) rfl (by omega) (fun v7878 hv7878 => ?_)
                obtain ⟨v7879, hv7879⟩ : ∃ v, eA g0 233 (900 * v5283.toInt + 8 * x7828.toInt + 116) = v := ⟨_, rfl⟩
                refine q_iald (Sh.arr hI7830.1 ka_233) (900 * v5283.toInt + 8 * x7828.toInt + 116) (by omega) (by omega) v7879 ((eA_c (hF7831.2.1 233 (by decide))).trans hv7879) ?_
                refine r_callV 89 rfl [.ref 231, .int v7877, .int v7879] [] (Nat.le_of_ble_eq_true rfl) rfl (T_X11_reckonAll_231 _ hI7830 v7877 v7879 (HI.code hI0 (j := v5283.toInt) (c := x7828.toInt) ⟨by omega, by omega⟩ (hF7831.2.1 233 (by decide)) (by rw [e7835]; omega) (i := (900 * v5283.toInt + 111)) (by omega) (congrArg Int32.toInt hv7853) ⟨by omega, by omega⟩ (i3 := (900 * v5283.toInt + 8 * x7828.toInt + 115)) (i4 := (900 * v5283.toInt + 8 * x7828.toInt + 116)) 3 (by decide) (by omega) (by omega) (congrArg Int32.toInt hv7877) (congrArg Int32.toInt hv7879))) ?_
                rintro _ _ ⟨g7880, rfl, hI7881, hF7882, rfl, hr7884⟩
                refine At.stn ?_
                have hF7885 := Fr.tr hF7831 hF7882 rfl rfl
                refine At.enter rfl ?_
                refine r_aload_n rfl ?_
                refine r_aload_n rfl ?_
                obtain ⟨v7886, hv7886⟩ : ∃ v, gJ g7880 231 31 = v := ⟨_, rfl⟩
                refine q_getJv (Sh.long hI7881.1 kx_231 rfl) v7886 hv7886 ?_
                refine q_putJ (Sh.long hI7881.1 kx_231 rfl) rfl ?_
                have hI7887 := HI.wJ hI7881 kx_231 rfl (p := 231) (b := 32) (v := v7886)
                have hF7888 := Fr.wJ (p := 231) (b := 32) (v := v7886) hF7885 rfl
                refine r_aload_n rfl ?_
                obtain ⟨v7889, hv7889⟩ : ∃ v, gI g7880 231 30 = v := ⟨_, rfl⟩
                refine q_getI (Sh.int hI7887.1 kx_231 rfl) v7889 ((gI_sJ_ne (by decide)).trans hv7889) ?_
                refine r_ifs 104 rfl (fun c7890 => ?_) (fun c7890 => ?_)
                · have c7890_ : v7889.toInt ≠ 0 := en_k_ne_t c7890
                  refine At.enter rfl ?_
                  refine r_iconst 0 rfl ?_
                  refine Ar.fall 109 rfl ?_
                  refine At.enter rfl ?_
                  refine q_iretz (by decide) ?_
                  refine At.enter rfl ?_
                  refine r_ift (by decide) ?_
                  refine At.enter rfl ?_
                  refine q_iinc (w_p1 (by decide) (Or.inr rfl) e7845) (x7828.toInt + 1) rfl (by omega) (fun v7891 hv7891 => ?_)
                  refine r_goto ?_
                  exact ih7834 (12 - v7891.toInt) _ _ ⟨x7827, v7891, by first | rfl | omega, hI7887, hF7888, (((gI_sJ_ne (by decide)).trans (hF7882.1 231 27 mf_X11_reckonAll_231_231_27)).trans e7835), (w_p1 (by decide) (Or.inr rfl) (w_p1 (by decide) (Or.inr rfl) e7836)), (w_p1 (by decide) (Or.inr rfl) (w_p1 (by decide) (Or.inr rfl) e7837)), (w_p1 (by decide) (Or.inr rfl) (w_p1 (by decide) (Or.inr rfl) e7838)), (w_p1 (by decide) (Or.inr rfl) (w_p1 (by decide) (Or.inr rfl) e7839)), (w_p1 (by decide) (Or.inr rfl) (w_p1 (by decide) (Or.inr rfl) e7840)), (w_p1 (by decide) (Or.inr rfl) (w_p1 (by decide) (Or.inr rfl) e7841)), (w_p1 (by decide) (Or.inl (by decide)) (w_p1 (by decide) (Or.inl (by decide)) e7842)), (w_p1 (by decide) (Or.inr rfl) (w_p1 (by decide) (Or.inr rfl) e7843)), (w_p1 (by decide) (Or.inl (by decide)) (w_p1 (by decide) (Or.inl (by decide)) e7844)), (w_e1 _ _ _), by omega, (TMI_none q7847 (MCX_c (MCX_c q7847.1 hr7884.1 (hF7882.2.1 233 ma_X11_reckonAll_231_233) (hF7882.1 231 27 mf_X11_reckonAll_231_231_27)) gK_sJ gA_sJ (gI_sJ_ne (by decide))) (by omega) (by omega) (show x7828.toInt < RWM g0 (eA g0 233 3).toInt 1 from by rw [show RWM g0 (eA g0 233 3).toInt 1 = v7853.toInt from by (show (eA g0 233 (110 + 900 * (eA g0 233 3).toInt + 1)).toInt = _); rw [hv5283, show 110 + 900 * v5283.toInt + 1 = (900 * v5283.toInt + 111) from by omega, hv7853]]; omega) (fun h1 L => (CMW_bare (by rw [(show RWM g0 (eA g0 233 3).toInt (2 + 8 * x7828.toInt + 5) = v7864.toInt from by (show (eA g0 233 (110 + 900 * (eA g0 233 3).toInt + (2 + 8 * x7828.toInt + 5))).toInt = _); rw [hv5283, show 110 + 900 * v5283.toInt + (2 + 8 * x7828.toInt + 5) = (900 * v5283.toInt + 8 * x7828.toInt + 117) from by omega, hv7864]), (show RWM g0 (eA g0 233 3).toInt (2 + 8 * x7828.toInt + 6) = v7866.toInt from by (show (eA g0 233 (110 + 900 * (eA g0 233 3).toInt + (2 + 8 * x7828.toInt + 6))).toInt = _); rw [hv5283, show 110 + 900 * v5283.toInt + (2 + 8 * x7828.toInt + 6) = (900 * v5283.toInt + 8 * x7828.toInt + 118) from by omega, hv7866])]; omega) L).trans (EVM_none (WRN_e hr7884 (show RWM g0 (eA g0 233 3).toInt (2 + 8 * x7828.toInt + 3) = v7877.toInt from by (show (eA g0 233 (110 + 900 * (eA g0 233 3).toInt + (2 + 8 * x7828.toInt + 3))).toInt = _); rw [hv5283, show 110 + 900 * v5283.toInt + (2 + 8 * x7828.toInt + 3) = (900 * v5283.toInt + 8 * x7828.toInt + 115) from by omega, hv7877]) (show RWM g0 (eA g0 233 3).toInt (2 + 8 * x7828.toInt + 4) = v7879.toInt from by (show (eA g0 233 (110 + 900 * (eA g0 233 3).toInt + (2 + 8 * x7828.toInt + 4))).toInt = _); rw [hv5283, show 110 + 900 * v5283.toInt + (2 + 8 * x7828.toInt + 4) = (900 * v5283.toInt + 8 * x7828.toInt + 116) from by omega, hv7879])) q7847.1 (by rw [hv7889]; omega) L.1))), (by rw [show RWM g0 (eA g0 233 3).toInt 1 = v7853.toInt from by (show (eA g0 233 (110 + 900 * (eA g0 233 3).toInt + 1)).toInt = _); rw [hv5283, show 110 + 900 * v5283.toInt + 1 = (900 * v5283.toInt + 111) from by omega, hv7853]]; omega)⟩ ⟨by omega, by omega⟩
                · have c7890_ : v7889.toInt = 0 := en_k_ne_f c7890
                  refine At.enter rfl ?_
                  refine r_iconst 1 rfl ?_
                  refine r_goto ?_
                  refine At.enter rfl ?_
                  refine q_iretz (by decide) ?_
                  refine At.enter rfl ?_
                  refine r_iff 209 rfl (by decide) ?_
                  refine At.enter rfl ?_
                  refine r_iload_n (w_p1 (by decide) (Or.inr rfl) e7837) ?_
                  refine r_iconst 2 rfl ?_
                  refine r_ics 214 rfl (fun c7892 => ?_) (fun c7892 => ?_)
                  · have c7892_ : a1.toInt ≥ 2 := en_i_ge_t c7892
                    refine At.enter rfl ?_
                    refine r_lconst 1 rfl ?_
                    refine Ar.fall 222 rfl ?_
                    refine At.enter rfl ?_
                    refine r_lstore _ rfl ?_
                    refine Ar.fall 224 rfl ?_
                    refine At.enter rfl ?_
                    refine q_iinc (w_p2 (by decide) (by decide) (Or.inr rfl) (w_p1 (by decide) (Or.inr rfl) e7845)) (x7828.toInt + 1) rfl (by omega) (fun v7893 hv7893 => ?_)
                    refine r_goto ?_
                    have zv7894 : (1 : Int64).toInt = 1 := rfl
                    exact ih7834 (12 - v7893.toInt) _ _ ⟨1, v7893, by first | rfl | omega, hI7887, hF7888, (((gI_sJ_ne (by decide)).trans (hF7882.1 231 27 mf_X11_reckonAll_231_231_27)).trans e7835), (w_p1 (by decide) (Or.inr rfl) (w_p2 (by decide) (by decide) (Or.inr rfl) (w_p1 (by decide) (Or.inr rfl) e7836))), (w_p1 (by decide) (Or.inr rfl) (w_p2 (by decide) (by decide) (Or.inr rfl) (w_p1 (by decide) (Or.inr rfl) e7837))), (w_p1 (by decide) (Or.inr rfl) (w_p2 (by decide) (by decide) (Or.inr rfl) (w_p1 (by decide) (Or.inr rfl) e7838))), (w_p1 (by decide) (Or.inr rfl) (w_p2 (by decide) (by decide) (Or.inr rfl) (w_p1 (by decide) (Or.inr rfl) e7839))), (w_p1 (by decide) (Or.inr rfl) (w_p2 (by decide) (by decide) (Or.inr rfl) (w_p1 (by decide) (Or.inr rfl) e7840))), (w_p1 (by decide) (Or.inr rfl) (w_p2 (by decide) (by decide) (Or.inr rfl) (w_p1 (by decide) (Or.inr rfl) e7841))), (w_p1 (by decide) (Or.inl (by decide)) (w_p2 (by decide) (by decide) (Or.inl (by decide)) (w_p1 (by decide) (Or.inl (by decide)) e7842))), (w_p1 (by decide) (Or.inr rfl) (w_p2 (by decide) (by decide) (Or.inr rfl) (w_p1 (by decide) (Or.inr rfl) e7843))), (w_p1 (by decide) (Or.inl (by decide)) (w_e2 _ _ _)), (w_e1 _ _ _), by omega, (by first | exact TMI_some (MCX_c (MCX_c q7847.1 hr7884.1 (hF7882.2.1 233 ma_X11_reckonAll_231_233) (hF7882.1 231 27 mf_X11_reckonAll_231_231_27)) gK_sJ gA_sJ (gI_sJ_ne (by decide))) (by omega) (by omega) (show x7828.toInt < RWM g0 (eA g0 233 3).toInt 1 from by rw [show RWM g0 (eA g0 233 3).toInt 1 = v7853.toInt from by (show (eA g0 233 (110 + 900 * (eA g0 233 3).toInt + 1)).toInt = _); rw [hv5283, show 110 + 900 * v5283.toInt + 1 = (900 * v5283.toInt + 111) from by omega, hv7853]]; omega) (fun h1 => by rw [(show RWM g0 (eA g0 233 3).toInt (2 + 8 * x7828.toInt) = v7860.toInt from by (show (eA g0 233 (110 + 900 * (eA g0 233 3).toInt + (2 + 8 * x7828.toInt))).toInt = _); rw [hv5283, show 110 + 900 * v5283.toInt + (2 + 8 * x7828.toInt) = (900 * v5283.toInt + 8 * x7828.toInt + 112) from by omega, hv7860])]; omega) (fun h1 L => (CMW_bare (by rw [(show RWM g0 (eA g0 233 3).toInt (2 + 8 * x7828.toInt + 5) = v7864.toInt from by (show (eA g0 233 (110 + 900 * (eA g0 233 3).toInt + (2 + 8 * x7828.toInt + 5))).toInt = _); rw [hv5283, show 110 + 900 * v5283.toInt + (2 + 8 * x7828.toInt + 5) = (900 * v5283.toInt + 8 * x7828.toInt + 117) from by omega, hv7864]), (show RWM g0 (eA g0 233 3).toInt (2 + 8 * x7828.toInt + 6) = v7866.toInt from by (show (eA g0 233 (110 + 900 * (eA g0 233 3).toInt + (2 + 8 * x7828.toInt + 6))).toInt = _); rw [hv5283, show 110 + 900 * v5283.toInt + (2 + 8 * x7828.toInt + 6) = (900 * v5283.toInt + 8 * x7828.toInt + 118) from by omega, hv7866])]; omega) L).trans (EVM_some (WRN_e hr7884 (show RWM g0 (eA g0 233 3).toInt (2 + 8 * x7828.toInt + 3) = v7877.toInt from by (show (eA g0 233 (110 + 900 * (eA g0 233 3).toInt + (2 + 8 * x7828.toInt + 3))).toInt = _); rw [hv5283, show 110 + 900 * v5283.toInt + (2 + 8 * x7828.toInt + 3) = (900 * v5283.toInt + 8 * x7828.toInt + 115) from by omega, hv7877]) (show RWM g0 (eA g0 233 3).toInt (2 + 8 * x7828.toInt + 4) = v7879.toInt from by (show (eA g0 233 (110 + 900 * (eA g0 233 3).toInt + (2 + 8 * x7828.toInt + 4))).toInt = _); rw [hv5283, show 110 + 900 * v5283.toInt + (2 + 8 * x7828.toInt + 4) = (900 * v5283.toInt + 8 * x7828.toInt + 116) from by omega, hv7879])) q7847.1 ((congrArg Int32.toInt hv7889).trans (by omega)) (congrArg Int64.toInt hv7886) L.1)) | exact TMI_some (MCX_c (MCX_c q7847.1 hr7884.1 (hF7882.2.1 233 ma_X11_reckonAll_231_233) (hF7882.1 231 27 mf_X11_reckonAll_231_231_27)) gK_sJ gA_sJ (gI_sJ_ne (by decide))) (by omega) (by omega) (show x7828.toInt < RWM g0 (eA g0 233 3).toInt 1 from by rw [show RWM g0 (eA g0 233 3).toInt 1 = v7853.toInt from by (show (eA g0 233 (110 + 900 * (eA g0 233 3).toInt + 1)).toInt = _); rw [hv5283, show 110 + 900 * v5283.toInt + 1 = (900 * v5283.toInt + 111) from by omega, hv7853]]; omega) (fun h1 => absurd h1 (by omega)) (fun h1 => absurd h1 (by omega))), (by rw [show RWM g0 (eA g0 233 3).toInt 1 = v7853.toInt from by (show (eA g0 233 (110 + 900 * (eA g0 233 3).toInt + 1)).toInt = _); rw [hv5283, show 110 + 900 * v5283.toInt + 1 = (900 * v5283.toInt + 111) from by omega, hv7853]]; omega)⟩ ⟨by omega, by omega⟩
                  · have c7892_ : a1.toInt < 2 := en_i_ge_f c7892
                    refine At.enter rfl ?_
                    refine r_aload_n (w_p1 (by decide) (Or.inr rfl) e7836) ?_
                    refine q_getJv (Sh.long hI7887.1 kx_231 rfl) v7886 (gJ_sJ_eq hI7881.1 kx_231 rfl _) ?_
                    refine r_goto ?_
                    refine At.enter rfl ?_
                    refine r_lstore _ rfl ?_
                    refine Ar.fall 224 rfl ?_
                    refine At.enter rfl ?_
                    refine q_iinc (w_p2 (by decide) (by decide) (Or.inr rfl) (w_p1 (by decide) (Or.inr rfl) e7845)) (x7828.toInt + 1) rfl (by omega) (fun v7895 hv7895 => ?_)
                    refine r_goto ?_
                    exact ih7834 (12 - v7895.toInt) _ _ ⟨v7886, v7895, by first | rfl | omega, hI7887, hF7888, (((gI_sJ_ne (by decide)).trans (hF7882.1 231 27 mf_X11_reckonAll_231_231_27)).trans e7835), (w_p1 (by decide) (Or.inr rfl) (w_p2 (by decide) (by decide) (Or.inr rfl) (w_p1 (by decide) (Or.inr rfl) e7836))), (w_p1 (by decide) (Or.inr rfl) (w_p2 (by decide) (by decide) (Or.inr rfl) (w_p1 (by decide) (Or.inr rfl) e7837))), (w_p1 (by decide) (Or.inr rfl) (w_p2 (by decide) (by decide) (Or.inr rfl) (w_p1 (by decide) (Or.inr rfl) e7838))), (w_p1 (by decide) (Or.inr rfl) (w_p2 (by decide) (by decide) (Or.inr rfl) (w_p1 (by decide) (Or.inr rfl) e7839))), (w_p1 (by decide) (Or.inr rfl) (w_p2 (by decide) (by decide) (Or.inr rfl) (w_p1 (by decide) (Or.inr rfl) e7840))), (w_p1 (by decide) (Or.inr rfl) (w_p2 (by decide) (by decide) (Or.inr rfl) (w_p1 (by decide) (Or.inr rfl) e7841))), (w_p1 (by decide) (Or.inl (by decide)) (w_p2 (by decide) (by decide) (Or.inl (by decide)) (w_p1 (by decide) (Or.inl (by decide)) e7842))), (w_p1 (by decide) (Or.inr rfl) (w_p2 (by decide) (by decide) (Or.inr rfl) (w_p1 (by decide) (Or.inr rfl) e7843))), (w_p1 (by decide) (Or.inl (by decide)) (w_e2 _ _ _)), (w_e1 _ _ _), by omega, (by first | exact TMI_some (MCX_c (MCX_c q7847.1 hr7884.1 (hF7882.2.1 233 ma_X11_reckonAll_231_233) (hF7882.1 231 27 mf_X11_reckonAll_231_231_27)) gK_sJ gA_sJ (gI_sJ_ne (by decide))) (by omega) (by omega) (show x7828.toInt < RWM g0 (eA g0 233 3).toInt 1 from by rw [show RWM g0 (eA g0 233 3).toInt 1 = v7853.toInt from by (show (eA g0 233 (110 + 900 * (eA g0 233 3).toInt + 1)).toInt = _); rw [hv5283, show 110 + 900 * v5283.toInt + 1 = (900 * v5283.toInt + 111) from by omega, hv7853]]; omega) (fun h1 => by rw [(show RWM g0 (eA g0 233 3).toInt (2 + 8 * x7828.toInt) = v7860.toInt from by (show (eA g0 233 (110 + 900 * (eA g0 233 3).toInt + (2 + 8 * x7828.toInt))).toInt = _); rw [hv5283, show 110 + 900 * v5283.toInt + (2 + 8 * x7828.toInt) = (900 * v5283.toInt + 8 * x7828.toInt + 112) from by omega, hv7860])]; omega) (fun h1 L => (CMW_bare (by rw [(show RWM g0 (eA g0 233 3).toInt (2 + 8 * x7828.toInt + 5) = v7864.toInt from by (show (eA g0 233 (110 + 900 * (eA g0 233 3).toInt + (2 + 8 * x7828.toInt + 5))).toInt = _); rw [hv5283, show 110 + 900 * v5283.toInt + (2 + 8 * x7828.toInt + 5) = (900 * v5283.toInt + 8 * x7828.toInt + 117) from by omega, hv7864]), (show RWM g0 (eA g0 233 3).toInt (2 + 8 * x7828.toInt + 6) = v7866.toInt from by (show (eA g0 233 (110 + 900 * (eA g0 233 3).toInt + (2 + 8 * x7828.toInt + 6))).toInt = _); rw [hv5283, show 110 + 900 * v5283.toInt + (2 + 8 * x7828.toInt + 6) = (900 * v5283.toInt + 8 * x7828.toInt + 118) from by omega, hv7866])]; omega) L).trans (EVM_some (WRN_e hr7884 (show RWM g0 (eA g0 233 3).toInt (2 + 8 * x7828.toInt + 3) = v7877.toInt from by (show (eA g0 233 (110 + 900 * (eA g0 233 3).toInt + (2 + 8 * x7828.toInt + 3))).toInt = _); rw [hv5283, show 110 + 900 * v5283.toInt + (2 + 8 * x7828.toInt + 3) = (900 * v5283.toInt + 8 * x7828.toInt + 115) from by omega, hv7877]) (show RWM g0 (eA g0 233 3).toInt (2 + 8 * x7828.toInt + 4) = v7879.toInt from by (show (eA g0 233 (110 + 900 * (eA g0 233 3).toInt + (2 + 8 * x7828.toInt + 4))).toInt = _); rw [hv5283, show 110 + 900 * v5283.toInt + (2 + 8 * x7828.toInt + 4) = (900 * v5283.toInt + 8 * x7828.toInt + 116) from by omega, hv7879])) q7847.1 ((congrArg Int32.toInt hv7889).trans (by omega)) (congrArg Int64.toInt hv7886) L.1)) | exact TMI_some (MCX_c (MCX_c q7847.1 hr7884.1 (hF7882.2.1 233 ma_X11_reckonAll_231_233) (hF7882.1 231 27 mf_X11_reckonAll_231_231_27)) gK_sJ gA_sJ (gI_sJ_ne (by decide))) (by omega) (by omega) (show x7828.toInt < RWM g0 (eA g0 233 3).toInt 1 from by rw [show RWM g0 (eA g0 233 3).toInt 1 = v7853.toInt from by (show (eA g0 233 (110 + 900 * (eA g0 233 3).toInt + 1)).toInt = _); rw [hv5283, show 110 + 900 * v5283.toInt + 1 = (900 * v5283.toInt + 111) from by omega, hv7853]]; omega) (fun h1 => absurd h1 (by omega)) (fun h1 => absurd h1 (by omega))), (by rw [show RWM g0 (eA g0 233 3).toInt 1 = v7853.toInt from by (show (eA g0 233 (110 + 900 * (eA g0 233 3).toInt + 1)).toInt = _); rw [hv5283, show 110 + 900 * v5283.toInt + 1 = (900 * v5283.toInt + 111) from by omega, hv7853]]; omega)⟩ ⟨by omega, by omega⟩
            · have c7867_ : v7864.toInt < v7866.toInt := en_i_ge_f c7867
              refine At.enter rfl ?_
              refine r_aload_n rfl ?_
              refine r_aload_n rfl ?_
              refine q_getR (Sh.ref hI7830.1 kx_231 rfl) ?_
              refine r_iload_n rfl ?_
              refine r_iconst 5 rfl ?_
              refine q_iadd (v7859.toInt + 5) rfl (by omega) (fun v7896 hv7896 => ?_)
              refine q_iald (Sh.arr hI7830.1 ka_233) (900 * v5283.toInt + 8 * x7828.toInt + 117) (by omega) (by omega) v7864 ((eA_c (hF7831.2.1 233 (by decide))).trans hv7864) ?_
              refine r_aload_n rfl ?_
              refine q_getR (Sh.ref hI7830.1 kx_231 rfl) ?_
              refine r_iload_n rfl ?_
              refine r_bipush 6 rfl ?_
              refine q_iadd (v7859.toInt + 6) rfl (by omega) (fun v7897 hv7897 => ?_)
              refine q_iald (Sh.arr hI7830.1 ka_233) (900 * v5283.toInt + 8 * x7828.toInt + 118) (by omega) (by omega) v7866 ((eA_c (hF7831.2.1 233 (by decide))).trans hv7866) ?_
              refine r_callV 41 rfl [.ref 231, .int v7864, .int v7866] [] (Nat.le_of_ble_eq_true rfl) rfl (T_X11_reckonAll_231 _ hI7830 v7864 v7866 (HI.code hI0 (j := v5283.toInt) (c := x7828.toInt) ⟨by omega, by omega⟩ (hF7831.2.1 233 (by decide)) (by rw [e7835]; omega) (i := (900 * v5283.toInt + 111)) (by omega) (congrArg Int32.toInt hv7853) ⟨by omega, by omega⟩ (i3 := (900 * v5283.toInt + 8 * x7828.toInt + 117)) (i4 := (900 * v5283.toInt + 8 * x7828.toInt + 118)) 5 (by decide) (by omega) (by omega) (congrArg Int32.toInt hv7864) (congrArg Int32.toInt hv7866))) ?_
              rintro _ _ ⟨g7898, rfl, hI7899, hF7900, rfl, hr7902⟩
              refine At.stn ?_
              have hF7903 := Fr.tr hF7831 hF7900 rfl rfl
              refine At.enter rfl ?_
              refine r_aload_n rfl ?_
              obtain ⟨v7904, hv7904⟩ : ∃ v, gI g7898 231 30 = v := ⟨_, rfl⟩
              refine q_getI (Sh.int hI7899.1 kx_231 rfl) v7904 hv7904 ?_
              refine r_ifs 48 rfl (fun c7905 => ?_) (fun c7905 => ?_)
              · have c7905_ : v7904.toInt ≠ 0 := en_k_ne_t c7905
                refine At.enter rfl ?_
                refine r_iconst 0 rfl ?_
                refine q_iretz (by decide) ?_
                refine At.enter rfl ?_
                refine r_ift (by decide) ?_
                refine At.enter rfl ?_
                refine q_iinc (w_p1 (by decide) (Or.inr rfl) e7845) (x7828.toInt + 1) rfl (by omega) (fun v7906 hv7906 => ?_)
                refine r_goto ?_
                exact ih7834 (12 - v7906.toInt) _ _ ⟨x7827, v7906, by first | rfl | omega, hI7899, hF7903, ((hF7900.1 231 27 mf_X11_reckonAll_231_231_27).trans e7835), (w_p1 (by decide) (Or.inr rfl) (w_p1 (by decide) (Or.inr rfl) e7836)), (w_p1 (by decide) (Or.inr rfl) (w_p1 (by decide) (Or.inr rfl) e7837)), (w_p1 (by decide) (Or.inr rfl) (w_p1 (by decide) (Or.inr rfl) e7838)), (w_p1 (by decide) (Or.inr rfl) (w_p1 (by decide) (Or.inr rfl) e7839)), (w_p1 (by decide) (Or.inr rfl) (w_p1 (by decide) (Or.inr rfl) e7840)), (w_p1 (by decide) (Or.inr rfl) (w_p1 (by decide) (Or.inr rfl) e7841)), (w_p1 (by decide) (Or.inl (by decide)) (w_p1 (by decide) (Or.inl (by decide)) e7842)), (w_p1 (by decide) (Or.inr rfl) (w_p1 (by decide) (Or.inr rfl) e7843)), (w_p1 (by decide) (Or.inl (by decide)) (w_p1 (by decide) (Or.inl (by decide)) e7844)), (w_e1 _ _ _), by omega, (TMI_none q7847 (MCX_c q7847.1 hr7902.1 (hF7900.2.1 233 ma_X11_reckonAll_231_233) (hF7900.1 231 27 mf_X11_reckonAll_231_231_27)) (by omega) (by omega) (show x7828.toInt < RWM g0 (eA g0 233 3).toInt 1 from by rw [show RWM g0 (eA g0 233 3).toInt 1 = v7853.toInt from by (show (eA g0 233 (110 + 900 * (eA g0 233 3).toInt + 1)).toInt = _); rw [hv5283, show 110 + 900 * v5283.toInt + 1 = (900 * v5283.toInt + 111) from by omega, hv7853]]; omega) (fun h1 L => by first | exact CMW_no (by rw [(show RWM g0 (eA g0 233 3).toInt (2 + 8 * x7828.toInt + 5) = v7864.toInt from by (show (eA g0 233 (110 + 900 * (eA g0 233 3).toInt + (2 + 8 * x7828.toInt + 5))).toInt = _); rw [hv5283, show 110 + 900 * v5283.toInt + (2 + 8 * x7828.toInt + 5) = (900 * v5283.toInt + 8 * x7828.toInt + 117) from by omega, hv7864]), (show RWM g0 (eA g0 233 3).toInt (2 + 8 * x7828.toInt + 6) = v7866.toInt from by (show (eA g0 233 (110 + 900 * (eA g0 233 3).toInt + (2 + 8 * x7828.toInt + 6))).toInt = _); rw [hv5283, show 110 + 900 * v5283.toInt + (2 + 8 * x7828.toInt + 6) = (900 * v5283.toInt + 8 * x7828.toInt + 118) from by omega, hv7866])]; omega) (WRN_e hr7902 (show RWM g0 (eA g0 233 3).toInt (2 + 8 * x7828.toInt + 5) = v7864.toInt from by (show (eA g0 233 (110 + 900 * (eA g0 233 3).toInt + (2 + 8 * x7828.toInt + 5))).toInt = _); rw [hv5283, show 110 + 900 * v5283.toInt + (2 + 8 * x7828.toInt + 5) = (900 * v5283.toInt + 8 * x7828.toInt + 117) from by omega, hv7864]) (show RWM g0 (eA g0 233 3).toInt (2 + 8 * x7828.toInt + 6) = v7866.toInt from by (show (eA g0 233 (110 + 900 * (eA g0 233 3).toInt + (2 + 8 * x7828.toInt + 6))).toInt = _); rw [hv5283, show 110 + 900 * v5283.toInt + (2 + 8 * x7828.toInt + 6) = (900 * v5283.toInt + 8 * x7828.toInt + 118) from by omega, hv7866])) q7847.1 rfl (Or.inl (by rw [hv7904]; omega)) L)), (by rw [show RWM g0 (eA g0 233 3).toInt 1 = v7853.toInt from by (show (eA g0 233 (110 + 900 * (eA g0 233 3).toInt + 1)).toInt = _); rw [hv5283, show 110 + 900 * v5283.toInt + 1 = (900 * v5283.toInt + 111) from by omega, hv7853]]; omega)⟩ ⟨by omega, by omega⟩
              · have c7905_ : v7904.toInt = 0 := en_k_ne_f c7905
                refine At.enter rfl ?_
                refine r_aload_n rfl ?_
                obtain ⟨v7907, hv7907⟩ : ∃ v, gJ g7898 231 31 = v := ⟨_, rfl⟩
                refine q_getJv (Sh.long hI7899.1 kx_231 rfl) v7907 hv7907 ?_
                refine r_lconst 0 rfl ?_
                refine r_lcmp _ rfl ?_
                refine r_ifs 57 rfl (fun c7908 => ?_) (fun c7908 => ?_)
                · have c7908_ : v7907.toInt ≠ 0 := en_j_ne_t c7908
                  refine At.enter rfl ?_
                  refine r_aload_n rfl ?_
                  refine q_getR (Sh.ref hI7899.1 kx_231 rfl) ?_
                  refine r_iload_n rfl ?_
                  refine q_iald (Sh.arr hI7899.1 ka_233) (900 * v5283.toInt + 8 * x7828.toInt + 112) (by omega) (by omega) v7860 ((eA_c ((hF7900.2.1 233 ma_X11_reckonAll_231_233).trans (hF7831.2.1 233 (by decide)))).trans hv7860) ?_
                  refine r_iconst 2 rfl ?_
                  refine r_ics 69 rfl (fun c7909 => ?_) (fun c7909 => ?_)
                  · have c7909_ : v7860.toInt ≥ 2 := en_i_ge_t c7909
                    refine At.enter rfl ?_
                    refine r_iconst 1 rfl ?_
                    refine q_iretz (by decide) ?_
                    refine At.enter rfl ?_
                    refine r_iff 209 rfl (by decide) ?_
                    refine At.enter rfl ?_
                    refine r_iload_n (w_p1 (by decide) (Or.inr rfl) e7837) ?_
                    refine r_iconst 2 rfl ?_
                    refine r_ics 214 rfl (fun c7910 => ?_) (fun c7910 => ?_)
                    · have c7910_ : a1.toInt ≥ 2 := en_i_ge_t c7910
                      refine At.enter rfl ?_
                      refine r_lconst 1 rfl ?_
                      refine Ar.fall 222 rfl ?_
                      refine At.enter rfl ?_
                      refine r_lstore _ rfl ?_
                      refine Ar.fall 224 rfl ?_
                      refine At.enter rfl ?_
                      refine q_iinc (w_p2 (by decide) (by decide) (Or.inr rfl) (w_p1 (by decide) (Or.inr rfl) e7845)) (x7828.toInt + 1) rfl (by omega) (fun v7911 hv7911 => ?_)
                      refine r_goto ?_
                      have zv7912 : (1 : Int64).toInt = 1 := rfl
                      exact ih7834 (12 - v7911.toInt) _ _ ⟨1, v7911, by first | rfl | omega, hI7899, hF7903, ((hF7900.1 231 27 mf_X11_reckonAll_231_231_27).trans e7835), (w_p1 (by decide) (Or.inr rfl) (w_p2 (by decide) (by decide) (Or.inr rfl) (w_p1 (by decide) (Or.inr rfl) e7836))), (w_p1 (by decide) (Or.inr rfl) (w_p2 (by decide) (by decide) (Or.inr rfl) (w_p1 (by decide) (Or.inr rfl) e7837))), (w_p1 (by decide) (Or.inr rfl) (w_p2 (by decide) (by decide) (Or.inr rfl) (w_p1 (by decide) (Or.inr rfl) e7838))), (w_p1 (by decide) (Or.inr rfl) (w_p2 (by decide) (by decide) (Or.inr rfl) (w_p1 (by decide) (Or.inr rfl) e7839))), (w_p1 (by decide) (Or.inr rfl) (w_p2 (by decide) (by decide) (Or.inr rfl) (w_p1 (by decide) (Or.inr rfl) e7840))), (w_p1 (by decide) (Or.inr rfl) (w_p2 (by decide) (by decide) (Or.inr rfl) (w_p1 (by decide) (Or.inr rfl) e7841))), (w_p1 (by decide) (Or.inl (by decide)) (w_p2 (by decide) (by decide) (Or.inl (by decide)) (w_p1 (by decide) (Or.inl (by decide)) e7842))), (w_p1 (by decide) (Or.inr rfl) (w_p2 (by decide) (by decide) (Or.inr rfl) (w_p1 (by decide) (Or.inr rfl) e7843))), (w_p1 (by decide) (Or.inl (by decide)) (w_e2 _ _ _)), (w_e1 _ _ _), by omega, (TMI_some (MCX_c q7847.1 hr7902.1 (hF7900.2.1 233 ma_X11_reckonAll_231_233) (hF7900.1 231 27 mf_X11_reckonAll_231_231_27)) (by omega) (by omega) (show x7828.toInt < RWM g0 (eA g0 233 3).toInt 1 from by rw [show RWM g0 (eA g0 233 3).toInt 1 = v7853.toInt from by (show (eA g0 233 (110 + 900 * (eA g0 233 3).toInt + 1)).toInt = _); rw [hv5283, show 110 + 900 * v5283.toInt + 1 = (900 * v5283.toInt + 111) from by omega, hv7853]]; omega) (fun h1 => absurd h1 (by omega)) (fun h1 => absurd h1 (by omega))), (by rw [show RWM g0 (eA g0 233 3).toInt 1 = v7853.toInt from by (show (eA g0 233 (110 + 900 * (eA g0 233 3).toInt + 1)).toInt = _); rw [hv5283, show 110 + 900 * v5283.toInt + 1 = (900 * v5283.toInt + 111) from by omega, hv7853]]; omega)⟩ ⟨by omega, by omega⟩
                    · have c7910_ : a1.toInt < 2 := en_i_ge_f c7910
                      refine At.enter rfl ?_
                      refine r_aload_n (w_p1 (by decide) (Or.inr rfl) e7836) ?_
                      obtain ⟨v7913, hv7913⟩ : ∃ v, gJ g7829 231 32 = v := ⟨_, rfl⟩
                      refine q_getJv (Sh.long hI7899.1 kx_231 rfl) v7913 ((hF7900.2.2 231 32 mf_X11_reckonAll_231_231_32).trans hv7913) ?_
                      refine r_goto ?_
                      refine At.enter rfl ?_
                      refine r_lstore _ rfl ?_
                      refine Ar.fall 224 rfl ?_
                      refine At.enter rfl ?_
                      refine q_iinc (w_p2 (by decide) (by decide) (Or.inr rfl) (w_p1 (by decide) (Or.inr rfl) e7845)) (x7828.toInt + 1) rfl (by omega) (fun v7914 hv7914 => ?_)
                      refine r_goto ?_
                      exact ih7834 (12 - v7914.toInt) _ _ ⟨v7913, v7914, by first | rfl | omega, hI7899, hF7903, ((hF7900.1 231 27 mf_X11_reckonAll_231_231_27).trans e7835), (w_p1 (by decide) (Or.inr rfl) (w_p2 (by decide) (by decide) (Or.inr rfl) (w_p1 (by decide) (Or.inr rfl) e7836))), (w_p1 (by decide) (Or.inr rfl) (w_p2 (by decide) (by decide) (Or.inr rfl) (w_p1 (by decide) (Or.inr rfl) e7837))), (w_p1 (by decide) (Or.inr rfl) (w_p2 (by decide) (by decide) (Or.inr rfl) (w_p1 (by decide) (Or.inr rfl) e7838))), (w_p1 (by decide) (Or.inr rfl) (w_p2 (by decide) (by decide) (Or.inr rfl) (w_p1 (by decide) (Or.inr rfl) e7839))), (w_p1 (by decide) (Or.inr rfl) (w_p2 (by decide) (by decide) (Or.inr rfl) (w_p1 (by decide) (Or.inr rfl) e7840))), (w_p1 (by decide) (Or.inr rfl) (w_p2 (by decide) (by decide) (Or.inr rfl) (w_p1 (by decide) (Or.inr rfl) e7841))), (w_p1 (by decide) (Or.inl (by decide)) (w_p2 (by decide) (by decide) (Or.inl (by decide)) (w_p1 (by decide) (Or.inl (by decide)) e7842))), (w_p1 (by decide) (Or.inr rfl) (w_p2 (by decide) (by decide) (Or.inr rfl) (w_p1 (by decide) (Or.inr rfl) e7843))), (w_p1 (by decide) (Or.inl (by decide)) (w_e2 _ _ _)), (w_e1 _ _ _), by omega, (TMI_some (MCX_c q7847.1 hr7902.1 (hF7900.2.1 233 ma_X11_reckonAll_231_233) (hF7900.1 231 27 mf_X11_reckonAll_231_231_27)) (by omega) (by omega) (show x7828.toInt < RWM g0 (eA g0 233 3).toInt 1 from by rw [show RWM g0 (eA g0 233 3).toInt 1 = v7853.toInt from by (show (eA g0 233 (110 + 900 * (eA g0 233 3).toInt + 1)).toInt = _); rw [hv5283, show 110 + 900 * v5283.toInt + 1 = (900 * v5283.toInt + 111) from by omega, hv7853]]; omega) (fun h1 => absurd h1 (by omega)) (fun h1 => absurd h1 (by omega))), (by rw [show RWM g0 (eA g0 233 3).toInt 1 = v7853.toInt from by (show (eA g0 233 (110 + 900 * (eA g0 233 3).toInt + 1)).toInt = _); rw [hv5283, show 110 + 900 * v5283.toInt + 1 = (900 * v5283.toInt + 111) from by omega, hv7853]]; omega)⟩ ⟨by omega, by omega⟩
                  · have c7909_ : v7860.toInt < 2 := en_i_ge_f c7909
                    refine At.enter rfl ?_
                    refine r_aload_n rfl ?_
                    refine r_aload_n rfl ?_
                    refine q_getR (Sh.ref hI7899.1 kx_231 rfl) ?_
                    refine r_iload_n rfl ?_
                    refine r_iconst 3 rfl ?_
                    refine q_iadd (v7859.toInt + 3) rfl (by omega) (fun v7915 hv7915 => ?_)
                    obtain ⟨v7916, hv7916⟩ : ∃ v, eA g0 233 (900 * v5283.toInt + 8 * x7828.toInt + 115) = v := ⟨_, rfl⟩
                    refine q_iald (Sh.arr hI7899.1 ka_233) (900 * v5283.toInt + 8 * x7828.toInt + 115) (by omega) (by omega) v7916 ((eA_c ((hF7900.2.1 233 ma_X11_reckonAll_231_233).trans (hF7831.2.1 233 (by decide)))).trans hv7916) ?_
                    refine r_aload_n rfl ?_
                    refine q_getR (Sh.ref hI7899.1 kx_231 rfl) ?_
                    refine r_iload_n rfl ?_
                    refine r_iconst 4 rfl ?_
                    refine q_iadd (v7859.toInt + 4) rfl (by omega) (fun v7917 hv7917 => ?_)
                    obtain ⟨v7918, hv7918⟩ : ∃ v, eA g0 233 (900 * v5283.toInt + 8 * x7828.toInt + 116) = v := ⟨_, rfl⟩
                    refine q_iald (Sh.arr hI7899.1 ka_233) (900 * v5283.toInt + 8 * x7828.toInt + 116) (by omega) (by omega) v7918 ((eA_c ((hF7900.2.1 233 ma_X11_reckonAll_231_233).trans (hF7831.2.1 233 (by decide)))).trans hv7918) ?_
                    refine r_callV 89 rfl [.ref 231, .int v7916, .int v7918] [] (Nat.le_of_ble_eq_true rfl) rfl (T_X11_reckonAll_231 _ hI7899 v7916 v7918 (HI.code hI0 (j := v5283.toInt) (c := x7828.toInt) ⟨by omega, by omega⟩ ((hF7900.2.1 233 ma_X11_reckonAll_231_233).trans (hF7831.2.1 233 (by decide))) (by rw [((hF7900.1 231 27 mf_X11_reckonAll_231_231_27).trans e7835)]; omega) (i := (900 * v5283.toInt + 111)) (by omega) (congrArg Int32.toInt hv7853) ⟨by omega, by omega⟩ (i3 := (900 * v5283.toInt + 8 * x7828.toInt + 115)) (i4 := (900 * v5283.toInt + 8 * x7828.toInt + 116)) 3 (by decide) (by omega) (by omega) (congrArg Int32.toInt hv7916) (congrArg Int32.toInt hv7918))) ?_
                    rintro _ _ ⟨g7919, rfl, hI7920, hF7921, rfl, hr7923⟩
                    refine At.stn ?_
                    have hF7924 := Fr.tr hF7903 hF7921 rfl rfl
                    refine At.enter rfl ?_
                    refine r_aload_n rfl ?_
                    refine r_aload_n rfl ?_
                    obtain ⟨v7925, hv7925⟩ : ∃ v, gJ g7919 231 31 = v := ⟨_, rfl⟩
                    refine q_getJv (Sh.long hI7920.1 kx_231 rfl) v7925 hv7925 ?_
                    refine q_putJ (Sh.long hI7920.1 kx_231 rfl) rfl ?_
                    have hI7926 := HI.wJ hI7920 kx_231 rfl (p := 231) (b := 32) (v := v7925)
                    have hF7927 := Fr.wJ (p := 231) (b := 32) (v := v7925) hF7924 rfl
                    refine r_aload_n rfl ?_
                    obtain ⟨v7928, hv7928⟩ : ∃ v, gI g7919 231 30 = v := ⟨_, rfl⟩
                    refine q_getI (Sh.int hI7926.1 kx_231 rfl) v7928 ((gI_sJ_ne (by decide)).trans hv7928) ?_
                    refine r_ifs 104 rfl (fun c7929 => ?_) (fun c7929 => ?_)
                    · have c7929_ : v7928.toInt ≠ 0 := en_k_ne_t c7929
                      refine At.enter rfl ?_
                      refine r_iconst 0 rfl ?_
                      refine Ar.fall 109 rfl ?_
                      refine At.enter rfl ?_
                      refine q_iretz (by decide) ?_
                      refine At.enter rfl ?_
                      refine r_ift (by decide) ?_
                      refine At.enter rfl ?_
                      refine q_iinc (w_p1 (by decide) (Or.inr rfl) e7845) (x7828.toInt + 1) rfl (by omega) (fun v7930 hv7930 => ?_)
                      refine r_goto ?_
                      exact ih7834 (12 - v7930.toInt) _ _ ⟨x7827, v7930, by first | rfl | omega, hI7926, hF7927, (((gI_sJ_ne (by decide)).trans ((hF7921.1 231 27 mf_X11_reckonAll_231_231_27).trans (hF7900.1 231 27 mf_X11_reckonAll_231_231_27))).trans e7835), (w_p1 (by decide) (Or.inr rfl) (w_p1 (by decide) (Or.inr rfl) e7836)), (w_p1 (by decide) (Or.inr rfl) (w_p1 (by decide) (Or.inr rfl) e7837)), (w_p1 (by decide) (Or.inr rfl) (w_p1 (by decide) (Or.inr rfl) e7838)), (w_p1 (by decide) (Or.inr rfl) (w_p1 (by decide) (Or.inr rfl) e7839)), (w_p1 (by decide) (Or.inr rfl) (w_p1 (by decide) (Or.inr rfl) e7840)), (w_p1 (by decide) (Or.inr rfl) (w_p1 (by decide) (Or.inr rfl) e7841)), (w_p1 (by decide) (Or.inl (by decide)) (w_p1 (by decide) (Or.inl (by decide)) e7842)), (w_p1 (by decide) (Or.inr rfl) (w_p1 (by decide) (Or.inr rfl) e7843)), (w_p1 (by decide) (Or.inl (by decide)) (w_p1 (by decide) (Or.inl (by decide)) e7844)), (w_e1 _ _ _), by omega, (TMI_none q7847 (MCX_c (MCX_c (MCX_c q7847.1 hr7902.1 (hF7900.2.1 233 ma_X11_reckonAll_231_233) (hF7900.1 231 27 mf_X11_reckonAll_231_231_27)) hr7923.1 (hF7921.2.1 233 ma_X11_reckonAll_231_233) (hF7921.1 231 27 mf_X11_reckonAll_231_231_27)) gK_sJ gA_sJ (gI_sJ_ne (by decide))) (by omega) (by omega) (show x7828.toInt < RWM g0 (eA g0 233 3).toInt 1 from by rw [show RWM g0 (eA g0 233 3).toInt 1 = v7853.toInt from by (show (eA g0 233 (110 + 900 * (eA g0 233 3).toInt + 1)).toInt = _); rw [hv5283, show 110 + 900 * v5283.toInt + 1 = (900 * v5283.toInt + 111) from by omega, hv7853]]; omega) (fun h1 L => (CMW_yes (by rw [(show RWM g0 (eA g0 233 3).toInt (2 + 8 * x7828.toInt + 5) = v7864.toInt from by (show (eA g0 233 (110 + 900 * (eA g0 233 3).toInt + (2 + 8 * x7828.toInt + 5))).toInt = _); rw [hv5283, show 110 + 900 * v5283.toInt + (2 + 8 * x7828.toInt + 5) = (900 * v5283.toInt + 8 * x7828.toInt + 117) from by omega, hv7864]), (show RWM g0 (eA g0 233 3).toInt (2 + 8 * x7828.toInt + 6) = v7866.toInt from by (show (eA g0 233 (110 + 900 * (eA g0 233 3).toInt + (2 + 8 * x7828.toInt + 6))).toInt = _); rw [hv5283, show 110 + 900 * v5283.toInt + (2 + 8 * x7828.toInt + 6) = (900 * v5283.toInt + 8 * x7828.toInt + 118) from by omega, hv7866])]; omega) (WRN_e hr7902 (show RWM g0 (eA g0 233 3).toInt (2 + 8 * x7828.toInt + 5) = v7864.toInt from by (show (eA g0 233 (110 + 900 * (eA g0 233 3).toInt + (2 + 8 * x7828.toInt + 5))).toInt = _); rw [hv5283, show 110 + 900 * v5283.toInt + (2 + 8 * x7828.toInt + 5) = (900 * v5283.toInt + 8 * x7828.toInt + 117) from by omega, hv7864]) (show RWM g0 (eA g0 233 3).toInt (2 + 8 * x7828.toInt + 6) = v7866.toInt from by (show (eA g0 233 (110 + 900 * (eA g0 233 3).toInt + (2 + 8 * x7828.toInt + 6))).toInt = _); rw [hv5283, show 110 + 900 * v5283.toInt + (2 + 8 * x7828.toInt + 6) = (900 * v5283.toInt + 8 * x7828.toInt + 118) from by omega, hv7866])) q7847.1 (congrArg Int64.toInt hv7907) ((congrArg Int32.toInt hv7904).trans (by omega)) (by omega) L).trans (EVM_none (WRN_e hr7923 (show RWM g0 (eA g0 233 3).toInt (2 + 8 * x7828.toInt + 3) = v7916.toInt from by (show (eA g0 233 (110 + 900 * (eA g0 233 3).toInt + (2 + 8 * x7828.toInt + 3))).toInt = _); rw [hv5283, show 110 + 900 * v5283.toInt + (2 + 8 * x7828.toInt + 3) = (900 * v5283.toInt + 8 * x7828.toInt + 115) from by omega, hv7916]) (show RWM g0 (eA g0 233 3).toInt (2 + 8 * x7828.toInt + 4) = v7918.toInt from by (show (eA g0 233 (110 + 900 * (eA g0 233 3).toInt + (2 + 8 * x7828.toInt + 4))).toInt = _); rw [hv5283, show 110 + 900 * v5283.toInt + (2 + 8 * x7828.toInt + 4) = (900 * v5283.toInt + 8 * x7828.toInt + 116) from by omega, hv7918])) (MCX_c q7847.1 hr7902.1 (hF7900.2.1 233 ma_X11_reckonAll_231_233) (hF7900.1 231 27 mf_X11_reckonAll_231_231_27)) (by rw [hv7928]; omega) L.1))), (by rw [show RWM g0 (eA g0 233 3).toInt 1 = v7853.toInt from by (show (eA g0 233 (110 + 900 * (eA g0 233 3).toInt + 1)).toInt = _); rw [hv5283, show 110 + 900 * v5283.toInt + 1 = (900 * v5283.toInt + 111) from by omega, hv7853]]; omega)⟩ ⟨by omega, by omega⟩
                    · have c7929_ : v7928.toInt = 0 := en_k_ne_f c7929
                      refine At.enter rfl ?_
                      refine r_iconst 1 rfl ?_
                      refine r_goto ?_
                      refine At.enter rfl ?_
                      refine q_iretz (by decide) ?_
                      refine At.enter rfl ?_
                      refine r_iff 209 rfl (by decide) ?_
                      refine At.enter rfl ?_
                      refine r_iload_n (w_p1 (by decide) (Or.inr rfl) e7837) ?_
                      refine r_iconst 2 rfl ?_
                      refine r_ics 214 rfl (fun c7931 => ?_) (fun c7931 => ?_)
                      · have c7931_ : a1.toInt ≥ 2 := en_i_ge_t c7931
                        refine At.enter rfl ?_
                        refine r_lconst 1 rfl ?_
                        refine Ar.fall 222 rfl ?_
                        refine At.enter rfl ?_
                        refine r_lstore _ rfl ?_
                        refine Ar.fall 224 rfl ?_
                        refine At.enter rfl ?_
                        refine q_iinc (w_p2 (by decide) (by decide) (Or.inr rfl) (w_p1 (by decide) (Or.inr rfl) e7845)) (x7828.toInt + 1) rfl (by omega) (fun v7932 hv7932 => ?_)
                        refine r_goto ?_
                        have zv7933 : (1 : Int64).toInt = 1 := rfl
                        exact ih7834 (12 - v7932.toInt) _ _ ⟨1, v7932, by first | rfl | omega, hI7926, hF7927, (((gI_sJ_ne (by decide)).trans ((hF7921.1 231 27 mf_X11_reckonAll_231_231_27).trans (hF7900.1 231 27 mf_X11_reckonAll_231_231_27))).trans e7835), (w_p1 (by decide) (Or.inr rfl) (w_p2 (by decide) (by decide) (Or.inr rfl) (w_p1 (by decide) (Or.inr rfl) e7836))), (w_p1 (by decide) (Or.inr rfl) (w_p2 (by decide) (by decide) (Or.inr rfl) (w_p1 (by decide) (Or.inr rfl) e7837))), (w_p1 (by decide) (Or.inr rfl) (w_p2 (by decide) (by decide) (Or.inr rfl) (w_p1 (by decide) (Or.inr rfl) e7838))), (w_p1 (by decide) (Or.inr rfl) (w_p2 (by decide) (by decide) (Or.inr rfl) (w_p1 (by decide) (Or.inr rfl) e7839))), (w_p1 (by decide) (Or.inr rfl) (w_p2 (by decide) (by decide) (Or.inr rfl) (w_p1 (by decide) (Or.inr rfl) e7840))), (w_p1 (by decide) (Or.inr rfl) (w_p2 (by decide) (by decide) (Or.inr rfl) (w_p1 (by decide) (Or.inr rfl) e7841))), (w_p1 (by decide) (Or.inl (by decide)) (w_p2 (by decide) (by decide) (Or.inl (by decide)) (w_p1 (by decide) (Or.inl (by decide)) e7842))), (w_p1 (by decide) (Or.inr rfl) (w_p2 (by decide) (by decide) (Or.inr rfl) (w_p1 (by decide) (Or.inr rfl) e7843))), (w_p1 (by decide) (Or.inl (by decide)) (w_e2 _ _ _)), (w_e1 _ _ _), by omega, (by first | exact TMI_some (MCX_c (MCX_c (MCX_c q7847.1 hr7902.1 (hF7900.2.1 233 ma_X11_reckonAll_231_233) (hF7900.1 231 27 mf_X11_reckonAll_231_231_27)) hr7923.1 (hF7921.2.1 233 ma_X11_reckonAll_231_233) (hF7921.1 231 27 mf_X11_reckonAll_231_231_27)) gK_sJ gA_sJ (gI_sJ_ne (by decide))) (by omega) (by omega) (show x7828.toInt < RWM g0 (eA g0 233 3).toInt 1 from by rw [show RWM g0 (eA g0 233 3).toInt 1 = v7853.toInt from by (show (eA g0 233 (110 + 900 * (eA g0 233 3).toInt + 1)).toInt = _); rw [hv5283, show 110 + 900 * v5283.toInt + 1 = (900 * v5283.toInt + 111) from by omega, hv7853]]; omega) (fun h1 => by rw [(show RWM g0 (eA g0 233 3).toInt (2 + 8 * x7828.toInt) = v7860.toInt from by (show (eA g0 233 (110 + 900 * (eA g0 233 3).toInt + (2 + 8 * x7828.toInt))).toInt = _); rw [hv5283, show 110 + 900 * v5283.toInt + (2 + 8 * x7828.toInt) = (900 * v5283.toInt + 8 * x7828.toInt + 112) from by omega, hv7860])]; omega) (fun h1 L => (CMW_yes (by rw [(show RWM g0 (eA g0 233 3).toInt (2 + 8 * x7828.toInt + 5) = v7864.toInt from by (show (eA g0 233 (110 + 900 * (eA g0 233 3).toInt + (2 + 8 * x7828.toInt + 5))).toInt = _); rw [hv5283, show 110 + 900 * v5283.toInt + (2 + 8 * x7828.toInt + 5) = (900 * v5283.toInt + 8 * x7828.toInt + 117) from by omega, hv7864]), (show RWM g0 (eA g0 233 3).toInt (2 + 8 * x7828.toInt + 6) = v7866.toInt from by (show (eA g0 233 (110 + 900 * (eA g0 233 3).toInt + (2 + 8 * x7828.toInt + 6))).toInt = _); rw [hv5283, show 110 + 900 * v5283.toInt + (2 + 8 * x7828.toInt + 6) = (900 * v5283.toInt + 8 * x7828.toInt + 118) from by omega, hv7866])]; omega) (WRN_e hr7902 (show RWM g0 (eA g0 233 3).toInt (2 + 8 * x7828.toInt + 5) = v7864.toInt from by (show (eA g0 233 (110 + 900 * (eA g0 233 3).toInt + (2 + 8 * x7828.toInt + 5))).toInt = _); rw [hv5283, show 110 + 900 * v5283.toInt + (2 + 8 * x7828.toInt + 5) = (900 * v5283.toInt + 8 * x7828.toInt + 117) from by omega, hv7864]) (show RWM g0 (eA g0 233 3).toInt (2 + 8 * x7828.toInt + 6) = v7866.toInt from by (show (eA g0 233 (110 + 900 * (eA g0 233 3).toInt + (2 + 8 * x7828.toInt + 6))).toInt = _); rw [hv5283, show 110 + 900 * v5283.toInt + (2 + 8 * x7828.toInt + 6) = (900 * v5283.toInt + 8 * x7828.toInt + 118) from by omega, hv7866])) q7847.1 (congrArg Int64.toInt hv7907) ((congrArg Int32.toInt hv7904).trans (by omega)) (by omega) L).trans (EVM_some (WRN_e hr7923 (show RWM g0 (eA g0 233 3).toInt (2 + 8 * x7828.toInt + 3) = v7916.toInt from by (show (eA g0 233 (110 + 900 * (eA g0 233 3).toInt + (2 + 8 * x7828.toInt + 3))).toInt = _); rw [hv5283, show 110 + 900 * v5283.toInt + (2 + 8 * x7828.toInt + 3) = (900 * v5283.toInt + 8 * x7828.toInt + 115) from by omega, hv7916]) (show RWM g0 (eA g0 233 3).toInt (2 + 8 * x7828.toInt + 4) = v7918.toInt from by (show (eA g0 233 (110 + 900 * (eA g0 233 3).toInt + (2 + 8 * x7828.toInt + 4))).toInt = _); rw [hv5283, show 110 + 900 * v5283.toInt + (2 + 8 * x7828.toInt + 4) = (900 * v5283.toInt + 8 * x7828.toInt + 116) from by omega, hv7918])) (MCX_c q7847.1 hr7902.1 (hF7900.2.1 233 ma_X11_reckonAll_231_233) (hF7900.1 231 27 mf_X11_reckonAll_231_231_27)) ((congrArg Int32.toInt hv7928).trans (by omega)) (congrArg Int64.toInt hv7925) L.1)) | exact TMI_some (MCX_c (MCX_c (MCX_c q7847.1 hr7902.1 (hF7900.2.1 233 ma_X11_reckonAll_231_233) (hF7900.1 231 27 mf_X11_reckonAll_231_231_27)) hr7923.1 (hF7921.2.1 233 ma_X11_reckonAll_231_233) (hF7921.1 231 27 mf_X11_reckonAll_231_231_27)) gK_sJ gA_sJ (gI_sJ_ne (by decide))) (by omega) (by omega) (show x7828.toInt < RWM g0 (eA g0 233 3).toInt 1 from by rw [show RWM g0 (eA g0 233 3).toInt 1 = v7853.toInt from by (show (eA g0 233 (110 + 900 * (eA g0 233 3).toInt + 1)).toInt = _); rw [hv5283, show 110 + 900 * v5283.toInt + 1 = (900 * v5283.toInt + 111) from by omega, hv7853]]; omega) (fun h1 => absurd h1 (by omega)) (fun h1 => absurd h1 (by omega))), (by rw [show RWM g0 (eA g0 233 3).toInt 1 = v7853.toInt from by (show (eA g0 233 (110 + 900 * (eA g0 233 3).toInt + 1)).toInt = _); rw [hv5283, show 110 + 900 * v5283.toInt + 1 = (900 * v5283.toInt + 111) from by omega, hv7853]]; omega)⟩ ⟨by omega, by omega⟩
                      · have c7931_ : a1.toInt < 2 := en_i_ge_f c7931
                        refine At.enter rfl ?_
                        refine r_aload_n (w_p1 (by decide) (Or.inr rfl) e7836) ?_
                        refine q_getJv (Sh.long hI7926.1 kx_231 rfl) v7925 (gJ_sJ_eq hI7920.1 kx_231 rfl _) ?_
                        refine r_goto ?_
                        refine At.enter rfl ?_
                        refine r_lstore _ rfl ?_
                        refine Ar.fall 224 rfl ?_
                        refine At.enter rfl ?_
                        refine q_iinc (w_p2 (by decide) (by decide) (Or.inr rfl) (w_p1 (by decide) (Or.inr rfl) e7845)) (x7828.toInt + 1) rfl (by omega) (fun v7934 hv7934 => ?_)
                        refine r_goto ?_
                        exact ih7834 (12 - v7934.toInt) _ _ ⟨v7925, v7934, by first | rfl | omega, hI7926, hF7927, (((gI_sJ_ne (by decide)).trans ((hF7921.1 231 27 mf_X11_reckonAll_231_231_27).trans (hF7900.1 231 27 mf_X11_reckonAll_231_231_27))).trans e7835), (w_p1 (by decide) (Or.inr rfl) (w_p2 (by decide) (by decide) (Or.inr rfl) (w_p1 (by decide) (Or.inr rfl) e7836))), (w_p1 (by decide) (Or.inr rfl) (w_p2 (by decide) (by decide) (Or.inr rfl) (w_p1 (by decide) (Or.inr rfl) e7837))), (w_p1 (by decide) (Or.inr rfl) (w_p2 (by decide) (by decide) (Or.inr rfl) (w_p1 (by decide) (Or.inr rfl) e7838))), (w_p1 (by decide) (Or.inr rfl) (w_p2 (by decide) (by decide) (Or.inr rfl) (w_p1 (by decide) (Or.inr rfl) e7839))), (w_p1 (by decide) (Or.inr rfl) (w_p2 (by decide) (by decide) (Or.inr rfl) (w_p1 (by decide) (Or.inr rfl) e7840))), (w_p1 (by decide) (Or.inr rfl) (w_p2 (by decide) (by decide) (Or.inr rfl) (w_p1 (by decide) (Or.inr rfl) e7841))), (w_p1 (by decide) (Or.inl (by decide)) (w_p2 (by decide) (by decide) (Or.inl (by decide)) (w_p1 (by decide) (Or.inl (by decide)) e7842))), (w_p1 (by decide) (Or.inr rfl) (w_p2 (by decide) (by decide) (Or.inr rfl) (w_p1 (by decide) (Or.inr rfl) e7843))), (w_p1 (by decide) (Or.inl (by decide)) (w_e2 _ _ _)), (w_e1 _ _ _), by omega, (by first | exact TMI_some (MCX_c (MCX_c (MCX_c q7847.1 hr7902.1 (hF7900.2.1 233 ma_X11_reckonAll_231_233) (hF7900.1 231 27 mf_X11_reckonAll_231_231_27)) hr7923.1 (hF7921.2.1 233 ma_X11_reckonAll_231_233) (hF7921.1 231 27 mf_X11_reckonAll_231_231_27)) gK_sJ gA_sJ (gI_sJ_ne (by decide))) (by omega) (by omega) (show x7828.toInt < RWM g0 (eA g0 233 3).toInt 1 from by rw [show RWM g0 (eA g0 233 3).toInt 1 = v7853.toInt from by (show (eA g0 233 (110 + 900 * (eA g0 233 3).toInt + 1)).toInt = _); rw [hv5283, show 110 + 900 * v5283.toInt + 1 = (900 * v5283.toInt + 111) from by omega, hv7853]]; omega) (fun h1 => by rw [(show RWM g0 (eA g0 233 3).toInt (2 + 8 * x7828.toInt) = v7860.toInt from by (show (eA g0 233 (110 + 900 * (eA g0 233 3).toInt + (2 + 8 * x7828.toInt))).toInt = _); rw [hv5283, show 110 + 900 * v5283.toInt + (2 + 8 * x7828.toInt) = (900 * v5283.toInt + 8 * x7828.toInt + 112) from by omega, hv7860])]; omega) (fun h1 L => (CMW_yes (by rw [(show RWM g0 (eA g0 233 3).toInt (2 + 8 * x7828.toInt + 5) = v7864.toInt from by (show (eA g0 233 (110 + 900 * (eA g0 233 3).toInt + (2 + 8 * x7828.toInt + 5))).toInt = _); rw [hv5283, show 110 + 900 * v5283.toInt + (2 + 8 * x7828.toInt + 5) = (900 * v5283.toInt + 8 * x7828.toInt + 117) from by omega, hv7864]), (show RWM g0 (eA g0 233 3).toInt (2 + 8 * x7828.toInt + 6) = v7866.toInt from by (show (eA g0 233 (110 + 900 * (eA g0 233 3).toInt + (2 + 8 * x7828.toInt + 6))).toInt = _); rw [hv5283, show 110 + 900 * v5283.toInt + (2 + 8 * x7828.toInt + 6) = (900 * v5283.toInt + 8 * x7828.toInt + 118) from by omega, hv7866])]; omega) (WRN_e hr7902 (show RWM g0 (eA g0 233 3).toInt (2 + 8 * x7828.toInt + 5) = v7864.toInt from by (show (eA g0 233 (110 + 900 * (eA g0 233 3).toInt + (2 + 8 * x7828.toInt + 5))).toInt = _); rw [hv5283, show 110 + 900 * v5283.toInt + (2 + 8 * x7828.toInt + 5) = (900 * v5283.toInt + 8 * x7828.toInt + 117) from by omega, hv7864]) (show RWM g0 (eA g0 233 3).toInt (2 + 8 * x7828.toInt + 6) = v7866.toInt from by (show (eA g0 233 (110 + 900 * (eA g0 233 3).toInt + (2 + 8 * x7828.toInt + 6))).toInt = _); rw [hv5283, show 110 + 900 * v5283.toInt + (2 + 8 * x7828.toInt + 6) = (900 * v5283.toInt + 8 * x7828.toInt + 118) from by omega, hv7866])) q7847.1 (congrArg Int64.toInt hv7907) ((congrArg Int32.toInt hv7904).trans (by omega)) (by omega) L).trans (EVM_some (WRN_e hr7923 (show RWM g0 (eA g0 233 3).toInt (2 + 8 * x7828.toInt + 3) = v7916.toInt from by (show (eA g0 233 (110 + 900 * (eA g0 233 3).toInt + (2 + 8 * x7828.toInt + 3))).toInt = _); rw [hv5283, show 110 + 900 * v5283.toInt + (2 + 8 * x7828.toInt + 3) = (900 * v5283.toInt + 8 * x7828.toInt + 115) from by omega, hv7916]) (show RWM g0 (eA g0 233 3).toInt (2 + 8 * x7828.toInt + 4) = v7918.toInt from by (show (eA g0 233 (110 + 900 * (eA g0 233 3).toInt + (2 + 8 * x7828.toInt + 4))).toInt = _); rw [hv5283, show 110 + 900 * v5283.toInt + (2 + 8 * x7828.toInt + 4) = (900 * v5283.toInt + 8 * x7828.toInt + 116) from by omega, hv7918])) (MCX_c q7847.1 hr7902.1 (hF7900.2.1 233 ma_X11_reckonAll_231_233) (hF7900.1 231 27 mf_X11_reckonAll_231_231_27)) ((congrArg Int32.toInt hv7928).trans (by omega)) (congrArg Int64.toInt hv7925) L.1)) | exact TMI_some (MCX_c (MCX_c (MCX_c q7847.1 hr7902.1 (hF7900.2.1 233 ma_X11_reckonAll_231_233) (hF7900.1 231 27 mf_X11_reckonAll_231_231_27)) hr7923.1 (hF7921.2.1 233 ma_X11_reckonAll_231_233) (hF7921.1 231 27 mf_X11_reckonAll_231_231_27)) gK_sJ gA_sJ (gI_sJ_ne (by decide))) (by omega) (by omega) (show x7828.toInt < RWM g0 (eA g0 233 3).toInt 1 from by rw [show RWM g0 (eA g0 233 3).toInt 1 = v7853.toInt from by (show (eA g0 233 (110 + 900 * (eA g0 233 3).toInt + 1)).toInt = _); rw [hv5283, show 110 + 900 * v5283.toInt + 1 = (900 * v5283.toInt + 111) from by omega, hv7853]]; omega) (fun h1 => absurd h1 (by omega)) (fun h1 => absurd h1 (by omega))), (by rw [show RWM g0 (eA g0 233 3).toInt 1 = v7853.toInt from by (show (eA g0 233 (110 + 900 * (eA g0 233 3).toInt + 1)).toInt = _); rw [hv5283, show 110 + 900 * v5283.toInt + 1 = (900 * v5283.toInt + 111) from by omega, hv7853]]; omega)⟩ ⟨by omega, by omega⟩
                · have c7908_ : v7907.toInt = 0 := en_j_ne_f c7908
                  refine At.enter rfl ?_
                  refine r_iconst 0 rfl ?_
                  refine q_iretz (by decide) ?_
                  refine At.enter rfl ?_
                  refine r_ift (by decide) ?_
                  refine At.enter rfl ?_
                  refine q_iinc (w_p1 (by decide) (Or.inr rfl) e7845) (x7828.toInt + 1) rfl (by omega) (fun v7935 hv7935 => ?_)
                  refine r_goto ?_
                  exact ih7834 (12 - v7935.toInt) _ _ ⟨x7827, v7935, by first | rfl | omega, hI7899, hF7903, ((hF7900.1 231 27 mf_X11_reckonAll_231_231_27).trans e7835), (w_p1 (by decide) (Or.inr rfl) (w_p1 (by decide) (Or.inr rfl) e7836)), (w_p1 (by decide) (Or.inr rfl) (w_p1 (by decide) (Or.inr rfl) e7837)), (w_p1 (by decide) (Or.inr rfl) (w_p1 (by decide) (Or.inr rfl) e7838)), (w_p1 (by decide) (Or.inr rfl) (w_p1 (by decide) (Or.inr rfl) e7839)), (w_p1 (by decide) (Or.inr rfl) (w_p1 (by decide) (Or.inr rfl) e7840)), (w_p1 (by decide) (Or.inr rfl) (w_p1 (by decide) (Or.inr rfl) e7841)), (w_p1 (by decide) (Or.inl (by decide)) (w_p1 (by decide) (Or.inl (by decide)) e7842)), (w_p1 (by decide) (Or.inr rfl) (w_p1 (by decide) (Or.inr rfl) e7843)), (w_p1 (by decide) (Or.inl (by decide)) (w_p1 (by decide) (Or.inl (by decide)) e7844)), (w_e1 _ _ _), by omega, (TMI_none q7847 (MCX_c q7847.1 hr7902.1 (hF7900.2.1 233 ma_X11_reckonAll_231_233) (hF7900.1 231 27 mf_X11_reckonAll_231_231_27)) (by omega) (by omega) (show x7828.toInt < RWM g0 (eA g0 233 3).toInt 1 from by rw [show RWM g0 (eA g0 233 3).toInt 1 = v7853.toInt from by (show (eA g0 233 (110 + 900 * (eA g0 233 3).toInt + 1)).toInt = _); rw [hv5283, show 110 + 900 * v5283.toInt + 1 = (900 * v5283.toInt + 111) from by omega, hv7853]]; omega) (fun h1 L => by first | exact CMW_no (by rw [(show RWM g0 (eA g0 233 3).toInt (2 + 8 * x7828.toInt + 5) = v7864.toInt from by (show (eA g0 233 (110 + 900 * (eA g0 233 3).toInt + (2 + 8 * x7828.toInt + 5))).toInt = _); rw [hv5283, show 110 + 900 * v5283.toInt + (2 + 8 * x7828.toInt + 5) = (900 * v5283.toInt + 8 * x7828.toInt + 117) from by omega, hv7864]), (show RWM g0 (eA g0 233 3).toInt (2 + 8 * x7828.toInt + 6) = v7866.toInt from by (show (eA g0 233 (110 + 900 * (eA g0 233 3).toInt + (2 + 8 * x7828.toInt + 6))).toInt = _); rw [hv5283, show 110 + 900 * v5283.toInt + (2 + 8 * x7828.toInt + 6) = (900 * v5283.toInt + 8 * x7828.toInt + 118) from by omega, hv7866])]; omega) (WRN_e hr7902 (show RWM g0 (eA g0 233 3).toInt (2 + 8 * x7828.toInt + 5) = v7864.toInt from by (show (eA g0 233 (110 + 900 * (eA g0 233 3).toInt + (2 + 8 * x7828.toInt + 5))).toInt = _); rw [hv5283, show 110 + 900 * v5283.toInt + (2 + 8 * x7828.toInt + 5) = (900 * v5283.toInt + 8 * x7828.toInt + 117) from by omega, hv7864]) (show RWM g0 (eA g0 233 3).toInt (2 + 8 * x7828.toInt + 6) = v7866.toInt from by (show (eA g0 233 (110 + 900 * (eA g0 233 3).toInt + (2 + 8 * x7828.toInt + 6))).toInt = _); rw [hv5283, show 110 + 900 * v5283.toInt + (2 + 8 * x7828.toInt + 6) = (900 * v5283.toInt + 8 * x7828.toInt + 118) from by omega, hv7866])) q7847.1 (congrArg Int64.toInt hv7907) (Or.inl (by rw [hv7904]; omega)) L | exact CMW_no (by rw [(show RWM g0 (eA g0 233 3).toInt (2 + 8 * x7828.toInt + 5) = v7864.toInt from by (show (eA g0 233 (110 + 900 * (eA g0 233 3).toInt + (2 + 8 * x7828.toInt + 5))).toInt = _); rw [hv5283, show 110 + 900 * v5283.toInt + (2 + 8 * x7828.toInt + 5) = (900 * v5283.toInt + 8 * x7828.toInt + 117) from by omega, hv7864]), (show RWM g0 (eA g0 233 3).toInt (2 + 8 * x7828.toInt + 6) = v7866.toInt from by (show (eA g0 233 (110 + 900 * (eA g0 233 3).toInt + (2 + 8 * x7828.toInt + 6))).toInt = _); rw [hv5283, show 110 + 900 * v5283.toInt + (2 + 8 * x7828.toInt + 6) = (900 * v5283.toInt + 8 * x7828.toInt + 118) from by omega, hv7866])]; omega) (WRN_e hr7902 (show RWM g0 (eA g0 233 3).toInt (2 + 8 * x7828.toInt + 5) = v7864.toInt from by (show (eA g0 233 (110 + 900 * (eA g0 233 3).toInt + (2 + 8 * x7828.toInt + 5))).toInt = _); rw [hv5283, show 110 + 900 * v5283.toInt + (2 + 8 * x7828.toInt + 5) = (900 * v5283.toInt + 8 * x7828.toInt + 117) from by omega, hv7864]) (show RWM g0 (eA g0 233 3).toInt (2 + 8 * x7828.toInt + 6) = v7866.toInt from by (show (eA g0 233 (110 + 900 * (eA g0 233 3).toInt + (2 + 8 * x7828.toInt + 6))).toInt = _); rw [hv5283, show 110 + 900 * v5283.toInt + (2 + 8 * x7828.toInt + 6) = (900 * v5283.toInt + 8 * x7828.toInt + 118) from by omega, hv7866])) q7847.1 (congrArg Int64.toInt hv7907) (Or.inr (by omega)) L)), (by rw [show RWM g0 (eA g0 233 3).toInt 1 = v7853.toInt from by (show (eA g0 233 (110 + 900 * (eA g0 233 3).toInt + 1)).toInt = _); rw [hv5283, show 110 + 900 * v5283.toInt + 1 = (900 * v5283.toInt + 111) from by omega, hv7853]]; omega)⟩ ⟨by omega, by omega⟩
  · have c5284_ : v5283.toInt = (-1) := en_i_ne_f c5284
    refine At.enter rfl ?_
    refine r_lload rfl ?_
    refine r_lret ?_
    exact ⟨_, rfl, hI0, hF0, _, rfl, trivial, (show TEM g0 _ _ _ _ _ _ _ _ from ⟨fun _ => rfl, fun z => absurd z (by have e := congrArg Int32.toInt hv5283; omega)⟩)⟩
