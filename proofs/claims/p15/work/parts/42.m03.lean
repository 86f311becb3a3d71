def F_X11_tells_231 : List (Nat × Nat) := [(231, 27), (231, 30), (231, 31), (231, 32)]
def A_X11_tells_231 : List Nat := []
theorem mf_X11_reckonAll_231_231_27 : memF F_X11_reckonAll_231 231 27 = false := by decide
theorem ma_X11_reckonAll_231_233 : memA A_X11_reckonAll_231 233 = false := by decide
theorem mf_X11_reckonAll_231_231_32 : memF F_X11_reckonAll_231 231 32 = false := by decide
set_option maxRecDepth 100000 in
set_option maxHeartbeats 4000000 in
theorem T_X11_tells_231 (d : Nat) {N : Nat} {g0 : List en_E} (hI0 : HI g0) (a1 : Int32) (a2 : Int32) (h_a2 : 0 ≤ a2.toInt ∧ a2.toInt ≤ 7) (a3 : Int32) (h_a3 : 0 ≤ a3.toInt ∧ a3.toInt ≤ 11) (a4 : Int32) (a5 : Int32) (a6 : Int64) : Ev (d + 4) 216 [.ref 231, .int a1, .int a2, .int a3, .int a4, .int a5, .long a6] (g0, N) (fun w h' => ∃ g', h' = (g', N) ∧ HI g' ∧ Fr F_X11_tells_231 A_X11_tells_231 g0 g' ∧ ∃ r : Int64, w = some (.long r) ∧ True) := by
  have hF0 : Fr F_X11_tells_231 A_X11_tells_231 g0 g0 := Fr.rf
  refine Ev.mk rfl rfl ⟨Nat.le_of_ble_eq_true rfl, Or.inr (q_rc hI0.1 kx_231 rfl)⟩ ?_
  show At _ none _ _ (0, [(0, .ref 231), (1, .int a1), (2, .int a2), (3, .int a3), (4, .int a4), (5, .int a5), (6, .long a6)], [], (_, _)) _
  refine At.enter rfl ?_
  refine r_aload_n rfl ?_
  refine q_getR (Sh.ref hI0.1 kx_231 rfl) ?_
  refine r_iconst 3 rfl ?_
  obtain ⟨v5271, hv5271⟩ : ∃ v, eA g0 233 3 = v := ⟨_, rfl⟩
  have wv5271 := HI.t3 hI0
  rw [hv5271] at wv5271
  refine q_iald (Sh.arr hI0.1 ka_233) 3 rfl (by decide) v5271 hv5271 ?_
  refine r_iconst (-1) rfl ?_
  refine r_ics 10 rfl (fun c5272 => ?_) (fun c5272 => ?_)
  · have c5272_ : v5271.toInt ≠ (-1) := en_i_ne_t c5272
    refine At.enter rfl ?_
    refine r_aload_n rfl ?_
    refine r_bipush 110 rfl ?_
    refine r_sipush 900 rfl ?_
    refine r_aload_n rfl ?_
    refine q_getR (Sh.ref hI0.1 kx_231 rfl) ?_
    refine r_iconst 3 rfl ?_
    refine q_iald (Sh.arr hI0.1 ka_233) 3 rfl (by decide) v5271 hv5271 ?_
    refine q_imul (900 * v5271.toInt) rfl (by omega) (fun v5273 hv5273 => ?_)
    refine q_iadd (110 + v5273.toInt) rfl (by omega) (fun v5274 hv5274 => ?_)
    refine q_putI (Sh.int hI0.1 kx_231 rfl) rfl ?_
    have hI5275 := HI.wI1 hI0 kx_231 rfl (p := 231) (b := 27) (v := v5274) rfl (by dsimp only; omega)
    have hF5276 := Fr.wI (p := 231) (b := 27) (v := v5274) hF0 rfl
    refine r_aload_n rfl ?_
    refine r_iload_n rfl ?_
    refine r_iconst 0 rfl ?_
    refine q_inlV 36 rfl [.ref 231, .int a3, .int 0] [] (Nat.le_of_ble_eq_true rfl) rfl ?_
    refine Ev.mk rfl rfl ⟨Nat.le_of_ble_eq_true rfl, Or.inr (q_rc hI5275.1 kx_231 rfl)⟩ ?_
    show At _ none _ _ (0, [(0, .ref 231), (1, .int a3), (2, .int 0)], [], (_, _)) _
    refine At.enter rfl ?_
    refine r_aload_n rfl ?_
    refine q_getR (Sh.ref hI5275.1 kx_231 rfl) ?_
    refine r_bipush 10 rfl ?_
    refine r_iconst 3 rfl ?_
    refine r_iload_n rfl ?_
    refine q_imul (3 * a3.toInt) rfl (by omega) (fun v5277 hv5277 => ?_)
    refine q_iadd (10 + v5277.toInt) rfl (by omega) (fun v5278 hv5278 => ?_)
    refine r_iload_n rfl ?_
    refine q_iadd (v5278.toInt + 0) rfl (by omega) (fun v5279 hv5279 => ?_)
    obtain ⟨v5280, hv5280⟩ : ∃ v, eA g0 233 (3 * a3.toInt + 10) = v := ⟨_, rfl⟩
    have wv5280 := HI.s0 hI0 (j := (3 * a3.toInt + 10)) (a3.toInt) (by omega) (by omega)
    rw [hv5280] at wv5280
    refine q_iald (Sh.arr hI5275.1 ka_233) (3 * a3.toInt + 10) (by omega) (by omega) v5280 ((eA_c (gA_sI)).trans hv5280) ?_
    refine q_ireti ?_
    refine At.enter rfl ?_
    refine r_istore ([(8, .int v5280), (0, .ref 231), (1, .int a1), (2, .int a2), (3, .int a3), (4, .int a4), (5, .int a5), (6, .long a6)]) rfl ?_
    refine r_aload_n rfl ?_
    refine q_getR (Sh.ref hI5275.1 kx_231 rfl) ?_
    refine r_iconst 1 rfl ?_
    refine r_iload_n rfl ?_
    refine q_i2l (fun v5281 hv5281 => ?_)
    refine q_last (Sh.lar hI5275.1 ka_244) (1) rfl (by decide) ?_
    have hI5282 := HI.wK hI5275 ka_244 (1) (v5281) (by decide)
    have hF5283 := Fr.wK (p := 244) (j := 1) (v := v5281) hF5276
    refine r_aload_n rfl ?_
    refine q_getR (Sh.ref hI5282.1 kx_231 rfl) ?_
    refine r_iconst 2 rfl ?_
    refine r_aload_n rfl ?_
    refine r_iload_n rfl ?_
    refine r_iconst 0 rfl ?_
    refine q_inlV 57 rfl [.ref 231, .int a2, .int 0] [.int 2, .ref 244] (Nat.le_of_ble_eq_true rfl) rfl ?_
    refine Ev.mk rfl rfl ⟨Nat.le_of_ble_eq_true rfl, Or.inr (q_rc hI5282.1 kx_231 rfl)⟩ ?_
    show At _ none _ _ (0, [(0, .ref 231), (1, .int a2), (2, .int 0)], [], (_, _)) _
    refine At.enter rfl ?_
    refine r_aload_n rfl ?_
    refine q_getR (Sh.ref hI5282.1 kx_231 rfl) ?_
    refine r_bipush 46 rfl ?_
    refine r_bipush 6 rfl ?_
    refine r_iload_n rfl ?_
    refine q_imul (6 * a2.toInt) rfl (by omega) (fun v5284 hv5284 => ?_)
    refine q_iadd (46 + v5284.toInt) rfl (by omega) (fun v5285 hv5285 => ?_)
    refine r_iload_n rfl ?_
    refine q_iadd (v5285.toInt + 0) rfl (by omega) (fun v5286 hv5286 => ?_)
    obtain ⟨v5287, hv5287⟩ : ∃ v, eA g0 233 (6 * a2.toInt + 46) = v := ⟨_, rfl⟩
    have wv5287 := HI.l0 hI0 (j := (6 * a2.toInt + 46)) (a2.toInt) (by omega) (by omega)
    rw [hv5287] at wv5287
    refine q_iald (Sh.arr hI5282.1 ka_233) (6 * a2.toInt + 46) (by omega) (by omega) v5287 ((eA_c ((gA_sX).trans (gA_sI))).trans hv5287) ?_
    refine q_ireti ?_
    refine At.enter rfl ?_
    refine q_i2l (fun v5288 hv5288 => ?_)
    refine q_last (Sh.lar hI5282.1 ka_244) (2) rfl (by decide) ?_
    have hI5289 := HI.wK hI5282 ka_244 (2) (v5288) (by decide)
    have hF5290 := Fr.wK (p := 244) (j := 2) (v := v5288) hF5283
    refine r_aload_n rfl ?_
    refine q_getR (Sh.ref hI5289.1 kx_231 rfl) ?_
    refine r_iconst 3 rfl ?_
    refine r_aload_n rfl ?_
    refine r_iload_n rfl ?_
    refine r_iconst 4 rfl ?_
    refine q_inlV 70 rfl [.ref 231, .int a2, .int 4] [.int 3, .ref 244] (Nat.le_of_ble_eq_true rfl) rfl ?_
    refine Ev.mk rfl rfl ⟨Nat.le_of_ble_eq_true rfl, Or.inr (q_rc hI5289.1 kx_231 rfl)⟩ ?_
    show At _ none _ _ (0, [(0, .ref 231), (1, .int a2), (2, .int 4)], [], (_, _)) _
    refine At.enter rfl ?_
    refine r_aload_n rfl ?_
    refine q_getR (Sh.ref hI5289.1 kx_231 rfl) ?_
    refine r_bipush 46 rfl ?_
    refine r_bipush 6 rfl ?_
    refine r_iload_n rfl ?_
    refine q_imul (6 * a2.toInt) rfl (by omega) (fun v5291 hv5291 => ?_)
    refine q_iadd (46 + v5291.toInt) rfl (by omega) (fun v5292 hv5292 => ?_)
    refine r_iload_n rfl ?_
    refine q_iadd (v5292.toInt + 4) rfl (by omega) (fun v5293 hv5293 => ?_)
    obtain ⟨v5294, hv5294⟩ : ∃ v, eA g0 233 (6 * a2.toInt + 50) = v := ⟨_, rfl⟩
    have wv5294 := HI.l4 hI0 (j := (6 * a2.toInt + 50)) (a2.toInt) (by omega) (by omega)
    rw [hv5294] at wv5294
    refine q_iald (Sh.arr hI5289.1 ka_233) (6 * a2.toInt + 50) (by omega) (by omega) v5294 ((eA_c ((gA_sX).trans ((gA_sX).trans (gA_sI)))).trans hv5294) ?_
    refine q_ireti ?_
    refine At.enter rfl ?_
    refine q_i2l (fun v5295 hv5295 => ?_)
    refine q_last (Sh.lar hI5289.1 ka_244) (3) rfl (by decide) ?_
    have hI5296 := HI.wK hI5289 ka_244 (3) (v5295) (by decide)
    have hF5297 := Fr.wK (p := 244) (j := 3) (v := v5295) hF5290
    refine r_aload_n rfl ?_
    refine q_getR (Sh.ref hI5296.1 kx_231 rfl) ?_
    refine r_iconst 4 rfl ?_
    refine r_iload_n rfl ?_
    refine q_i2l (fun v5298 hv5298 => ?_)
    refine q_last (Sh.lar hI5296.1 ka_244) (4) rfl (by decide) ?_
    have hI5299 := HI.wK hI5296 ka_244 (4) (v5298) (by decide)
    have hF5300 := Fr.wK (p := 244) (j := 4) (v := v5298) hF5297
    refine r_aload_n rfl ?_
    refine q_getR (Sh.ref hI5299.1 kx_231 rfl) ?_
    refine r_iconst 5 rfl ?_
    refine r_aload_n rfl ?_
    refine r_iload rfl ?_
    refine q_inlV 91 rfl [.ref 231, .int v5280] [.int 5, .ref 244] (Nat.le_of_ble_eq_true rfl) rfl ?_
    refine Ev.mk rfl rfl ⟨Nat.le_of_ble_eq_true rfl, Or.inr (q_rc hI5299.1 kx_231 rfl)⟩ ?_
    show At _ none _ _ (0, [(0, .ref 231), (1, .int v5280)], [], (_, _)) _
    refine At.enter rfl ?_
    refine r_iload_n rfl ?_
    refine q_i2l (fun v5301 hv5301 => ?_)
    refine r_lconst 0 rfl ?_
    refine r_aload_n rfl ?_
    refine q_getR (Sh.ref hI5299.1 kx_231 rfl) ?_
    refine r_iconst 0 rfl ?_
    obtain ⟨v5302, hv5302⟩ : ∃ v, eA g0 233 0 = v := ⟨_, rfl⟩
    have tv5302 := congrArg Int32.toInt hv5302
    have wv5302 := HI.t0 hI0
    rw [hv5302] at wv5302
    refine q_iald (Sh.arr hI5299.1 ka_233) 0 rfl (by decide) v5302 ((eA_c ((gA_sX).trans ((gA_sX).trans ((gA_sX).trans ((gA_sX).trans (gA_sI)))))).trans hv5302) ?_
    refine q_i2l (fun v5303 hv5303 => ?_)
    refine r_lconst 1 rfl ?_
    refine q_lsub (v5303.toInt - 1) rfl (by omega) (fun v5304 hv5304 => ?_)
    refine q_inlS 15 rfl [.long v5301, .long 0, .long v5304] [] (Nat.le_of_ble_eq_true rfl) rfl ?_
    refine Ev.mk rfl rfl ⟨Nat.le_of_ble_eq_true rfl, Or.inl rfl⟩ ?_
    show At _ none _ _ (0, [(0, .long v5301), (2, .long 0), (4, .long v5304)], [], (_, _)) _
    refine At.enter rfl ?_
    refine r_lload_n rfl ?_
    refine r_lload_n rfl ?_
    refine r_lcmp _ rfl ?_
    refine r_ifs 6 rfl (fun c5305 => ?_) (fun c5305 => ?_)
    · have c5305_ : v5301.toInt < 0 := en_j_lt_t c5305
      refine At.enter rfl ?_
      refine r_iconst 0 rfl ?_
      refine Ar.fall 18 rfl ?_
      refine At.enter rfl ?_
      refine q_iretz (by decide) ?_
      refine At.enter rfl ?_
      refine q_iretz (by decide) ?_
      refine At.enter rfl ?_
      refine r_ift (by decide) ?_
      refine At.enter rfl ?_
      refine r_ldc2 (-1) rfl ?_
      refine Ar.fall 103 rfl ?_
      refine At.enter rfl ?_
      refine q_last (Sh.lar hI5299.1 ka_244) (5) rfl (by decide) ?_
      have hI5306 := HI.wK hI5299 ka_244 (5) ((-1)) (by decide)
      have hF5307 := Fr.wK (p := 244) (j := 5) (v := (-1)) hF5300
      refine r_aload_n rfl ?_
      refine q_getR (Sh.ref hI5306.1 kx_231 rfl) ?_
      refine r_bipush 6 rfl ?_
      refine r_iload rfl ?_
      refine q_i2l (fun v5308 hv5308 => ?_)
      refine q_last (Sh.lar hI5306.1 ka_244) (6) rfl (by decide) ?_
      have hI5309 := HI.wK hI5306 ka_244 (6) (v5308) (by decide)
      have hF5310 := Fr.wK (p := 244) (j := 6) (v := v5308) hF5307
      refine r_aload_n rfl ?_
      refine q_getR (Sh.ref hI5309.1 kx_231 rfl) ?_
      refine r_bipush 7 rfl ?_
      refine r_iload rfl ?_
      refine q_i2l (fun v5311 hv5311 => ?_)
      refine q_last (Sh.lar hI5309.1 ka_244) (7) rfl (by decide) ?_
      have hI5312 := HI.wK hI5309 ka_244 (7) (v5311) (by decide)
      have hF5313 := Fr.wK (p := 244) (j := 7) (v := v5311) hF5310
      refine r_aload_n rfl ?_
      refine q_getR (Sh.ref hI5312.1 kx_231 rfl) ?_
      refine r_bipush 8 rfl ?_
      refine r_aload_n rfl ?_
      refine q_getR (Sh.ref hI5312.1 kx_231 rfl) ?_
      refine r_iload_n rfl ?_
      obtain ⟨v5314, hv5314⟩ : ∃ v, eA g0 246 a3.toInt = v := ⟨_, rfl⟩
      refine q_iald (Sh.arr hI5312.1 ka_246) a3.toInt rfl (by omega) v5314 ((eA_c ((gA_sX).trans ((gA_sX).trans ((gA_sX).trans ((gA_sX).trans ((gA_sX).trans ((gA_sX).trans ((gA_sX).trans (gA_sI))))))))).trans hv5314) ?_
      refine q_i2l (fun v5315 hv5315 => ?_)
      refine q_last (Sh.lar hI5312.1 ka_244) (8) rfl (by decide) ?_
      have hI5316 := HI.wK hI5312 ka_244 (8) (v5315) (by decide)
      have hF5317 := Fr.wK (p := 244) (j := 8) (v := v5315) hF5313
      refine r_aload_n rfl ?_
      refine q_getR (Sh.ref hI5316.1 kx_231 rfl) ?_
      refine r_bipush 9 rfl ?_
      refine r_aload_n rfl ?_
      refine q_getR (Sh.ref hI5316.1 kx_231 rfl) ?_
      refine r_iload_n rfl ?_
      obtain ⟨v5318, hv5318⟩ : ∃ v, eA g0 247 a3.toInt = v := ⟨_, rfl⟩
      refine q_iald (Sh.arr hI5316.1 ka_247) a3.toInt rfl (by omega) v5318 ((eA_c ((gA_sX).trans ((gA_sX).trans ((gA_sX).trans ((gA_sX).trans ((gA_sX).trans ((gA_sX).trans ((gA_sX).trans ((gA_sX).trans (gA_sI)))))))))).trans hv5318) ?_
      refine q_i2l (fun v5319 hv5319 => ?_)
      refine q_last (Sh.lar hI5316.1 ka_244) (9) rfl (by decide) ?_
      have hI5320 := HI.wK hI5316 ka_244 (9) (v5319) (by decide)
      have hF5321 := Fr.wK (p := 244) (j := 9) (v := v5319) hF5317
      refine r_lload rfl ?_
      refine r_lstore ([(9, .long a6), (8, .int v5280), (0, .ref 231), (1, .int a1), (2, .int a2), (3, .int a3), (4, .int a4), (5, .int a5), (6, .long a6)]) rfl ?_
      refine r_iconst 0 rfl ?_
      refine r_istore ([(11, .int 0), (9, .long a6), (8, .int v5280), (0, .ref 231), (1, .int a1), (2, .int a2), (3, .int a3), (4, .int a4), (5, .int a5), (6, .long a6)]) rfl ?_
      refine Ar.fall 159 rfl ?_
      have z_6089 : (0 : Int32).toInt = 0 := rfl
      refine w_loopI (fun n_ l_ g_ => ∃ x6069 : Int64, ∃ x6070 : Int32, n_ = 12 - x6070.toInt ∧ HI g_ ∧ Fr F_X11_tells_231 A_X11_tells_231 g0 g_ ∧ gI g_ 231 27 = v5274 ∧ en_get 0 l_ = some (.ref 231) ∧ en_get 1 l_ = some (.int a1) ∧ en_get 2 l_ = some (.int a2) ∧ en_get 3 l_ = some (.int a3) ∧ en_get 4 l_ = some (.int a4) ∧ en_get 5 l_ = some (.int a5) ∧ en_get 6 l_ = some (.long a6) ∧ en_get 8 l_ = some (.int v5280) ∧ en_get 9 l_ = some (.long x6069) ∧ en_get 11 l_ = some (.int x6070) ∧ (0 ≤ x6070.toInt ∧ x6070.toInt ≤ 12)) ?_ (12 - 0) ⟨a6, 0, by first | rfl | omega, hI5320, hF5321, ((gI_sX).trans ((gI_sX).trans ((gI_sX).trans ((gI_sX).trans ((gI_sX).trans ((gI_sX).trans ((gI_sX).trans ((gI_sX).trans ((gI_sX).trans (gI_sI_eq hI0.1 kx_231 rfl _)))))))))), rfl, rfl, rfl, rfl, rfl, rfl, rfl, rfl, rfl, rfl, by decide⟩
      rintro n6075 l6074 g6071 ⟨x6069, x6070, hm6090, hI6072, hF6073, e6077, e6078, e6079, e6080, e6081, e6082, e6083, e6084, e6085, e6086, e6087, r6088⟩ ih6076
      have tv6091 := congrArg Int32.toInt e6077
      refine At.enter rfl ?_
      refine r_iload e6087 ?_
      refine r_aload_n e6078 ?_
      refine q_getR (Sh.ref hI6072.1 kx_231 rfl) ?_
      refine r_aload_n e6078 ?_
      refine q_getI (Sh.int hI6072.1 kx_231 rfl) v5274 e6077 ?_
      refine r_iconst 1 rfl ?_
      refine q_iadd (v5274.toInt + 1) rfl (by omega) (fun v6092 hv6092 => ?_)
      obtain ⟨v6093, hv6093⟩ : ∃ v, eA g0 233 (900 * v5271.toInt + 111) = v := ⟨_, rfl⟩
      have wv6093 := HI.lawn hI0 (j := v5271.toInt) (i := (900 * v5271.toInt + 111)) ⟨by omega, by omega⟩ (by omega)
      rw [hv6093] at wv6093
      refine q_iald (Sh.arr hI6072.1 ka_233) (900 * v5271.toInt + 111) (by omega) (by omega) v6093 ((eA_c (hF6073.2.1 233 (by decide))).trans hv6093) ?_
      have bv6095 := q_bnd x6070
      have bv6096 := q_bnd v6093
      refine r_ics 175 rfl (fun c6094 => ?_) (fun c6094 => ?_)
      · have c6094_ : x6070.toInt ≥ v6093.toInt := en_i_ge_t c6094
        refine At.enter rfl ?_
        refine r_lload e6086 ?_
        refine r_lret ?_
        exact ⟨_, rfl, hI6072, hF6073, _, rfl, trivial⟩
      · have c6094_ : x6070.toInt < v6093.toInt := en_i_ge_f c6094
        refine At.enter rfl ?_
        refine r_aload_n e6078 ?_
        refine q_getI (Sh.int hI6072.1 kx_231 rfl) v5274 e6077 ?_
        refine r_iconst 2 rfl ?_
        refine q_iadd (v5274.toInt + 2) rfl (by omega) (fun v6097 hv6097 => ?_)
        refine r_bipush 8 rfl ?_
        refine r_iload e6087 ?_
        refine q_imul (8 * x6070.toInt) rfl (by omega) (fun v6098 hv6098 => ?_)
        refine q_iadd (v6097.toInt + v6098.toInt) rfl (by omega) (fun v6099 hv6099 => ?_)
        refine r_istore _ rfl ?_
        refine r_aload_n (w_p1 (by decide) (Or.inr rfl) e6078) ?_
        refine q_getR (Sh.ref hI6072.1 kx_231 rfl) ?_
        refine r_iload (w_e1 _ _ _) ?_
        obtain ⟨v6100, hv6100⟩ : ∃ v, eA g0 233 (900 * v5271.toInt + 8 * x6070.toInt + 112) = v := ⟨_, rfl⟩
        refine q_iald (Sh.arr hI6072.1 ka_233) (900 * v5271.toInt + 8 * x6070.toInt + 112) (by omega) (by omega) v6100 ((eA_c (hF6073.2.1 233 (by decide))).trans hv6100) ?_
        refine r_iload_n (w_p1 (by decide) (Or.inr rfl) e6079) ?_
        refine r_ics 200 rfl (fun c6101 => ?_) (fun c6101 => ?_)
        · have c6101_ : v6100.toInt ≠ a1.toInt := en_i_ne_t c6101
          refine At.enter rfl ?_
          refine q_iinc (w_p1 (by decide) (Or.inr rfl) e6087) (x6070.toInt + 1) rfl (by omega) (fun v6102 hv6102 => ?_)
          refine r_goto ?_
          exact ih6076 (12 - v6102.toInt) _ _ ⟨x6069, v6102, by first | rfl | omega, hI6072, hF6073, e6077, (w_p1 (by decide) (Or.inr rfl) (w_p1 (by decide) (Or.inr rfl) e6078)), (w_p1 (by decide) (Or.inr rfl) (w_p1 (by decide) (Or.inr rfl) e6079)), (w_p1 (by decide) (Or.inr rfl) (w_p1 (by decide) (Or.inr rfl) e6080)), (w_p1 (by decide) (Or.inr rfl) (w_p1 (by decide) (Or.inr rfl) e6081)), (w_p1 (by decide) (Or.inr rfl) (w_p1 (by decide) (Or.inr rfl) e6082)), (w_p1 (by decide) (Or.inr rfl) (w_p1 (by decide) (Or.inr rfl) e6083)), (w_p1 (by decide) (Or.inl (by decide)) (w_p1 (by decide) (Or.inl (by decide)) e6084)), (w_p1 (by decide) (Or.inr rfl) (w_p1 (by decide) (Or.inr rfl) e6085)), (w_p1 (by decide) (Or.inl (by decide)) (w_p1 (by decide) (Or.inl (by decide)) e6086)), (w_e1 _ _ _), by omega⟩ ⟨by omega, by omega⟩
        · have c6101_ : v6100.toInt = a1.toInt := en_i_ne_f c6101
          refine At.enter rfl ?_
          refine r_aload_n (w_p1 (by decide) (Or.inr rfl) e6078) ?_
          refine r_iload (w_e1 _ _ _) ?_
          refine q_inlV 206 rfl [.ref 231, .int v6099] [] (Nat.le_of_ble_eq_true rfl) rfl ?_
          refine Ev.mk rfl rfl ⟨Nat.le_of_ble_eq_true rfl, Or.inr (q_rc hI6072.1 kx_231 rfl)⟩ ?_
          show At _ none _ _ (0, [(0, .ref 231), (1, .int v6099)], [], (_, _)) _
          refine At.enter rfl ?_
          refine r_aload_n rfl ?_
          refine q_getR (Sh.ref hI6072.1 kx_231 rfl) ?_
          refine r_iload_n rfl ?_
          refine r_iconst 5 rfl ?_
          refine q_iadd (v6099.toInt + 5) rfl (by omega) (fun v6103 hv6103 => ?_)
          obtain ⟨v6104, hv6104⟩ : ∃ v, eA g0 233 (900 * v5271.toInt + 8 * x6070.toInt + 117) = v := ⟨_, rfl⟩
          refine q_iald (Sh.arr hI6072.1 ka_233) (900 * v5271.toInt + 8 * x6070.toInt + 117) (by omega) (by omega) v6104 ((eA_c (hF6073.2.1 233 (by decide))).trans hv6104) ?_
          refine r_aload_n rfl ?_
          refine q_getR (Sh.ref hI6072.1 kx_231 rfl) ?_
          refine r_iload_n rfl ?_
          refine r_bipush 6 rfl ?_
          refine q_iadd (v6099.toInt + 6) rfl (by omega) (fun v6105 hv6105 => ?_)
          obtain ⟨v6106, hv6106⟩ : ∃ v, eA g0 233 (900 * v5271.toInt + 8 * x6070.toInt + 118) = v := ⟨_, rfl⟩
          refine q_iald (Sh.arr hI6072.1 ka_233) (900 * v5271.toInt + 8 * x6070.toInt + 118) (by omega) (by omega) v6106 ((eA_c (hF6073.2.1 233 (by decide))).trans hv6106) ?_
          have bv6108 := q_bnd v6104
          have bv6109 := q_bnd v6106
          refine r_ics 20 rfl (fun c6107 => ?_) (fun c6107 => ?_)
          · have c6107_ : v6104.toInt ≥ v6106.toInt := en_i_ge_t c6107
            refine At.enter rfl ?_
            refine r_aload_n rfl ?_
            refine q_getR (Sh.ref hI6072.1 kx_231 rfl) ?_
            refine r_iload_n rfl ?_
            refine q_iald (Sh.arr hI6072.1 ka_233) (900 * v5271.toInt + 8 * x6070.toInt + 112) (by omega) (by omega) v6100 ((eA_c (hF6073.2.1 233 (by decide))).trans hv6100) ?_
            refine r_iconst 2 rfl ?_
            refine r_ics 69 rfl (fun c6110 => ?_) (fun c6110 => ?_)
            · have c6110_ : v6100.toInt ≥ 2 := en_i_ge_t c6110
              refine At.enter rfl ?_
              refine r_iconst 1 rfl ?_
              refine q_iretz (by decide) ?_
              refine At.enter rfl ?_
              refine r_iff 209 rfl (by decide) ?_
              refine At.enter rfl ?_
              refine r_iload_n (w_p1 (by decide) (Or.inr rfl) e6079) ?_
              refine r_iconst 2 rfl ?_
              refine r_ics 214 rfl (fun c6111 => ?_) (fun c6111 => ?_)
              · have c6111_ : a1.toInt ≥ 2 := en_i_ge_t c6111
                refine At.enter rfl ?_
                refine r_lconst 1 rfl ?_
                refine Ar.fall 222 rfl ?_
                refine At.enter rfl ?_
                refine r_lstore _ rfl ?_
                refine Ar.fall 224 rfl ?_
                refine At.enter rfl ?_
                refine q_iinc (w_p2 (by decide) (by decide) (Or.inr rfl) (w_p1 (by decide) (Or.inr rfl) e6087)) (x6070.toInt + 1) rfl (by omega) (fun v6112 hv6112 => ?_)
                refine r_goto ?_
                exact ih6076 (12 - v6112.toInt) _ _ ⟨1, v6112, by first | rfl | omega, hI6072, hF6073, e6077, (w_p1 (by decide) (Or.inr rfl) (w_p2 (by decide) (by decide) (Or.inr rfl) (w_p1 (by decide) (Or.inr rfl) e6078))), (w_p1 (by decide) (Or.inr rfl) (w_p2 (by decide) (by decide) (Or.inr rfl) (w_p1 (by decide) (Or.inr rfl) e6079))), (w_p1 (by decide) (Or.inr rfl) (w_p2 (by decide) (by decide) (Or.inr rfl) (w_p1 (by decide) (Or.inr rfl) e6080))), (w_p1 (by decide) (Or.inr rfl) (w_p2 (by decide) (by decide) (Or.inr rfl) (w_p1 (by decide) (Or.inr rfl) e6081))), (w_p1 (by decide) (Or.inr rfl) (w_p2 (by decide) (by decide) (Or.inr rfl) (w_p1 (by decide) (Or.inr rfl) e6082))), (w_p1 (by decide) (Or.inr rfl) (w_p2 (by decide) (by decide) (Or.inr rfl) (w_p1 (by decide) (Or.inr rfl) e6083))), (w_p1 (by decide) (Or.inl (by decide)) (w_p2 (by decide) (by decide) (Or.inl (by decide)) (w_p1 (by decide) (Or.inl (by decide)) e6084))), (w_p1 (by decide) (Or.inr rfl) (w_p2 (by decide) (by decide) (Or.inr rfl) (w_p1 (by decide) (Or.inr rfl) e6085))), (w_p1 (by decide) (Or.inl (by decide)) (w_e2 _ _ _)), (w_e1 _ _ _), by omega⟩ ⟨by omega, by omega⟩
              · have c6111_ : a1.toInt < 2 := en_i_ge_f c6111
                refine At.enter rfl ?_
                refine r_aload_n (w_p1 (by decide) (Or.inr rfl) e6078) ?_
                obtain ⟨v6113, hv6113⟩ : ∃ v, gJ g6071 231 32 = v := ⟨_, rfl⟩
                refine q_getJv (Sh.long hI6072.1 kx_231 rfl) v6113 hv6113 ?_
                refine r_goto ?_
                refine At.enter rfl ?_
                refine r_lstore _ rfl ?_
                refine Ar.fall 224 rfl ?_
                refine At.enter rfl ?_
                refine q_iinc (w_p2 (by decide) (by decide) (Or.inr rfl) (w_p1 (by decide) (Or.inr rfl) e6087)) (x6070.toInt + 1) rfl (by omega) (fun v6114 hv6114 => ?_)
                refine r_goto ?_
                exact ih6076 (12 - v6114.toInt) _ _ ⟨v6113, v6114, by first | rfl | omega, hI6072, hF6073, e6077, (w_p1 (by decide) (Or.inr rfl) (w_p2 (by decide) (by decide) (Or.inr rfl) (w_p1 (by decide) (Or.inr rfl) e6078))), (w_p1 (by decide) (Or.inr rfl) (w_p2 (by decide) (by decide) (Or.inr rfl) (w_p1 (by decide) (Or.inr rfl) e6079))), (w_p1 (by decide) (Or.inr rfl) (w_p2 (by decide) (by decide) (Or.inr rfl) (w_p1 (by decide) (Or.inr rfl) e6080))), (w_p1 (by decide) (Or.inr rfl) (w_p2 (by decide) (by decide) (Or.inr rfl) (w_p1 (by decide) (Or.inr rfl) e6081))), (w_p1 (by decide) (Or.inr rfl) (w_p2 (by decide) (by decide) (Or.inr rfl) (w_p1 (by decide) (Or.inr rfl) e6082))), (w_p1 (by decide) (Or.inr rfl) (w_p2 (by decide) (by decide) (Or.inr rfl) (w_p1 (by decide) (Or.inr rfl) e6083))), (w_p1 (by decide) (Or.inl (by decide)) (w_p2 (by decide) (by decide) (Or.inl (by decide)) (w_p1 (by decide) (Or.inl (by decide)) e6084))), (w_p1 (by decide) (Or.inr rfl) (w_p2 (by decide) (by decide) (Or.inr rfl) (w_p1 (by decide) (Or.inr rfl) e6085))), (w_p1 (by decide) (Or.inl (by decide)) (w_e2 _ _ _)), (w_e1 _ _ _), by omega⟩ ⟨by omega, by omega⟩
            · have c6110_ : v6100.toInt < 2 := en_i_ge_f c6110
              refine At.enter rfl ?_
              refine r_aload_n rfl ?_
              refine r_aload_n rfl ?_
              refine q_getR (Sh.ref hI6072.1 kx_231 rfl) ?_
              refine r_iload_n rfl ?_
              refine r_iconst 3 rfl ?_
              refine q_iadd (v6099.toInt + 3) rfl (by omega) (fun v6115 hv6115 => ?_)
              obtain ⟨v6116, hv6116⟩ : ∃ v, eA g0 233 (900 * v5271.toInt + 8 * x6070.toInt + 115) = v := ⟨_, rfl⟩
              refine q_iald (Sh.arr hI6072.1 ka_233) (900 * v5271.toInt + 8 * x6070.toInt + 115) (by omega) (by omega) v6116 ((eA_c (hF6073.2.1 233 (by decide))).trans hv6116) ?_
              refine r_aload_n rfl ?_
              refine q_getR (Sh.ref hI6072.1 kx_231 rfl) ?_
              refine r_iload_n rfl ?_
              refine r_iconst 4 rfl ?_
              refine q_iadd (v6099.toInt + 4) rfl (by omega) (fun v6117 hv6117 => ?_)
              obtain ⟨v6118, hv6118⟩ : ∃ v, eA g0 233 (900 * v5271.toInt + 8 * x6070.toInt + 116) = v := ⟨_, rfl⟩
              refine q_iald (Sh.arr hI6072.1 ka_233) (900 * v5271.toInt + 8 * x6070.toInt + 116) (by omega) (by omega) v6118 ((eA_c (hF6073.2.1 233 (by decide))).trans hv6118) ?_
              refine r_callV 89 rfl [.ref 231, .int v6116, .int v6118] [] (Nat.le_of_ble_eq_true rfl) rfl (T_X11_reckonAll_231 _ hI6072 v6116 v6118 (HI.code hI0 (j := v5271.toInt) (c := x6070.toInt) ⟨by omega, by omega⟩ (hF6073.2.1 233 (by decide)) (by rw [e6077]; omega) (i := (900 * v5271.toInt + 111)) (by omega) (congrArg Int32.toInt hv6093) ⟨by omega, by omega⟩ (i3 := (900 * v5271.toInt + 8 * x6070.toInt + 115)) (i4 := (900 * v5271.toInt + 8 * x6070.toInt + 116)) 3 (by decide) (by omega) (by omega) (congrArg Int32.toInt hv6116) (congrArg Int32.toInt hv6118))) ?_
              rintro _ _ ⟨g6119, rfl, hI6120, hF6121, rfl⟩
              refine At.stn ?_
              have hF6124 := Fr.tr hF6073 hF6121 rfl rfl
              refine At.enter rfl ?_
              refine r_aload_n rfl ?_
              refine r_aload_n rfl ?_
              obtain ⟨v6125, hv6125⟩ : ∃ v, gJ g6119 231 31 = v := ⟨_, rfl⟩
              refine q_getJv (Sh.long hI6120.1 kx_231 rfl) v6125 hv6125 ?_
              refine q_putJ (Sh.long hI6120.1 kx_231 rfl) rfl ?_
              have hI6126 := HI.wJ hI6120 kx_231 rfl (p := 231) (b := 32) (v := v6125)
              have hF6127 := Fr.wJ (p := 231) (b := 32) (v := v6125) hF6124 rfl
              refine r_aload_n rfl ?_
              obtain ⟨v6128, hv6128⟩ : ∃ v, gI g6119 231 30 = v := ⟨_, rfl⟩
              refine q_getI (Sh.int hI6126.1 kx_231 rfl) v6128 ((gI_sJ_ne (by decide)).trans hv6128) ?_
              refine r_ifs 104 rfl (fun c6129 => ?_) (fun c6129 => ?_)
              · have c6129_ : v6128.toInt ≠ 0 := en_k_ne_t c6129
                refine At.enter rfl ?_
                refine r_iconst 0 rfl ?_
                refine Ar.fall 109 rfl ?_
                refine At.enter rfl ?_
                refine q_iretz (by decide) ?_
                refine At.enter rfl ?_
                refine r_ift (by decide) ?_
                refine At.enter rfl ?_
                refine q_iinc (w_p1 (by decide) (Or.inr rfl) e6087) (x6070.toInt + 1) rfl (by omega) (fun v6130 hv6130 => ?_)
                refine r_goto ?_
                exact ih6076 (12 - v6130.toInt) _ _ ⟨x6069, v6130, by first | rfl | omega, hI6126, hF6127, (((gI_sJ_ne (by decide)).trans (hF6121.1 231 27 mf_X11_reckonAll_231_231_27)).trans e6077), (w_p1 (by decide) (Or.inr rfl) (w_p1 (by decide) (Or.inr rfl) e6078)), (w_p1 (by decide) (Or.inr rfl) (w_p1 (by decide) (Or.inr rfl) e6079)), (w_p1 (by decide) (Or.inr rfl) (w_p1 (by decide) (Or.inr rfl) e6080)), (w_p1 (by decide) (Or.inr rfl) (w_p1 (by decide) (Or.inr rfl) e6081)), (w_p1 (by decide) (Or.inr rfl) (w_p1 (by decide) (Or.inr rfl) e6082)), (w_p1 (by decide) (Or.inr rfl) (w_p1 (by decide) (Or.inr rfl) e6083)), (w_p1 (by decide) (Or.inl (by decide)) (w_p1 (by decide) (Or.inl (by decide)) e6084)), (w_p1 (by decide) (Or.inr rfl) (w_p1 (by decide) (Or.inr rfl) e6085)), (w_p1 (by decide) (Or.inl (by decide)) (w_p1 (by decide) (Or.inl (by decide)) e6086)), (w_e1 _ _ _), by omega⟩ ⟨by omega, by omega⟩
              · have c6129_ : v6128.toInt = 0 := en_k_ne_f c6129
                refine At.enter rfl ?_
                refine r_iconst 1 rfl ?_
                refine r_goto ?_
                refine At.enter rfl ?_
                refine q_iretz (by decide) ?_
                refine At.enter rfl ?_
                refine r_iff 209 rfl (by decide) ?_
                refine At.enter rfl ?_
                refine r_iload_n (w_p1 (by decide) (Or.inr rfl) e6079) ?_
                refine r_iconst 2 rfl ?_
                refine r_ics 214 rfl (fun c6131 => ?_) (fun c6131 => ?_)
                · have c6131_ : a1.toInt ≥ 2 := en_i_ge_t c6131
                  refine At.enter rfl ?_
                  refine r_lconst 1 rfl ?_
                  refine Ar.fall 222 rfl ?_
                  refine At.enter rfl ?_
                  refine r_lstore _ rfl ?_
                  refine Ar.fall 224 rfl ?_
                  refine At.enter rfl ?_
                  refine q_iinc (w_p2 (by decide) (by decide) (Or.inr rfl) (w_p1 (by decide) (Or.inr rfl) e6087)) (x6070.toInt + 1) rfl (by omega) (fun v6132 hv6132 => ?_)
                  refine r_goto ?_
                  exact ih6076 (12 - v6132.toInt) _ _ ⟨1, v6132, by first | rfl | omega, hI6126, hF6127, (((gI_sJ_ne (by decide)).trans (hF6121.1 231 27 mf_X11_reckonAll_231_231_27)).trans e6077), (w_p1 (by decide) (Or.inr rfl) (w_p2 (by decide) (by decide) (Or.inr rfl) (w_p1 (by decide) (Or.inr rfl) e6078))), (w_p1 (by decide) (Or.inr rfl) (w_p2 (by decide) (by decide) (Or.inr rfl) (w_p1 (by decide) (Or.inr rfl) e6079))), (w_p1 (by decide) (Or.inr rfl) (w_p2 (by decide) (by decide) (Or.inr rfl) (w_p1 (by decide) (Or.inr rfl) e6080))), (w_p1 (by decide) (Or.inr rfl) (w_p2 (by decide) (by decide) (Or.inr rfl) (w_p1 (by decide) (Or.inr rfl) e6081))), (w_p1 (by decide) (Or.inr rfl) (w_p2 (by decide) (by decide) (Or.inr rfl) (w_p1 (by decide) (Or.inr rfl) e6082))), (w_p1 (by decide) (Or.inr rfl) (w_p2 (by decide) (by decide) (Or.inr rfl) (w_p1 (by decide) (Or.inr rfl) e6083))), (w_p1 (by decide) (Or.inl (by decide)) (w_p2 (by decide) (by decide) (Or.inl (by decide)) (w_p1 (by decide) (Or.inl (by decide)) e6084))), (w_p1 (by decide) (Or.inr rfl) (w_p2 (by decide) (by decide) (Or.inr rfl) (w_p1 (by decide) (Or.inr rfl) e6085))), (w_p1 (by decide) (Or.inl (by decide)) (w_e2 _ _ _)), (w_e1 _ _ _), by omega⟩ ⟨by omega, by omega⟩
                · have c6131_ : a1.toInt < 2 := en_i_ge_f c6131
                  refine At.enter rfl ?_
                  refine r_aload_n (w_p1 (by decide) (Or.inr rfl) e6078) ?_
                  refine q_getJv (Sh.long hI6126.1 kx_231 rfl) v6125 (gJ_sJ_eq hI6120.1 kx_231 rfl _) ?_
                  refine r_goto ?_
                  refine At.enter rfl ?_
                  refine r_lstore _ rfl ?_
                  refine Ar.fall 224 rfl ?_
                  refine At.enter rfl ?_
                  refine q_iinc (w_p2 (by decide) (by decide) (Or.inr rfl) (w_p1 (by decide) (Or.inr rfl) e6087)) (x6070.toInt + 1) rfl (by omega) (fun v6133 hv6133 => ?_)
                  refine r_goto ?_
                  exact ih6076 (12 - v6133.toInt) _ _ ⟨v6125, v6133, by first | rfl | omega, hI6126, hF6127, (((gI_sJ_ne (by decide)).trans (hF6121.1 231 27 mf_X11_reckonAll_231_231_27)).trans e6077), (w_p1 (by decide) (Or.inr rfl) (w_p2 (by decide) (by decide) (Or.inr rfl) (w_p1 (by decide) (Or.inr rfl) e6078))), (w_p1 (by decide) (Or.inr rfl) (w_p2 (by decide) (by decide) (Or.inr rfl) (w_p1 (by decide) (Or.inr rfl) e6079))), (w_p1 (by decide) (Or.inr rfl) (w_p2 (by decide) (by decide) (Or.inr rfl) (w_p1 (by decide) (Or.inr rfl) e6080))), (w_p1 (by decide) (Or.inr rfl) (w_p2 (by decide) (by decide) (Or.inr rfl) (w_p1 (by decide) (Or.inr rfl) e6081))), (w_p1 (by decide) (Or.inr rfl) (w_p2 (by decide) (by decide) (Or.inr rfl) (w_p1 (by decide) (Or.inr rfl) e6082))), (w_p1 (by decide) (Or.inr rfl) (w_p2 (by decide) (by decide) (Or.inr rfl) (w_p1 (by decide) (Or.inr rfl) e6083))), (w_p1 (by decide) (Or.inl (by decide)) (w_p2 (by decide) (by decide) (Or.inl (by decide)) (w_p1 (by decide) (Or.inl (by decide)) e6084))), (w_p1 (by decide) (Or.inr rfl) (w_p2 (by decide) (by decide) (Or.inr rfl) (w_p1 (by decide) (Or.inr rfl) e6085))), (w_p1 (by decide) (Or.inl (by decide)) (w_e2 _ _ _)), (w_e1 _ _ _), by omega⟩ ⟨by omega, by omega⟩
          · have c6107_ : v6104.toInt < v6106.toInt := en_i_ge_f c6107
            refine At.enter rfl ?_
            refine r_aload_n rfl ?_
            refine r_aload_n rfl ?_
            refine q_getR (Sh.ref hI6072.1 kx_231 rfl) ?_
            refine r_iload_n rfl ?_
            refine r_iconst 5 rfl ?_
            refine q_iadd (v6099.toInt + 5) rfl (by omega) (fun v6134 hv6134 => ?_)
            refine q_iald (Sh.arr hI6072.1 ka_233) (900 * v5271.toInt + 8 * x6070.toInt + 117) (by omega) (by omega) v6104 ((eA_c (hF6073.2.1 233 (by decide))).trans hv6104) ?_
            refine r_aload_n rfl ?_
            refine q_getR (Sh.ref hI6072.1 kx_231 rfl) ?_
            refine r_iload_n rfl ?_
            refine r_bipush 6 rfl ?_
            refine q_iadd (v6099.toInt + 6) rfl (by omega) (fun v6135 hv6135 => ?_)
            refine q_iald (Sh.arr hI6072.1 ka_233) (900 * v5271.toInt + 8 * x6070.toInt + 118) (by omega) (by omega) v6106 ((eA_c (hF6073.2.1 233 (by decide))).trans hv6106) ?_
            refine r_callV 41 rfl [.ref 231, .int v6104, .int v6106] [] (Nat.le_of_ble_eq_true rfl) rfl (T_X11_reckonAll_231 _ hI6072 v6104 v6106 (HI.code hI0 (j := v5271.toInt) (c := x6070.toInt) ⟨by omega, by omega⟩ (hF6073.2.1 233 (by decide)) (by rw [e6077]; omega) (i := (900 * v5271.toInt + 111)) (by omega) (congrArg Int32.toInt hv6093) ⟨by omega, by omega⟩ (i3 := (900 * v5271.toInt + 8 * x6070.toInt + 117)) (i4 := (900 * v5271.toInt + 8 * x6070.toInt + 118)) 5 (by decide) (by omega) (by omega) (congrArg Int32.toInt hv6104) (congrArg Int32.toInt hv6106))) ?_
            rintro _ _ ⟨g6136, rfl, hI6137, hF6138, rfl⟩
            refine At.stn ?_
            have hF6141 := Fr.tr hF6073 hF6138 rfl rfl
            refine At.enter rfl ?_
            refine r_aload_n rfl ?_
            obtain ⟨v6142, hv6142⟩ : ∃ v, gI g6136 231 30 = v := ⟨_, rfl⟩
            refine q_getI (Sh.int hI6137.1 kx_231 rfl) v6142 hv6142 ?_
            refine r_ifs 48 rfl (fun c6143 => ?_) (fun c6143 => ?_)
            · have c6143_ : v6142.toInt ≠ 0 := en_k_ne_t c6143
              refine At.enter rfl ?_
              refine r_iconst 0 rfl ?_
              refine q_iretz (by decide) ?_
              refine At.enter rfl ?_
              refine r_ift (by decide) ?_
              refine At.enter rfl ?_
              refine q_iinc (w_p1 (by decide) (Or.inr rfl) e6087) (x6070.toInt + 1) rfl (by omega) (fun v6144 hv6144 => ?_)
              refine r_goto ?_
              exact ih6076 (12 - v6144.toInt) _ _ ⟨x6069, v6144, by first | rfl | omega, hI6137, hF6141, ((hF6138.1 231 27 mf_X11_reckonAll_231_231_27).trans e6077), (w_p1 (by decide) (Or.inr rfl) (w_p1 (by decide) (Or.inr rfl) e6078)), (w_p1 (by decide) (Or.inr rfl) (w_p1 (by decide) (Or.inr rfl) e6079)), (w_p1 (by decide) (Or.inr rfl) (w_p1 (by decide) (Or.inr rfl) e6080)), (w_p1 (by decide) (Or.inr rfl) (w_p1 (by decide) (Or.inr rfl) e6081)), (w_p1 (by decide) (Or.inr rfl) (w_p1 (by decide) (Or.inr rfl) e6082)), (w_p1 (by decide) (Or.inr rfl) (w_p1 (by decide) (Or.inr rfl) e6083)), (w_p1 (by decide) (Or.inl (by decide)) (w_p1 (by decide) (Or.inl (by decide)) e6084)), (w_p1 (by decide) (Or.inr rfl) (w_p1 (by decide) (Or.inr rfl) e6085)), (w_p1 (by decide) (Or.inl (by decide)) (w_p1 (by decide) (Or.inl (by decide)) e6086)), (w_e1 _ _ _), by omega⟩ ⟨by omega, by omega⟩
            · have c6143_ : v6142.toInt = 0 := en_k_ne_f c6143
              refine At.enter rfl ?_
              refine r_aload_n rfl ?_
              obtain ⟨v6145, hv6145⟩ : ∃ v, gJ g6136 231 31 = v := ⟨_, rfl⟩
              refine q_getJv (Sh.long hI6137.1 kx_231 rfl) v6145 hv6145 ?_
              refine r_lconst 0 rfl ?_
              refine r_lcmp _ rfl ?_
              refine r_ifs 57 rfl (fun c6146 => ?_) (fun c6146 => ?_)
              · have c6146_ : v6145.toInt ≠ 0 := en_j_ne_t c6146
                refine At.enter rfl ?_
                refine r_aload_n rfl ?_
                refine q_getR (Sh.ref hI6137.1 kx_231 rfl) ?_
                refine r_iload_n rfl ?_
                refine q_iald (Sh.arr hI6137.1 ka_233) (900 * v5271.toInt + 8 * x6070.toInt + 112) (by omega) (by omega) v6100 ((eA_c ((hF6138.2.1 233 ma_X11_reckonAll_231_233).trans (hF6073.2.1 233 (by decide)))).trans hv6100) ?_
                refine r_iconst 2 rfl ?_
                refine r_ics 69 rfl (fun c6147 => ?_) (fun c6147 => ?_)
                · have c6147_ : v6100.toInt ≥ 2 := en_i_ge_t c6147
                  refine At.enter rfl ?_
                  refine r_iconst 1 rfl ?_
                  refine q_iretz (by decide) ?_
                  refine At.enter rfl ?_
                  refine r_iff 209 rfl (by decide) ?_
                  refine At.enter rfl ?_
                  refine r_iload_n (w_p1 (by decide) (Or.inr rfl) e6079) ?_
                  refine r_iconst 2 rfl ?_
                  refine r_ics 214 rfl (fun c6148 => ?_) (fun c6148 => ?_)
                  · have c6148_ : a1.toInt ≥ 2 := en_i_ge_t c6148
                    refine At.enter rfl ?_
                    refine r_lconst 1 rfl ?_
                    refine Ar.fall 222 rfl ?_
                    refine At.enter rfl ?_
                    refine r_lstore _ rfl ?_
                    refine Ar.fall 224 rfl ?_
                    refine At.enter rfl ?_
                    refine q_iinc (w_p2 (by decide) (by decide) (Or.inr rfl) (w_p1 (by decide) (Or.inr rfl) e6087)) (x6070.toInt + 1) rfl (by omega) (fun v6149 hv6149 => ?_)
                    refine r_goto ?_
                    exact ih6076 (12 - v6149.toInt) _ _ ⟨1, v6149, by first | rfl | omega, hI6137, hF6141, ((hF6138.1 231 27 mf_X11_reckonAll_231_231_27).trans e6077), (w_p1 (by decide) (Or.inr rfl) (w_p2 (by decide) (by decide) (Or.inr rfl) (w_p1 (by decide) (Or.inr rfl) e6078))), (w_p1 (by decide) (Or.inr rfl) (w_p2 (by decide) (by decide) (Or.inr rfl) (w_p1 (by decide) (Or.inr rfl) e6079))), (w_p1 (by decide) (Or.inr rfl) (w_p2 (by decide) (by decide) (Or.inr rfl) (w_p1 (by decide) (Or.inr rfl) e6080))), (w_p1 (by decide) (Or.inr rfl) (w_p2 (by decide) (by decide) (Or.inr rfl) (w_p1 (by decide) (Or.inr rfl) e6081))), (w_p1 (by decide) (Or.inr rfl) (w_p2 (by decide) (by decide) (Or.inr rfl) (w_p1 (by decide) (Or.inr rfl) e6082))), (w_p1 (by decide) (Or.inr rfl) (w_p2 (by decide) (by decide) (Or.inr rfl) (w_p1 (by decide) (Or.inr rfl) e6083))), (w_p1 (by decide) (Or.inl (by decide)) (w_p2 (by decide) (by decide) (Or.inl (by decide)) (w_p1 (by decide) (Or.inl (by decide)) e6084))), (w_p1 (by decide) (Or.inr rfl) (w_p2 (by decide) (by decide) (Or.inr rfl) (w_p1 (by decide) (Or.inr rfl) e6085))), (w_p1 (by decide) (Or.inl (by decide)) (w_e2 _ _ _)), (w_e1 _ _ _), by omega⟩ ⟨by omega, by omega⟩
                  · have c6148_ : a1.toInt < 2 := en_i_ge_f c6148
                    refine At.enter rfl ?_
                    refine r_aload_n (w_p1 (by decide) (Or.inr rfl) e6078) ?_
                    obtain ⟨v6150, hv6150⟩ : ∃ v, gJ g6071 231 32 = v := ⟨_, rfl⟩
                    refine q_getJv (Sh.long hI6137.1 kx_231 rfl) v6150 ((hF6138.2.2 231 32 mf_X11_reckonAll_231_231_32).trans hv6150) ?_
                    refine r_goto ?_
                    refine At.enter rfl ?_
                    refine r_lstore _ rfl ?_
                    refine Ar.fall 224 rfl ?_
                    refine At.enter rfl ?_
                    refine q_iinc (w_p2 (by decide) (by decide) (Or.inr rfl) (w_p1 (by decide) (Or.inr rfl) e6087)) (x6070.toInt + 1) rfl (by omega) (fun v6151 hv6151 => ?_)
                    refine r_goto ?_
                    exact ih6076 (12 - v6151.toInt) _ _ ⟨v6150, v6151, by first | rfl | omega, hI6137, hF6141, ((hF6138.1 231 27 mf_X11_reckonAll_231_231_27).trans e6077), (w_p1 (by decide) (Or.inr rfl) (w_p2 (by decide) (by decide) (Or.inr rfl) (w_p1 (by decide) (Or.inr rfl) e6078))), (w_p1 (by decide) (Or.inr rfl) (w_p2 (by decide) (by decide) (Or.inr rfl) (w_p1 (by decide) (Or.inr rfl) e6079))), (w_p1 (by decide) (Or.inr rfl) (w_p2 (by decide) (by decide) (Or.inr rfl) (w_p1 (by decide) (Or.inr rfl) e6080))), (w_p1 (by decide) (Or.inr rfl) (w_p2 (by decide) (by decide) (Or.inr rfl) (w_p1 (by decide) (Or.inr rfl) e6081))), (w_p1 (by decide) (Or.inr rfl) (w_p2 (by decide) (by decide) (Or.inr rfl) (w_p1 (by decide) (Or.inr rfl) e6082))), (w_p1 (by decide) (Or.inr rfl) (w_p2 (by decide) (by decide) (Or.inr rfl) (w_p1 (by decide) (Or.inr rfl) e6083))), (w_p1 (by decide) (Or.inl (by decide)) (w_p2 (by decide) (by decide) (Or.inl (by decide)) (w_p1 (by decide) (Or.inl (by decide)) e6084))), (w_p1 (by decide) (Or.inr rfl) (w_p2 (by decide) (by decide) (Or.inr rfl) (w_p1 (by decide) (Or.inr rfl) e6085))), (w_p1 (by decide) (Or.inl (by decide)) (w_e2 _ _ _)), (w_e1 _ _ _), by omega⟩ ⟨by omega, by omega⟩
                · have c6147_ : v6100.toInt < 2 := en_i_ge_f c6147
                  refine At.enter rfl ?_
                  refine r_aload_n rfl ?_
                  refine r_aload_n rfl ?_
                  refine q_getR (Sh.ref hI6137.1 kx_231 rfl) ?_
                  refine r_iload_n rfl ?_
                  refine r_iconst 3 rfl ?_
                  refine q_iadd (v6099.toInt + 3) rfl (by omega) (fun v6152 hv6152 => ?_)
                  obtain ⟨v6153, hv6153⟩ : ∃ v, eA g0 233 (900 * v5271.toInt + 8 * x6070.toInt + 115) = v := ⟨_, rfl⟩
                  refine q_iald (Sh.arr hI6137.1 ka_233) (900 * v5271.toInt + 8 * x6070.toInt + 115) (by omega) (by omega) v6153 ((eA_c ((hF6138.2.1 233 ma_X11_reckonAll_231_233).trans (hF6073.2.1 233 (by decide)))).trans hv6153) ?_
                  refine r_aload_n rfl ?_
                  refine q_getR (Sh.ref hI6137.1 kx_231 rfl) ?_
                  refine r_iload_n rfl ?_
                  refine r_iconst 4 rfl ?_
                  refine q_iadd (v6099.toInt + 4) rfl (by omega) (fun v6154 hv6154 => ?_)
                  obtain ⟨v6155, hv6155⟩ : ∃ v, eA g0 233 (900 * v5271.toInt + 8 * x6070.toInt + 116) = v := ⟨_, rfl⟩
                  refine q_iald (Sh.arr hI6137.1 ka_233) (900 * v5271.toInt + 8 * x6070.toInt + 116) (by omega) (by omega) v6155 ((eA_c ((hF6138.2.1 233 ma_X11_reckonAll_231_233).trans (hF6073.2.1 233 (by decide)))).trans hv6155) ?_
                  refine r_callV 89 rfl [.ref 231, .int v6153, .int v6155] [] (Nat.le_of_ble_eq_true rfl) rfl (T_X11_reckonAll_231 _ hI6137 v6153 v6155 (HI.code hI0 (j := v5271.toInt) (c := x6070.toInt) ⟨by omega, by omega⟩ ((hF6138.2.1 233 ma_X11_reckonAll_231_233).trans (hF6073.2.1 233 (by decide))) (by rw [((hF6138.1 231 27 mf_X11_reckonAll_231_231_27).trans e6077)]; omega) (i := (900 * v5271.toInt + 111)) (by omega) (congrArg Int32.toInt hv6093) ⟨by omega, by omega⟩ (i3 := (900 * v5271.toInt + 8 * x6070.toInt + 115)) (i4 := (900 * v5271.toInt + 8 * x6070.toInt + 116)) 3 (by decide) (by omega) (by omega) (congrArg Int32.toInt hv6153) (congrArg Int32.toInt hv6155))) ?_
                  rintro _ _ ⟨g6156, rfl, hI6157, hF6158, rfl⟩
                  refine At.stn ?_
                  have hF6161 := Fr.tr hF6141 hF6158 rfl rfl
                  refine At.enter rfl ?_
                  refine r_aload_n rfl ?_
                  refine r_aload_n rfl ?_
                  obtain ⟨v6162, hv6162⟩ : ∃ v, gJ g6156 231 31 = v := ⟨_, rfl⟩
                  refine q_getJv (Sh.long hI6157.1 kx_231 rfl) v6162 hv6162 ?_
                  refine q_putJ (Sh.long hI6157.1 kx_231 rfl) rfl ?_
                  have hI6163 := HI.wJ hI6157 kx_231 rfl (p := 231) (b := 32) (v := v6162)
                  have hF6164 := Fr.wJ (p := 231) (b := 32) (v := v6162) hF6161 rfl
                  refine r_aload_n rfl ?_
                  obtain ⟨v6165, hv6165⟩ : ∃ v, gI g6156 231 30 = v := ⟨_, rfl⟩
                  refine q_getI (Sh.int hI6163.1 kx_231 rfl) v6165 ((gI_sJ_ne (by decide)).trans hv6165) ?_
                  refine r_ifs 104 rfl (fun c6166 => ?_) (fun c6166 => ?_)
                  · have c6166_ : v6165.toInt ≠ 0 := en_k_ne_t c6166
                    refine At.enter rfl ?_
                    refine r_iconst 0 rfl ?_
                    refine Ar.fall 109 rfl ?_
                    refine At.enter rfl ?_
                    refine q_iretz (by decide) ?_
                    refine At.enter rfl ?_
                    refine r_ift (by decide) ?_
                    refine At.enter rfl ?_
                    refine q_iinc (w_p1 (by decide) (Or.inr rfl) e6087) (x6070.toInt + 1) rfl (by omega) (fun v6167 hv6167 => ?_)
                    refine r_goto ?_
                    exact ih6076 (12 - v6167.toInt) _ _ ⟨x6069, v6167, by first | rfl | omega, hI6163, hF6164, (((gI_sJ_ne (by decide)).trans ((hF6158.1 231 27 mf_X11_reckonAll_231_231_27).trans (hF6138.1 231 27 mf_X11_reckonAll_231_231_27))).trans e6077), (w_p1 (by decide) (Or.inr rfl) (w_p1 (by decide) (Or.inr rfl) e6078)), (w_p1 (by decide) (Or.inr rfl) (w_p1 (by decide) (Or.inr rfl) e6079)), (w_p1 (by decide) (Or.inr rfl) (w_p1 (by decide) (Or.inr rfl) e6080)), (w_p1 (by decide) (Or.inr rfl) (w_p1 (by decide) (Or.inr rfl) e6081)), (w_p1 (by decide) (Or.inr rfl) (w_p1 (by decide) (Or.inr rfl) e6082)), (w_p1 (by decide) (Or.inr rfl) (w_p1 (by decide) (Or.inr rfl) e6083)), (w_p1 (by decide) (Or.inl (by decide)) (w_p1 (by decide) (Or.inl (by decide)) e6084)), (w_p1 (by decide) (Or.inr rfl) (w_p1 (by decide) (Or.inr rfl) e6085)), (w_p1 (by decide) (Or.inl (by decide)) (w_p1 (by decide) (Or.inl (by decide)) e6086)), (w_e1 _ _ _), by omega⟩ ⟨by omega, by omega⟩
                  · have c6166_ : v6165.toInt = 0 := en_k_ne_f c6166
                    refine At.enter rfl ?_
                    refine r_iconst 1 rfl ?_
                    refine r_goto ?_
                    refine At.enter rfl ?_
                    refine q_iretz (by decide) ?_
                    refine At.enter rfl ?_
                    refine r_iff 209 rfl (by decide) ?_
                    refine At.enter rfl ?_
                    refine r_iload_n (w_p1 (by decide) (Or.inr rfl) e6079) ?_
                    refine r_iconst 2 rfl ?_
                    refine r_ics 214 rfl (fun c6168 => ?_) (fun c6168 => ?_)
                    · have c6168_ : a1.toInt ≥ 2 := en_i_ge_t c6168
                      refine At.enter rfl ?_
                      refine r_lconst 1 rfl ?_
                      refine Ar.fall 222 rfl ?_
                      refine At.enter rfl ?_
                      refine r_lstore _ rfl ?_
                      refine Ar.fall 224 rfl ?_
                      refine At.enter rfl ?_
                      refine q_iinc (w_p2 (by decide) (by decide) (Or.inr rfl) (w_p1 (by decide) (Or.inr rfl) e6087)) (x6070.toInt + 1) rfl (by omega) (fun v6169 hv6169 => ?_)
                      refine r_goto ?_
                      exact ih6076 (12 - v6169.toInt) _ _ ⟨1, v6169, by first | rfl | omega, hI6163, hF6164, (((gI_sJ_ne (by decide)).trans ((hF6158.1 231 27 mf_X11_reckonAll_231_231_27).trans (hF6138.1 231 27 mf_X11_reckonAll_231_231_27))).trans e6077), (w_p1 (by decide) (Or.inr rfl) (w_p2 (by decide) (by decide) (Or.inr rfl) (w_p1 (by decide) (Or.inr rfl) e6078))), (w_p1 (by decide) (Or.inr rfl) (w_p2 (by decide) (by decide) (Or.inr rfl) (w_p1 (by decide) (Or.inr rfl) e6079))), (w_p1 (by decide) (Or.inr rfl) (w_p2 (by decide) (by decide) (Or.inr rfl) (w_p1 (by decide) (Or.inr rfl) e6080))), (w_p1 (by decide) (Or.inr rfl) (w_p2 (by decide) (by decide) (Or.inr rfl) (w_p1 (by decide) (Or.inr rfl) e6081))), (w_p1 (by decide) (Or.inr rfl) (w_p2 (by decide) (by decide) (Or.inr rfl) (w_p1 (by decide) (Or.inr rfl) e6082))), (w_p1 (by decide) (Or.inr rfl) (w_p2 (by decide) (by decide) (Or.inr rfl) (w_p1 (by decide) (Or.inr rfl) e6083))), (w_p1 (by decide) (Or.inl (by decide)) (w_p2 (by decide) (by decide) (Or.inl (by decide)) (w_p1 (by decide) (Or.inl (by decide)) e6084))), (w_p1 (by decide) (Or.inr rfl) (w_p2 (by decide) (by decide) (Or.inr rfl) (w_p1 (by decide) (Or.inr rfl) e6085))), (w_p1 (by decide) (Or.inl (by decide)) (w_e2 _ _ _)), (w_e1 _ _ _), by omega⟩ ⟨by omega, by omega⟩
                    · have c6168_ : a1.toInt < 2 := en_i_ge_f c6168
                      refine At.enter rfl ?_
                      refine r_aload_n (w_p1 (by decide) (Or.inr rfl) e6078) ?_
                      refine q_getJv (Sh.long hI6163.1 kx_231 rfl) v6162 (gJ_sJ_eq hI6157.1 kx_231 rfl _) ?_
                      refine r_goto ?_
                      refine At.enter rfl ?_
                      refine r_lstore _ rfl ?_
                      refine Ar.fall 224 rfl ?_
                      refine At.enter rfl ?_
                      refine q_iinc (w_p2 (by decide) (by decide) (Or.inr rfl) (w_p1 (by decide) (Or.inr rfl) e6087)) (x6070.toInt + 1) rfl (by omega) (fun v6170 hv6170 => ?_)
                      refine r_goto ?_
                      exact ih6076 (12 - v6170.toInt) _ _ ⟨v6162, v6170, by first | rfl | omega, hI6163, hF6164, (((gI_sJ_ne (by decide)).trans ((hF6158.1 231 27 mf_X11_reckonAll_231_231_27).trans (hF6138.1 231 27 mf_X11_reckonAll_231_231_27))).trans e6077), (w_p1 (by decide) (Or.inr rfl) (w_p2 (by decide) (by decide) (Or.inr rfl) (w_p1 (by decide) (Or.inr rfl) e6078))), (w_p1 (by decide) (Or.inr rfl) (w_p2 (by decide) (by decide) (Or.inr rfl) (w_p1 (by decide) (Or.inr rfl) e6079))), (w_p1 (by decide) (Or.inr rfl) (w_p2 (by decide) (by decide) (Or.inr rfl) (w_p1 (by decide) (Or.inr rfl) e6080))), (w_p1 (by decide) (Or.inr rfl) (w_p2 (by decide) (by decide) (Or.inr rfl) (w_p1 (by decide) (Or.inr rfl) e6081))), (w_p1 (by decide) (Or.inr rfl) (w_p2 (by decide) (by decide) (Or.inr rfl) (w_p1 (by decide) (Or.inr rfl) e6082))), (w_p1 (by decide) (Or.inr rfl) (w_p2 (by decide) (by decide) (Or.inr rfl) (w_p1 (by decide) (Or.inr rfl) e6083))), (w_p1 (by decide) (Or.inl (by decide)) (w_p2 (by decide) (by decide) (Or.inl (by decide)) (w_p1 (by decide) (Or.inl (by decide)) e6084))), (w_p1 (by decide) (Or.inr rfl) (w_p2 (by decide) (by decide) (Or.inr rfl) (w_p1 (by decide) (Or.inr rfl) e6085))), (w_p1 (by decide) (Or.inl (by decide)) (w_e2 _ _ _)), (w_e1 _ _ _), by omega⟩ ⟨by omega, by omega⟩
              · have c6146_ : v6145.toInt = 0 := en_j_ne_f c6146
                refine At.enter rfl ?_
                refine r_iconst 0 rfl ?_
                refine q_iretz (by decide) ?_
                refine At.enter rfl ?_
                refine r_ift (by decide) ?_
                refine At.enter rfl ?_
                refine q_iinc (w_p1 (by decide) (Or.inr rfl) e6087) (x6070.toInt + 1) rfl (by omega) (fun v6171 hv6171 => ?_)
                refine r_goto ?_
                exact ih6076 (12 - v6171.toInt) _ _ ⟨x6069, v6171, by first | rfl | omega, hI6137, hF6141, ((hF6138.1 231 27 mf_X11_reckonAll_231_231_27).trans e6077), (w_p1 (by decide) (Or.inr rfl) (w_p1 (by decide) (Or.inr rfl) e6078)), (w_p1 (by decide) (Or.inr rfl) (w_p1 (by decide) (Or.inr rfl) e6079)), (w_p1 (by decide) (Or.inr rfl) (w_p1 (by decide) (Or.inr rfl) e6080)), (w_p1 (by decide) (Or.inr rfl) (w_p1 (by decide) (Or.inr rfl) e6081)), (w_p1 (by decide) (Or.inr rfl) (w_p1 (by decide) (Or.inr rfl) e6082)), (w_p1 (by decide) (Or.inr rfl) (w_p1 (by decide) (Or.inr rfl) e6083)), (w_p1 (by decide) (Or.inl (by decide)) (w_p1 (by decide) (Or.inl (by decide)) e6084)), (w_p1 (by decide) (Or.inr rfl) (w_p1 (by decide) (Or.inr rfl) e6085)), (w_p1 (by decide) (Or.inl (by decide)) (w_p1 (by decide) (Or.inl (by decide)) e6086)), (w_e1 _ _ _), by omega⟩ ⟨by omega, by omega⟩
    · have c5305_ : v5301.toInt ≥ 0 := en_j_lt_f c5305
      refine At.enter rfl ?_
      refine r_lload_n rfl ?_
      refine r_lload rfl ?_
      refine r_lcmp _ rfl ?_
      refine r_ifs 13 rfl (fun c6172 => ?_) (fun c6172 => ?_)
      · have c6172_ : v5301.toInt > v5304.toInt := en_j_gt_t c6172
        refine At.enter rfl ?_
        refine r_iconst 0 rfl ?_
        refine Ar.fall 18 rfl ?_
        refine At.enter rfl ?_
        refine q_iretz (by decide) ?_
        refine At.enter rfl ?_
        refine q_iretz (by decide) ?_
        refine At.enter rfl ?_
        refine r_ift (by decide) ?_
        refine At.enter rfl ?_
        refine r_ldc2 (-1) rfl ?_
        refine Ar.fall 103 rfl ?_
        refine At.enter rfl ?_
        refine q_last (Sh.lar hI5299.1 ka_244) (5) rfl (by decide) ?_
        have hI6173 := HI.wK hI5299 ka_244 (5) ((-1)) (by decide)
        have hF6174 := Fr.wK (p := 244) (j := 5) (v := (-1)) hF5300
        refine r_aload_n rfl ?_
        refine q_getR (Sh.ref hI6173.1 kx_231 rfl) ?_
        refine r_bipush 6 rfl ?_
        refine r_iload rfl ?_
        refine q_i2l (fun v6175 hv6175 => ?_)
        refine q_last (Sh.lar hI6173.1 ka_244) (6) rfl (by decide) ?_
        have hI6176 := HI.wK hI6173 ka_244 (6) (v6175) (by decide)
        have hF6177 := Fr.wK (p := 244) (j := 6) (v := v6175) hF6174
        refine r_aload_n rfl ?_
        refine q_getR (Sh.ref hI6176.1 kx_231 rfl) ?_
        refine r_bipush 7 rfl ?_
        refine r_iload rfl ?_
        refine q_i2l (fun v6178 hv6178 => ?_)
        refine q_last (Sh.lar hI6176.1 ka_244) (7) rfl (by decide) ?_
        have hI6179 := HI.wK hI6176 ka_244 (7) (v6178) (by decide)
        have hF6180 := Fr.wK (p := 244) (j := 7) (v := v6178) hF6177
        refine r_aload_n rfl ?_
        refine q_getR (Sh.ref hI6179.1 kx_231 rfl) ?_
        refine r_bipush 8 rfl ?_
        refine r_aload_n rfl ?_
        refine q_getR (Sh.ref hI6179.1 kx_231 rfl) ?_
        refine r_iload_n rfl ?_
        obtain ⟨v6181, hv6181⟩ : ∃ v, eA g0 246 a3.toInt = v := ⟨_, rfl⟩
        refine q_iald (Sh.arr hI6179.1 ka_246) a3.toInt rfl (by omega) v6181 ((eA_c ((gA_sX).trans ((gA_sX).trans ((gA_sX).trans ((gA_sX).trans ((gA_sX).trans ((gA_sX).trans ((gA_sX).trans (gA_sI))))))))).trans hv6181) ?_
        refine q_i2l (fun v6182 hv6182 => ?_)
        refine q_last (Sh.lar hI6179.1 ka_244) (8) rfl (by decide) ?_
        have hI6183 := HI.wK hI6179 ka_244 (8) (v6182) (by decide)
        have hF6184 := Fr.wK (p := 244) (j := 8) (v := v6182) hF6180
        refine r_aload_n rfl ?_
        refine q_getR (Sh.ref hI6183.1 kx_231 rfl) ?_
        refine r_bipush 9 rfl ?_
        refine r_aload_n rfl ?_
        refine q_getR (Sh.ref hI6183.1 kx_231 rfl) ?_
        refine r_iload_n rfl ?_
        obtain ⟨v6185, hv6185⟩ : ∃ v, eA g0 247 a3.toInt = v := ⟨_, rfl⟩
        refine q_iald (Sh.arr hI6183.1 ka_247) a3.toInt rfl (by omega) v6185 ((eA_c ((gA_sX).trans ((gA_sX).trans ((gA_sX).trans ((gA_sX).trans ((gA_sX).trans ((gA_sX).trans ((gA_sX).trans ((gA_sX).trans (gA_sI)))))))))).trans hv6185) ?_
        refine q_i2l (fun v6186 hv6186 => ?_)
        refine q_last (Sh.lar hI6183.1 ka_244) (9) rfl (by decide) ?_
        have hI6187 := HI.wK hI6183 ka_244 (9) (v6186) (by decide)
        have hF6188 := Fr.wK (p := 244) (j := 9) (v := v6186) hF6184
        refine r_lload rfl ?_
        refine r_lstore ([(9, .long a6), (8, .int v5280), (0, .ref 231), (1, .int a1), (2, .int a2), (3, .int a3), (4, .int a4), (5, .int a5), (6, .long a6)]) rfl ?_
        refine r_iconst 0 rfl ?_
        refine r_istore ([(11, .int 0), (9, .long a6), (8, .int v5280), (0, .ref 231), (1, .int a1), (2, .int a2), (3, .int a3), (4, .int a4), (5, .int a5), (6, .long a6)]) rfl ?_
        refine Ar.fall 159 rfl ?_
        have z_6956 : (0 : Int32).toInt = 0 := rfl
        refine w_loopI (fun n_ l_ g_ => ∃ x6936 : Int64, ∃ x6937 : Int32, n_ = 12 - x6937.toInt ∧ HI g_ ∧ Fr F_X11_tells_231 A_X11_tells_231 g0 g_ ∧ gI g_ 231 27 = v5274 ∧ en_get 0 l_ = some (.ref 231) ∧ en_get 1 l_ = some (.int a1) ∧ en_get 2 l_ = some (.int a2) ∧ en_get 3 l_ = some (.int a3) ∧ en_get 4 l_ = some (.int a4) ∧ en_get 5 l_ = some (.int a5) ∧ en_get 6 l_ = some (.long a6) ∧ en_get 8 l_ = some (.int v5280) ∧ en_get 9 l_ = some (.long x6936) ∧ en_get 11 l_ = some (.int x6937) ∧ (0 ≤ x6937.toInt ∧ x6937.toInt ≤ 12)) ?_ (12 - 0) ⟨a6, 0, by first | rfl | omega, hI6187, hF6188, ((gI_sX).trans ((gI_sX).trans ((gI_sX).trans ((gI_sX).trans ((gI_sX).trans ((gI_sX).trans ((gI_sX).trans ((gI_sX).trans ((gI_sX).trans (gI_sI_eq hI0.1 kx_231 rfl _)))))))))), rfl, rfl, rfl, rfl, rfl, rfl, rfl, rfl, rfl, rfl, by decide⟩
        rintro n6942 l6941 g6938 ⟨x6936, x6937, hm6957, hI6939, hF6940, e6944, e6945, e6946, e6947, e6948, e6949, e6950, e6951, e6952, e6953, e6954, r6955⟩ ih6943
        have tv6958 := congrArg Int32.toInt e6944
        refine At.enter rfl ?_
        refine r_iload e6954 ?_
        refine r_aload_n e6945 ?_
        refine q_getR (Sh.ref hI6939.1 kx_231 rfl) ?_
        refine r_aload_n e6945 ?_
        refine q_getI (Sh.int hI6939.1 kx_231 rfl) v5274 e6944 ?_
        refine r_iconst 1 rfl ?_
        refine q_iadd (v5274.toInt + 1) rfl (by omega) (fun v6959 hv6959 => ?_)
        obtain ⟨v6960, hv6960⟩ : ∃ v, eA g0 233 (900 * v5271.toInt + 111) = v := ⟨_, rfl⟩
        have wv6960 := HI.lawn hI0 (j := v5271.toInt) (i := (900 * v5271.toInt + 111)) ⟨by omega, by omega⟩ (by omega)
        rw [hv6960] at wv6960
        refine q_iald (Sh.arr hI6939.1 ka_233) (900 * v5271.toInt + 111) (by omega) (by omega) v6960 ((eA_c (hF6940.2.1 233 (by decide))).trans hv6960) ?_
        have bv6962 := q_bnd x6937
        have bv6963 := q_bnd v6960
        refine r_ics 175 rfl (fun c6961 => ?_) (fun c6961 => ?_)
        · have c6961_ : x6937.toInt ≥ v6960.toInt := en_i_ge_t c6961
          refine At.enter rfl ?_
          refine r_lload e6953 ?_
          refine r_lret ?_
          exact ⟨_, rfl, hI6939, hF6940, _, rfl, trivial⟩
        · have c6961_ : x6937.toInt < v6960.toInt := en_i_ge_f c6961
          refine At.enter rfl ?_
          refine r_aload_n e6945 ?_
          refine q_getI (Sh.int hI6939.1 kx_231 rfl) v5274 e6944 ?_
          refine r_iconst 2 rfl ?_
          refine q_iadd (v5274.toInt + 2) rfl (by omega) (fun v6964 hv6964 => ?_)
          refine r_bipush 8 rfl ?_
          refine r_iload e6954 ?_
          refine q_imul (8 * x6937.toInt) rfl (by omega) (fun v6965 hv6965 => ?_)
          refine q_iadd (v6964.toInt + v6965.toInt) rfl (by omega) (fun v6966 hv6966 => ?_)
          refine r_istore _ rfl ?_
          refine r_aload_n (w_p1 (by decide) (Or.inr rfl) e6945) ?_
          refine q_getR (Sh.ref hI6939.1 kx_231 rfl) ?_
          refine r_iload (w_e1 _ _ _) ?_
          obtain ⟨v6967, hv6967⟩ : ∃ v, eA g0 233 (900 * v5271.toInt + 8 * x6937.toInt + 112) = v := ⟨_, rfl⟩
          refine q_iald (Sh.arr hI6939.1 ka_233) (900 * v5271.toInt + 8 * x6937.toInt + 112) (by omega) (by omega) v6967 ((eA_c (hF6940.2.1 233 (by decide))).trans hv6967) ?_
          refine r_iload_n (w_p1 (by decide) (Or.inr rfl) e6946) ?_
          refine r_ics 200 rfl (fun c6968 => ?_) (fun c6968 => ?_)
          · have c6968_ : v6967.toInt ≠ a1.toInt := en_i_ne_t c6968
            refine At.enter rfl ?_
            refine q_iinc (w_p1 (by decide) (Or.inr rfl) e6954) (x6937.toInt + 1) rfl (by omega) (fun v6969 hv6969 => ?_)
            refine r_goto ?_
            exact ih6943 (12 - v6969.toInt) _ _ ⟨x6936, v6969, by first | rfl | omega, hI6939, hF6940, e6944, (w_p1 (by decide) (Or.inr rfl) (w_p1 (by decide) (Or.inr rfl) e6945)), (w_p1 (by decide) (Or.inr rfl) (w_p1 (by decide) (Or.inr rfl) e6946)), (w_p1 (by decide) (Or.inr rfl) (w_p1 (by decide) (Or.inr rfl) e6947)), (w_p1 (by decide) (Or.inr rfl) (w_p1 (by decide) (Or.inr rfl) e6948)), (w_p1 (by decide) (Or.inr rfl) (w_p1 (by decide) (Or.inr rfl) e6949)), (w_p1 (by decide) (Or.inr rfl) (w_p1 (by decide) (Or.inr rfl) e6950)), (w_p1 (by decide) (Or.inl (by decide)) (w_p1 (by decide) (Or.inl (by decide)) e6951)), (w_p1 (by decide) (Or.inr rfl) (w_p1 (by decide) (Or.inr rfl) e6952)), (w_p1 (by decide) (Or.inl (by decide)) (w_p1 (by decide) (Or.inl (by decide)) e6953)), (w_e1 _ _ _), by omega⟩ ⟨by omega, by omega⟩
          · have c6968_ : v6967.toInt = a1.toInt := en_i_ne_f c6968
            refine At.enter rfl ?_
            refine r_aload_n (w_p1 (by decide) (Or.inr rfl) e6945) ?_
            refine r_iload (w_e1 _ _ _) ?_
            refine q_inlV 206 rfl [.ref 231, .int v6966] [] (Nat.le_of_ble_eq_true rfl) rfl ?_
            refine Ev.mk rfl rfl ⟨Nat.le_of_ble_eq_true rfl, Or.inr (q_rc hI6939.1 kx_231 rfl)⟩ ?_
            show At _ none _ _ (0, [(0, .ref 231), (1, .int v6966)], [], (_, _)) _
            refine At.enter rfl ?_
            refine r_aload_n rfl ?_
            refine q_getR (Sh.ref hI6939.1 kx_231 rfl) ?_
            refine r_iload_n rfl ?_
            refine r_iconst 5 rfl ?_
            refine q_iadd (v6966.toInt + 5) rfl (by omega) (fun v6970 hv6970 => ?_)
            obtain ⟨v6971, hv6971⟩ : ∃ v, eA g0 233 (900 * v5271.toInt + 8 * x6937.toInt + 117) = v := ⟨_, rfl⟩
            refine q_iald (Sh.arr hI6939.1 ka_233) (900 * v5271.toInt + 8 * x6937.toInt + 117) (by omega) (by omega) v6971 ((eA_c (hF6940.2.1 233 (by decide))).trans hv6971) ?_
            refine r_aload_n rfl ?_
            refine q_getR (Sh.ref hI6939.1 kx_231 rfl) ?_
            refine r_iload_n rfl ?_
            refine r_bipush 6 rfl ?_
            refine q_iadd (v6966.toInt + 6) rfl (by omega) (fun v6972 hv6972 => ?_)
            obtain ⟨v6973, hv6973⟩ : ∃ v, eA g0 233 (900 * v5271.toInt + 8 * x6937.toInt + 118) = v := ⟨_, rfl⟩
            refine q_iald (Sh.arr hI6939.1 ka_233) (900 * v5271.toInt + 8 * x6937.toInt + 118) (by omega) (by omega) v6973 ((eA_c (hF6940.2.1 233 (by decide))).trans hv6973) ?_
            have bv6975 := q_bnd v6971
            have bv6976 := q_bnd v6973
            refine r_ics 20 rfl (fun c6974 => ?_) (fun c6974 => ?_)
            · have c6974_ : v6971.toInt ≥ v6973.toInt := en_i_ge_t c6974
              refine At.enter rfl ?_
              refine r_aload_n rfl ?_
              refine q_getR (Sh.ref hI6939.1 kx_231 rfl) ?_
              refine r_iload_n rfl ?_
              refine q_iald (Sh.arr hI6939.1 ka_233) (900 * v5271.toInt + 8 * x6937.toInt + 112) (by omega) (by omega) v6967 ((eA_c (hF6940.2.1 233 (by decide))).trans hv6967) ?_
              refine r_iconst 2 rfl ?_
              refine r_ics 69 rfl (fun c6977 => ?_) (fun c6977 => ?_)
              · have c6977_ : v6967.toInt ≥ 2 := en_i_ge_t c6977
                refine At.enter rfl ?_
                refine r_iconst 1 rfl ?_
                refine q_iretz (by decide) ?_
                refine At.enter rfl ?_
                refine r_iff 209 rfl (by decide) ?_
                refine At.enter rfl ?_
                refine r_iload_n (w_p1 (by decide) (Or.inr rfl) e6946) ?_
                refine r_iconst 2 rfl ?_
                refine r_ics 214 rfl (fun c6978 => ?_) (fun c6978 => ?_)
                · have c6978_ : a1.toInt ≥ 2 := en_i_ge_t c6978
                  refine At.enter rfl ?_
                  refine r_lconst 1 rfl ?_
                  refine Ar.fall 222 rfl ?_
                  refine At.enter rfl ?_
                  refine r_lstore _ rfl ?_
                  refine Ar.fall 224 rfl ?_
                  refine At.enter rfl ?_
                  refine q_iinc (w_p2 (by decide) (by decide) (Or.inr rfl) (w_p1 (by decide) (Or.inr rfl) e6954)) (x6937.toInt + 1) rfl (by omega) (fun v6979 hv6979 => ?_)
                  refine r_goto ?_
                  exact ih6943 (12 - v6979.toInt) _ _ ⟨1, v6979, by first | rfl | omega, hI6939, hF6940, e6944, (w_p1 (by decide) (Or.inr rfl) (w_p2 (by decide) (by decide) (Or.inr rfl) (w_p1 (by decide) (Or.inr rfl) e6945))), (w_p1 (by decide) (Or.inr rfl) (w_p2 (by decide) (by decide) (Or.inr rfl) (w_p1 (by decide) (Or.inr rfl) e6946))), (w_p1 (by decide) (Or.inr rfl) (w_p2 (by decide) (by decide) (Or.inr rfl) (w_p1 (by decide) (Or.inr rfl) e6947))), (w_p1 (by decide) (Or.inr rfl) (w_p2 (by decide) (by decide) (Or.inr rfl) (w_p1 (by decide) (Or.inr rfl) e6948))), (w_p1 (by decide) (Or.inr rfl) (w_p2 (by decide) (by decide) (Or.inr rfl) (w_p1 (by decide) (Or.inr rfl) e6949))), (w_p1 (by decide) (Or.inr rfl) (w_p2 (by decide) (by decide) (Or.inr rfl) (w_p1 (by decide) (Or.inr rfl) e6950))), (w_p1 (by decide) (Or.inl (by decide)) (w_p2 (by decide) (by decide) (Or.inl (by decide)) (w_p1 (by decide) (Or.inl (by decide)) e6951))), (w_p1 (by decide) (Or.inr rfl) (w_p2 (by decide) (by decide) (Or.inr rfl) (w_p1 (by decide) (Or.inr rfl) e6952))), (w_p1 (by decide) (Or.inl (by decide)) (w_e2 _ _ _)), (w_e1 _ _ _), by omega⟩ ⟨by omega, by omega⟩
                · have c6978_ : a1.toInt < 2 := en_i_ge_f c6978
                  refine At.enter rfl ?_
                  refine r_aload_n (w_p1 (by decide) (Or.inr rfl) e6945) ?_
                  obtain ⟨v6980, hv6980⟩ : ∃ v, gJ g6938 231 32 = v := ⟨_, rfl⟩
                  refine q_getJv (Sh.long hI6939.1 kx_231 rfl) v6980 hv6980 ?_
                  refine r_goto ?_
                  refine At.enter rfl ?_
                  refine r_lstore _ rfl ?_
                  refine Ar.fall 224 rfl ?_
                  refine At.enter rfl ?_
                  refine q_iinc (w_p2 (by decide) (by decide) (Or.inr rfl) (w_p1 (by decide) (Or.inr rfl) e6954)) (x6937.toInt + 1) rfl (by omega) (fun v6981 hv6981 => ?_)
                  refine r_goto ?_
                  exact ih6943 (12 - v6981.toInt) _ _ ⟨v6980, v6981, by first | rfl | omega, hI6939, hF6940, e6944, (w_p1 (by decide) (Or.inr rfl) (w_p2 (by decide) (by decide) (Or.inr rfl) (w_p1 (by decide) (Or.inr rfl) e6945))), (w_p1 (by decide) (Or.inr rfl) (w_p2 (by decide) (by decide) (Or.inr rfl) (w_p1 (by decide) (Or.inr rfl) e6946))), (w_p1 (by decide) (Or.inr rfl) (w_p2 (by decide) (by decide) (Or.inr rfl) (w_p1 (by decide) (Or.inr rfl) e6947))), (w_p1 (by decide) (Or.inr rfl) (w_p2 (by decide) (by decide) (Or.inr rfl) (w_p1 (by decide) (Or.inr rfl) e6948))), (w_p1 (by decide) (Or.inr rfl) (w_p2 (by decide) (by decide) (Or.inr rfl) (w_p1 (by decide) (Or.inr rfl) e6949))), (w_p1 (by decide) (Or.inr rfl) (w_p2 (by decide) (by decide) (Or.inr rfl) (w_p1 (by decide) (Or.inr rfl) e6950))), (w_p1 (by decide) (Or.inl (by decide)) (w_p2 (by decide) (by decide) (Or.inl (by decide)) (w_p1 (by decide) (Or.inl (by decide)) e6951))), (w_p1 (by decide) (Or.inr rfl) (w_p2 (by decide) (by decide) (Or.inr rfl) (w_p1 (by decide) (Or.inr rfl) e6952))), (w_p1 (by decide) (Or.inl (by decide)) (w_e2 _ _ _)), (w_e1 _ _ _), by omega⟩ ⟨by omega, by omega⟩
              · have c6977_ : v6967.toInt < 2 := en_i_ge_f c6977
                refine At.enter rfl ?_
                refine r_aload_n rfl ?_
                refine r_aload_n rfl ?_
                refine q_getR (Sh.ref hI6939.1 kx_231 rfl) ?_
                refine r_iload_n rfl ?_
                refine r_iconst 3 rfl ?_
                refine q_iadd (v6966.toInt + 3) rfl (by omega) (fun v6982 hv6982 => ?_)
                obtain ⟨v6983, hv6983⟩ : ∃ v, eA g0 233 (900 * v5271.toInt + 8 * x6937.toInt + 115) = v := ⟨_, rfl⟩
                refine q_iald (Sh.arr hI6939.1 ka_233) (900 * v5271.toInt + 8 * x6937.toInt + 115) (by omega) (by omega) v6983 ((eA_c (hF6940.2.1 233 (by decide))).trans hv6983) ?_
                refine r_aload_n rfl ?_
                refine q_getR (Sh.ref hI6939.1 kx_231 rfl) ?_
                refine r_iload_n rfl ?_
                refine r_iconst 4 rfl ?_
                refine q_iadd (v6966.toInt + 4) rfl (by omega) (fun v6984 hv6984 => ?_)
                obtain ⟨v6985, hv6985⟩ : ∃ v, eA g0 233 (900 * v5271.toInt + 8 * x6937.toInt + 116) = v := ⟨_, rfl⟩
                refine q_iald (Sh.arr hI6939.1 ka_233) (900 * v5271.toInt + 8 * x6937.toInt + 116) (by omega) (by omega) v6985 ((eA_c (hF6940.2.1 233 (by decide))).trans hv6985) ?_
                refine r_callV 89 rfl [.ref 231, .int v6983, .int v6985] [] (Nat.le_of_ble_eq_true rfl) rfl (T_X11_reckonAll_231 _ hI6939 v6983 v6985 (HI.code hI0 (j := v5271.toInt) (c := x6937.toInt) ⟨by omega, by omega⟩ (hF6940.2.1 233 (by decide)) (by rw [e6944]; omega) (i := (900 * v5271.toInt + 111)) (by omega) (congrArg Int32.toInt hv6960) ⟨by omega, by omega⟩ (i3 := (900 * v5271.toInt + 8 * x6937.toInt + 115)) (i4 := (900 * v5271.toInt + 8 * x6937.toInt + 116)) 3 (by decide) (by omega) (by omega) (congrArg Int32.toInt hv6983) (congrArg Int32.toInt hv6985))) ?_
                rintro _ _ ⟨g6986, rfl, hI6987, hF6988, rfl⟩
                refine At.stn ?_
                have hF6991 := Fr.tr hF6940 hF6988 rfl rfl
                refine At.enter rfl ?_
                refine r_aload_n rfl ?_
                refine r_aload_n rfl ?_
                obtain ⟨v6992, hv6992⟩ : ∃ v, gJ g6986 231 31 = v := ⟨_, rfl⟩
                refine q_getJv (Sh.long hI6987.1 kx_231 rfl) v6992 hv6992 ?_
                refine q_putJ (Sh.long hI6987.1 kx_231 rfl) rfl ?_
                have hI6993 := HI.wJ hI6987 kx_231 rfl (p := 231) (b := 32) (v := v6992)
                have hF6994 := Fr.wJ (p := 231) (b := 32) (v := v6992) hF6991 rfl
                refine r_aload_n rfl ?_
                obtain ⟨v6995, hv6995⟩ : ∃ v, gI g6986 231 30 = v := ⟨_, rfl⟩
                refine q_getI (Sh.int hI6993.1 kx_231 rfl) v6995 ((gI_sJ_ne (by decide)).trans hv6995) ?_
                refine r_ifs 104 rfl (fun c6996 => ?_) (fun c6996 => ?_)
                · have c6996_ : v6995.toInt ≠ 0 := en_k_ne_t c6996
                  refine At.enter rfl ?_
                  refine r_iconst 0 rfl ?_
                  refine Ar.fall 109 rfl ?_
                  refine At.enter rfl ?_
                  refine q_iretz (by decide) ?_
                  refine At.enter rfl ?_
                  refine r_ift (by decide) ?_
                  refine At.enter rfl ?_
                  refine q_iinc (w_p1 (by decide) (Or.inr rfl) e6954) (x6937.toInt + 1) rfl (by omega) (fun v6997 hv6997 => ?_)
                  refine r_goto ?_
                  exact ih6943 (12 - v6997.toInt) _ _ ⟨x6936, v6997, by first | rfl | omega, hI6993, hF6994, (((gI_sJ_ne (by decide)).trans (hF6988.1 231 27 mf_X11_reckonAll_231_231_27)).trans e6944), (w_p1 (by decide) (Or.inr rfl) (w_p1 (by decide) (Or.inr rfl) e6945)), (w_p1 (by decide) (Or.inr rfl) (w_p1 (by decide) (Or.inr rfl) e6946)), (w_p1 (by decide) (Or.inr rfl) (w_p1 (by decide) (Or.inr rfl) e6947)), (w_p1 (by decide) (Or.inr rfl) (w_p1 (by decide) (Or.inr rfl) e6948)), (w_p1 (by decide) (Or.inr rfl) (w_p1 (by decide) (Or.inr rfl) e6949)), (w_p1 (by decide) (Or.inr rfl) (w_p1 (by decide) (Or.inr rfl) e6950)), (w_p1 (by decide) (Or.inl (by decide)) (w_p1 (by decide) (Or.inl (by decide)) e6951)), (w_p1 (by decide) (Or.inr rfl) (w_p1 (by decide) (Or.inr rfl) e6952)), (w_p1 (by decide) (Or.inl (by decide)) (w_p1 (by decide) (Or.inl (by decide)) e6953)), (w_e1 _ _ _), by omega⟩ ⟨by omega, by omega⟩
                · have c6996_ : v6995.toInt = 0 := en_k_ne_f c6996
                  refine At.enter rfl ?_
                  refine r_iconst 1 rfl ?_
                  refine r_goto ?_
                  refine At.enter rfl ?_
                  refine q_iretz (by decide) ?_
                  refine At.enter rfl ?_
                  refine r_iff 209 rfl (by decide) ?_
                  refine At.enter rfl ?_
                  refine r_iload_n (w_p1 (by decide) (Or.inr rfl) e6946) ?_
                  refine r_iconst 2 rfl ?_
                  refine r_ics 214 rfl (fun c6998 => ?_) (fun c6998 => ?_)
                  · have c6998_ : a1.toInt ≥ 2 := en_i_ge_t c6998
                    refine At.enter rfl ?_
                    refine r_lconst 1 rfl ?_
                    refine Ar.fall 222 rfl ?_
                    refine At.enter rfl ?_
                    refine r_lstore _ rfl ?_
                    refine Ar.fall 224 rfl ?_
                    refine At.enter rfl ?_
                    refine q_iinc (w_p2 (by decide) (by decide) (Or.inr rfl) (w_p1 (by decide) (Or.inr rfl) e6954)) (x6937.toInt + 1) rfl (by omega) (fun v6999 hv6999 => ?_)
                    refine r_goto ?_
                    exact ih6943 (12 - v6999.toInt) _ _ ⟨1, v6999, by first | rfl | omega, hI6993, hF6994, (((gI_sJ_ne (by decide)).trans (hF6988.1 231 27 mf_X11_reckonAll_231_231_27)).trans e6944), (w_p1 (by decide) (Or.inr rfl) (w_p2 (by decide) (by decide) (Or.inr rfl) (w_p1 (by decide) (Or.inr rfl) e6945))), (w_p1 (by decide) (Or.inr rfl) (w_p2 (by decide) (by decide) (Or.inr rfl) (w_p1 (by decide) (Or.inr rfl) e6946))), (w_p1 (by decide) (Or.inr rfl) (w_p2 (by decide) (by decide) (Or.inr rfl) (w_p1 (by decide) (Or.inr rfl) e6947))), (w_p1 (by decide) (Or.inr rfl) (w_p2 (by decide) (by decide) (Or.inr rfl) (w_p1 (by decide) (Or.inr rfl) e6948))), (w_p1 (by decide) (Or.inr rfl) (w_p2 (by decide) (by decide) (Or.inr rfl) (w_p1 (by decide) (Or.inr rfl) e6949))), (w_p1 (by decide) (Or.inr rfl) (w_p2 (by decide) (by decide) (Or.inr rfl) (w_p1 (by decide) (Or.inr rfl) e6950))), (w_p1 (by decide) (Or.inl (by decide)) (w_p2 (by decide) (by decide) (Or.inl (by decide)) (w_p1 (by decide) (Or.inl (by decide)) e6951))), (w_p1 (by decide) (Or.inr rfl) (w_p2 (by decide) (by decide) (Or.inr rfl) (w_p1 (by decide) (Or.inr rfl) e6952))), (w_p1 (by decide) (Or.inl (by decide)) (w_e2 _ _ _)), (w_e1 _ _ _), by omega⟩ ⟨by omega, by omega⟩
                  · have c6998_ : a1.toInt < 2 := en_i_ge_f c6998
                    refine At.enter rfl ?_
                    refine r_aload_n (w_p1 (by decide) (Or.inr rfl) e6945) ?_
                    refine q_getJv (Sh.long hI6993.1 kx_231 rfl) v6992 (gJ_sJ_eq hI6987.1 kx_231 rfl _) ?_
                    refine r_goto ?_
                    refine At.enter rfl ?_
                    refine r_lstore _ rfl ?_
                    refine Ar.fall 224 rfl ?_
                    refine At.enter rfl ?_
                    refine q_iinc (w_p2 (by decide) (by decide) (Or.inr rfl) (w_p1 (by decide) (Or.inr rfl) e6954)) (x6937.toInt + 1) rfl (by omega) (fun v7000 hv7000 => ?_)
                    refine r_goto ?_
                    exact ih6943 (12 - v7000.toInt) _ _ ⟨v6992, v7000, by first | rfl | omega, hI6993, hF6994, (((gI_sJ_ne (by decide)).trans (hF6988.1 231 27 mf_X11_reckonAll_231_231_27)).trans e6944), (w_p1 (by decide) (Or.inr rfl) (w_p2 (by decide) (by decide) (Or.inr rfl) (w_p1 (by decide) (Or.inr rfl) e6945))), (w_p1 (by decide) (Or.inr rfl) (w_p2 (by decide) (by decide) (Or.inr rfl) (w_p1 (by decide) (Or.inr rfl) e6946))), (w_p1 (by decide) (Or.inr rfl) (w_p2 (by decide) (by decide) (Or.inr rfl) (w_p1 (by decide) (Or.inr rfl) e6947))), (w_p1 (by decide) (Or.inr rfl) (w_p2 (by decide) (by decide) (Or.inr rfl) (w_p1 (by decide) (Or.inr rfl) e6948))), (w_p1 (by decide) (Or.inr rfl) (w_p2 (by decide) (by decide) (Or.inr rfl) (w_p1 (by decide) (Or.inr rfl) e6949))), (w_p1 (by decide) (Or.inr rfl) (w_p2 (by decide) (by decide) (Or.inr rfl) (w_p1 (by decide) (Or.inr rfl) e6950))), (w_p1 (by decide) (Or.inl (by decide)) (w_p2 (by decide) (by decide) (Or.inl (by decide)) (w_p1 (by decide) (Or.inl (by decide)) e6951))), (w_p1 (by decide) (Or.inr rfl) (w_p2 (by decide) (by decide) (Or.inr rfl) (w_p1 (by decide) (Or.inr rfl) e6952))), (w_p1 (by decide) (Or.inl (by decide)) (w_e2 _ _ _)), (w_e1 _ _ _), by omega⟩ ⟨by omega, by omega⟩
            · have c6974_ : v6971.toInt < v6973.toInt := en_i_ge_f c6974
              refine At.enter rfl ?_
              refine r_aload_n rfl ?_
              refine r_aload_n rfl ?_
              refine q_getR (Sh.ref hI6939.1 kx_231 rfl) ?_
              refine r_iload_n rfl ?_
              refine r_iconst 5 rfl ?_
              refine q_iadd (v6966.toInt + 5) rfl (by omega) (fun v7001 hv7001 => ?_)
              refine q_iald (Sh.arr hI6939.1 ka_233) (900 * v5271.toInt + 8 * x6937.toInt + 117) (by omega) (by omega) v6971 ((eA_c (hF6940.2.1 233 (by decide))).trans hv6971) ?_
              refine r_aload_n rfl ?_
              refine q_getR (Sh.ref hI6939.1 kx_231 rfl) ?_
              refine r_iload_n rfl ?_
              refine r_bipush 6 rfl ?_
              refine q_iadd (v6966.toInt + 6) rfl (by omega) (fun v7002 hv7002 => ?_)
              refine q_iald (Sh.arr hI6939.1 ka_233) (900 * v5271.toInt + 8 * x6937.toInt + 118) (by omega) (by omega) v6973 ((eA_c (hF6940.2.1 233 (by decide))).trans hv6973) ?_
              refine r_callV 41 rfl [.ref 231, .int v6971, .int v6973] [] (Nat.le_of_ble_eq_true rfl) rfl (T_X11_reckonAll_231 _ hI6939 v6971 v6973 (HI.code hI0 (j := v5271.toInt) (c := x6937.toInt) ⟨by omega, by omega⟩ (hF6940.2.1 233 (by decide)) (by rw [e6944]; omega) (i := (900 * v5271.toInt + 111)) (by omega) (congrArg Int32.toInt hv6960) ⟨by omega, by omega⟩ (i3 := (900 * v5271.toInt + 8 * x6937.toInt + 117)) (i4 := (900 * v5271.toInt + 8 * x6937.toInt + 118)) 5 (by decide) (by omega) (by omega) (congrArg Int32.toInt hv6971) (congrArg Int32.toInt hv6973))) ?_
              rintro _ _ ⟨g7003, rfl, hI7004, hF7005, rfl⟩
              refine At.stn ?_
              have hF7008 := Fr.tr hF6940 hF7005 rfl rfl
              refine At.enter rfl ?_
              refine r_aload_n rfl ?_
              obtain ⟨v7009, hv7009⟩ : ∃ v, gI g7003 231 30 = v := ⟨_, rfl⟩
              refine q_getI (Sh.int hI7004.1 kx_231 rfl) v7009 hv7009 ?_
              refine r_ifs 48 rfl (fun c7010 => ?_) (fun c7010 => ?_)
              · have c7010_ : v7009.toInt ≠ 0 := en_k_ne_t c7010
                refine At.enter rfl ?_
                refine r_iconst 0 rfl ?_
                refine q_iretz (by decide) ?_
                refine At.enter rfl ?_
                refine r_ift (by decide) ?_
                refine At.enter rfl ?_
                refine q_iinc (w_p1 (by decide) (Or.inr rfl) e6954) (x6937.toInt + 1) rfl (by omega) (fun v7011 hv7011 => ?_)
                refine r_goto ?_
                exact ih6943 (12 - v7011.toInt) _ _ ⟨x6936, v7011, by first | rfl | omega, hI7004, hF7008, ((hF7005.1 231 27 mf_X11_reckonAll_231_231_27).trans e6944), (w_p1 (by decide) (Or.inr rfl) (w_p1 (by decide) (Or.inr rfl) e6945)), (w_p1 (by decide) (Or.inr rfl) (w_p1 (by decide) (Or.inr rfl) e6946)), (w_p1 (by decide) (Or.inr rfl) (w_p1 (by decide) (Or.inr rfl) e6947)), (w_p1 (by decide) (Or.inr rfl) (w_p1 (by decide) (Or.inr rfl) e6948)), (w_p1 (by decide) (Or.inr rfl) (w_p1 (by decide) (Or.inr rfl) e6949)), (w_p1 (by decide) (Or.inr rfl) (w_p1 (by decide) (Or.inr rfl) e6950)), (w_p1 (by decide) (Or.inl (by decide)) (w_p1 (by decide) (Or.inl (by decide)) e6951)), (w_p1 (by decide) (Or.inr rfl) (w_p1 (by decide) (Or.inr rfl) e6952)), (w_p1 (by decide) (Or.inl (by decide)) (w_p1 (by decide) (Or.inl (by decide)) e6953)), (w_e1 _ _ _), by omega⟩ ⟨by omega, by omega⟩
              · have c7010_ : v7009.toInt = 0 := en_k_ne_f c7010
                refine At.enter rfl ?_
                refine r_aload_n rfl ?_
                obtain ⟨v7012, hv7012⟩ : ∃ v, gJ g7003 231 31 = v := ⟨_, rfl⟩
                refine q_getJv (Sh.long hI7004.1 kx_231 rfl) v7012 hv7012 ?_
                refine r_lconst 0 rfl ?_
                refine r_lcmp _ rfl ?_
                refine r_ifs 57 rfl (fun c7013 => ?_) (fun c7013 => ?_)
                · have c7013_ : v7012.toInt ≠ 0 := en_j_ne_t c7013
                  refine At.enter rfl ?_
                  refine r_aload_n rfl ?_
                  refine q_getR (Sh.ref hI7004.1 kx_231 rfl) ?_
                  refine r_iload_n rfl ?_
                  refine q_iald (Sh.arr hI7004.1 ka_233) (900 * v5271.toInt + 8 * x6937.toInt + 112) (by omega) (by omega) v6967 ((eA_c ((hF7005.2.1 233 ma_X11_reckonAll_231_233).trans (hF6940.2.1 233 (by decide)))).trans hv6967) ?_
                  refine r_iconst 2 rfl ?_
                  refine r_ics 69 rfl (fun c7014 => ?_) (fun c7014 => ?_)
                  · have c7014_ : v6967.toInt ≥ 2 := en_i_ge_t c7014
                    refine At.enter rfl ?_
                    refine r_iconst 1 rfl ?_
                    refine q_iretz (by decide) ?_
                    refine At.enter rfl ?_
                    refine r_iff 209 rfl (by decide) ?_
                    refine At.enter rfl ?_
                    refine r_iload_n (w_p1 (by decide) (Or.inr rfl) e6946) ?_
                    refine r_iconst 2 rfl ?_
                    refine r_ics 214 rfl (fun c7015 => ?_) (fun c7015 => ?_)
                    · have c7015_ : a1.toInt ≥ 2 := en_i_ge_t c7015
                      refine At.enter rfl ?_
                      refine r_lconst 1 rfl ?_
                      refine Ar.fall 222 rfl ?_
                      refine At.enter rfl ?_
                      refine r_lstore _ rfl ?_
                      refine Ar.fall 224 rfl ?_
                      refine At.enter rfl ?_
                      refine q_iinc (w_p2 (by decide) (by decide) (Or.inr rfl) (w_p1 (by decide) (Or.inr rfl) e6954)) (x6937.toInt + 1) rfl (by omega) (fun v7016 hv7016 => ?_)
                      refine r_goto ?_
                      exact ih6943 (12 - v7016.toInt) _ _ ⟨1, v7016, by first | rfl | omega, hI7004, hF7008, ((hF7005.1 231 27 mf_X11_reckonAll_231_231_27).trans e6944), (w_p1 (by decide) (Or.inr rfl) (w_p2 (by decide) (by decide) (Or.inr rfl) (w_p1 (by decide) (Or.inr rfl) e6945))), (w_p1 (by decide) (Or.inr rfl) (w_p2 (by decide) (by decide) (Or.inr rfl) (w_p1 (by decide) (Or.inr rfl) e6946))), (w_p1 (by decide) (Or.inr rfl) (w_p2 (by decide) (by decide) (Or.inr rfl) (w_p1 (by decide) (Or.inr rfl) e6947))), (w_p1 (by decide) (Or.inr rfl) (w_p2 (by decide) (by decide) (Or.inr rfl) (w_p1 (by decide) (Or.inr rfl) e6948))), (w_p1 (by decide) (Or.inr rfl) (w_p2 (by decide) (by decide) (Or.inr rfl) (w_p1 (by decide) (Or.inr rfl) e6949))), (w_p1 (by decide) (Or.inr rfl) (w_p2 (by decide) (by decide) (Or.inr rfl) (w_p1 (by decide) (Or.inr rfl) e6950))), (w_p1 (by decide) (Or.inl (by decide)) (w_p2 (by decide) (by decide) (Or.inl (by decide)) (w_p1 (by decide) (Or.inl (by decide)) e6951))), (w_p1 (by decide) (Or.inr rfl) (w_p2 (by decide) (by decide) (Or.inr rfl) (w_p1 (by decide) (Or.inr rfl) e6952))), (w_p1 (by decide) (Or.inl (by decide)) (w_e2 _ _ _)), (w_e1 _ _ _), by omega⟩ ⟨by omega, by omega⟩
                    · have c7015_ : a1.toInt < 2 := en_i_ge_f c7015
                      refine At.enter rfl ?_
                      refine r_aload_n (w_p1 (by decide) (Or.inr rfl) e6945) ?_
                      obtain ⟨v7017, hv7017⟩ : ∃ v, gJ g6938 231 32 = v := ⟨_, rfl⟩
                      refine q_getJv (Sh.long hI7004.1 kx_231 rfl) v7017 ((hF7005.2.2 231 32 mf_X11_reckonAll_231_231_32).trans hv7017) ?_
                      refine r_goto ?_
                      refine At.enter rfl ?_
                      refine r_lstore _ rfl ?_
                      refine Ar.fall 224 rfl ?_
                      refine At.enter rfl ?_
                      refine q_iinc (w_p2 (by decide) (by decide) (Or.inr rfl) (w_p1 (by decide) (Or.inr rfl) e6954)) (x6937.toInt + 1) rfl (by omega) (fun v7018 hv7018 => ?_)
                      refine r_goto ?_
                      exact ih6943 (12 - v7018.toInt) _ _ ⟨v7017, v7018, by first | rfl | omega, hI7004, hF7008, ((hF7005.1 231 27 mf_X11_reckonAll_231_231_27).trans e6944), (w_p1 (by decide) (Or.inr rfl) (w_p2 (by decide) (by decide) (Or.inr rfl) (w_p1 (by decide) (Or.inr rfl) e6945))), (w_p1 (by decide) (Or.inr rfl) (w_p2 (by decide) (by decide) (Or.inr rfl) (w_p1 (by decide) (Or.inr rfl) e6946))), (w_p1 (by decide) (Or.inr rfl) (w_p2 (by decide) (by decide) (Or.inr rfl) (w_p1 (by decide) (Or.inr rfl) e6947))), (w_p1 (by decide) (Or.inr rfl) (w_p2 (by decide) (by decide) (Or.inr rfl) (w_p1 (by decide) (Or.inr rfl) e6948))), (w_p1 (by decide) (Or.inr rfl) (w_p2 (by decide) (by decide) (Or.inr rfl) (w_p1 (by decide) (Or.inr rfl) e6949))), (w_p1 (by decide) (Or.inr rfl) (w_p2 (by decide) (by decide) (Or.inr rfl) (w_p1 (by decide) (Or.inr rfl) e6950))), (w_p1 (by decide) (Or.inl (by decide)) (w_p2 (by decide) (by decide) (Or.inl (by decide)) (w_p1 (by decide) (Or.inl (by decide)) e6951))), (w_p1 (by decide) (Or.inr rfl) (w_p2 (by decide) (by decide) (Or.inr rfl) (w_p1 (by decide) (Or.inr rfl) e6952))), (w_p1 (by decide) (Or.inl (by decide)) (w_e2 _ _ _)), (w_e1 _ _ _), by omega⟩ ⟨by omega, by omega⟩
                  · have c7014_ : v6967.toInt < 2 := en_i_ge_f c7014
                    refine At.enter rfl ?_
                    refine r_aload_n rfl ?_
                    refine r_aload_n rfl ?_
                    refine q_getR (Sh.ref hI7004.1 kx_231 rfl) ?_
                    refine r_iload_n rfl ?_
                    refine r_iconst 3 rfl ?_
                    refine q_iadd (v6966.toInt + 3) rfl (by omega) (fun v7019 hv7019 => ?_)
                    obtain ⟨v7020, hv7020⟩ : ∃ v, eA g0 233 (900 * v5271.toInt + 8 * x6937.toInt + 115) = v := ⟨_, rfl⟩
                    refine q_iald (Sh.arr hI7004.1 ka_233) (900 * v5271.toInt + 8 * x6937.toInt + 115) (by omega) (by omega) v7020 ((eA_c ((hF7005.2.1 233 ma_X11_reckonAll_231_233).trans (hF6940.2.1 233 (by decide)))).trans hv7020) ?_
                    refine r_aload_n rfl ?_
                    refine q_getR (Sh.ref hI7004.1 kx_231 rfl) ?_
                    refine r_iload_n rfl ?_
                    refine r_iconst 4 rfl ?_
                    refine q_iadd (v6966.toInt + 4) rfl (by omega) (fun v7021 hv7021 => ?_)
                    obtain ⟨v7022, hv7022⟩ : ∃ v, eA g0 233 (900 * v5271.toInt + 8 * x6937.toInt + 116) = v := ⟨_, rfl⟩
                    refine q_iald (Sh.arr hI7004.1 ka_233) (900 * v5271.toInt + 8 * x6937.toInt + 116) (by omega) (by omega) v7022 ((eA_c ((hF7005.2.1 233 ma_X11_reckonAll_231_233).trans (hF6940.2.1 233 (by decide)))).trans hv7022) ?_
                    refine r_callV 89 rfl [.ref 231, .int v7020, .int v7022] [] (Nat.le_of_ble_eq_true rfl) rfl (T_X11_reckonAll_231 _ hI7004 v7020 v7022 (HI.code hI0 (j := v5271.toInt) (c := x6937.toInt) ⟨by omega, by omega⟩ ((hF7005.2.1 233 ma_X11_reckonAll_231_233).trans (hF6940.2.1 233 (by decide))) (by rw [((hF7005.1 231 27 mf_X11_reckonAll_231_231_27).trans e6944)]; omega) (i := (900 * v5271.toInt + 111)) (by omega) (congrArg Int32.toInt hv6960) ⟨by omega, by omega⟩ (i3 := (900 * v5271.toInt + 8 * x6937.toInt + 115)) (i4 := (900 * v5271.toInt + 8 * x6937.toInt + 116)) 3 (by decide) (by omega) (by omega) (congrArg Int32.toInt hv7020) (congrArg Int32.toInt hv7022))) ?_
                    rintro _ _ ⟨g7023, rfl, hI7024, hF7025, rfl⟩
                    refine At.stn ?_
                    have hF7028 := Fr.tr hF7008 hF7025 rfl rfl
                    refine At.enter rfl ?_
                    refine r_aload_n rfl ?_
                    refine r_aload_n rfl ?_
                    obtain ⟨v7029, hv7029⟩ : ∃ v, gJ g7023 231 31 = v := ⟨_, rfl⟩
                    refine q_getJv (Sh.long hI7024.1 kx_231 rfl) v7029 hv7029 ?_
                    refine q_putJ (Sh.long hI7024.1 kx_231 rfl) rfl ?_
                    have hI7030 := HI.wJ hI7024 kx_231 rfl (p := 231) (b := 32) (v := v7029)
                    have hF7031 := Fr.wJ (p := 231) (b := 32) (v := v7029) hF7028 rfl
                    refine r_aload_n rfl ?_
                    obtain ⟨v7032, hv7032⟩ : ∃ v, gI g7023 231 30 = v := ⟨_, rfl⟩
                    refine q_getI (Sh.int hI7030.1 kx_231 rfl) v7032 ((gI_sJ_ne (by decide)).trans hv7032) ?_
                    refine r_ifs 104 rfl (fun c7033 => ?_) (fun c7033 => ?_)
                    · have c7033_ : v7032.toInt ≠ 0 := en_k_ne_t c7033
                      refine At.enter rfl ?_
                      refine r_iconst 0 rfl ?_
                      refine Ar.fall 109 rfl ?_
                      refine At.enter rfl ?_
                      refine q_iretz (by decide) ?_
                      refine At.enter rfl ?_
                      refine r_ift (by decide) ?_
                      refine At.enter rfl ?_
                      refine q_iinc (w_p1 (by decide) (Or.inr rfl) e6954) (x6937.toInt + 1) rfl (by omega) (fun v7034 hv7034 => ?_)
                      refine r_goto ?_
                      exact ih6943 (12 - v7034.toInt) _ _ ⟨x6936, v7034, by first | rfl | omega, hI7030, hF7031, (((gI_sJ_ne (by decide)).trans ((hF7025.1 231 27 mf_X11_reckonAll_231_231_27).trans (hF7005.1 231 27 mf_X11_reckonAll_231_231_27))).trans e6944), (w_p1 (by decide) (Or.inr rfl) (w_p1 (by decide) (Or.inr rfl) e6945)), (w_p1 (by decide) (Or.inr rfl) (w_p1 (by decide) (Or.inr rfl) e6946)), (w_p1 (by decide) (Or.inr rfl) (w_p1 (by decide) (Or.inr rfl) e6947)), (w_p1 (by decide) (Or.inr rfl) (w_p1 (by decide) (Or.inr rfl) e6948)), (w_p1 (by decide) (Or.inr rfl) (w_p1 (by decide) (Or.inr rfl) e6949)), (w_p1 (by decide) (Or.inr rfl) (w_p1 (by decide) (Or.inr rfl) e6950)), (w_p1 (by decide) (Or.inl (by decide)) (w_p1 (by decide) (Or.inl (by decide)) e6951)), (w_p1 (by decide) (Or.inr rfl) (w_p1 (by decide) (Or.inr rfl) e6952)), (w_p1 (by decide) (Or.inl (by decide)) (w_p1 (by decide) (Or.inl (by decide)) e6953)), (w_e1 _ _ _), by omega⟩ ⟨by omega, by omega⟩
                    · have c7033_ : v7032.toInt = 0 := en_k_ne_f c7033
                      refine At.enter rfl ?_
                      refine r_iconst 1 rfl ?_
                      refine r_goto ?_
                      refine At.enter rfl ?_
                      refine q_iretz (by decide) ?_
                      refine At.enter rfl ?_
                      refine r_iff 209 rfl (by decide) ?_
                      refine At.enter rfl ?_
                      refine r_iload_n (w_p1 (by decide) (Or.inr rfl) e6946) ?_
                      refine r_iconst 2 rfl ?_
                      refine r_ics 214 rfl (fun c7035 => ?_) (fun c7035 => ?_)
                      · have c7035_ : a1.toInt ≥ 2 := en_i_ge_t c7035
                        refine At.enter rfl ?_
                        refine r_lconst 1 rfl ?_
                        refine Ar.fall 222 rfl ?_
                        refine At.enter rfl ?_
                        refine r_lstore _ rfl ?_
                        refine Ar.fall 224 rfl ?_
                        refine At.enter rfl ?_
                        refine q_iinc (w_p2 (by decide) (by decide) (Or.inr rfl) (w_p1 (by decide) (Or.inr rfl) e6954)) (x6937.toInt + 1) rfl (by omega) (fun v7036 hv7036 => ?_)
                        refine r_goto ?_
                        exact ih6943 (12 - v7036.toInt) _ _ ⟨1, v7036, by first | rfl | omega, hI7030, hF7031, (((gI_sJ_ne (by decide)).trans ((hF7025.1 231 27 mf_X11_reckonAll_231_231_27).trans (hF7005.1 231 27 mf_X11_reckonAll_231_231_27))).trans e6944), (w_p1 (by decide) (Or.inr rfl) (w_p2 (by decide) (by decide) (Or.inr rfl) (w_p1 (by decide) (Or.inr rfl) e6945))), (w_p1 (by decide) (Or.inr rfl) (w_p2 (by decide) (by decide) (Or.inr rfl) (w_p1 (by decide) (Or.inr rfl) e6946))), (w_p1 (by decide) (Or.inr rfl) (w_p2 (by decide) (by decide) (Or.inr rfl) (w_p1 (by decide) (Or.inr rfl) e6947))), (w_p1 (by decide) (Or.inr rfl) (w_p2 (by decide) (by decide) (Or.inr rfl) (w_p1 (by decide) (Or.inr rfl) e6948))), (w_p1 (by decide) (Or.inr rfl) (w_p2 (by decide) (by decide) (Or.inr rfl) (w_p1 (by decide) (Or.inr rfl) e6949))), (w_p1 (by decide) (Or.inr rfl) (w_p2 (by decide) (by decide) (Or.inr rfl) (w_p1 (by decide) (Or.inr rfl) e6950))), (w_p1 (by decide) (Or.inl (by decide)) (w_p2 (by decide) (by decide) (Or.inl (by decide)) (w_p1 (by decide) (Or.inl (by decide)) e6951))), (w_p1 (by decide) (Or.inr rfl) (w_p2 (by decide) (by decide) (Or.inr rfl) (w_p1 (by decide) (Or.inr rfl) e6952))), (w_p1 (by decide) (Or.inl (by decide)) (w_e2 _ _ _)), (w_e1 _ _ _), by omega⟩ ⟨by omega, by omega⟩
                      · have c7035_ : a1.toInt < 2 := en_i_ge_f c7035
                        refine At.enter rfl ?_
                        refine r_aload_n (w_p1 (by decide) (Or.inr rfl) e6945) ?_
                        refine q_getJv (Sh.long hI7030.1 kx_231 rfl) v7029 (gJ_sJ_eq hI7024.1 kx_231 rfl _) ?_
                        refine r_goto ?_
                        refine At.enter rfl ?_
                        refine r_lstore _ rfl ?_
                        refine Ar.fall 224 rfl ?_
                        refine At.enter rfl ?_
                        refine q_iinc (w_p2 (by decide) (by decide) (Or.inr rfl) (w_p1 (by decide) (Or.inr rfl) e6954)) (x6937.toInt + 1) rfl (by omega) (fun v7037 hv7037 => ?_)
                        refine r_goto ?_
                        exact ih6943 (12 - v7037.toInt) _ _ ⟨v7029, v7037, by first | rfl | omega, hI7030, hF7031, (((gI_sJ_ne (by decide)).trans ((hF7025.1 231 27 mf_X11_reckonAll_231_231_27).trans (hF7005.1 231 27 mf_X11_reckonAll_231_231_27))).trans e6944), (w_p1 (by decide) (Or.inr rfl) (w_p2 (by decide) (by decide) (Or.inr rfl) (w_p1 (by decide) (Or.inr rfl) e6945))), (w_p1 (by decide) (Or.inr rfl) (w_p2 (by decide) (by decide) (Or.inr rfl) (w_p1 (by decide) (Or.inr rfl) e6946))), (w_p1 (by decide) (Or.inr rfl) (w_p2 (by decide) (by decide) (Or.inr rfl) (w_p1 (by decide) (Or.inr rfl) e6947))), (w_p1 (by decide) (Or.inr rfl) (w_p2 (by decide) (by decide) (Or.inr rfl) (w_p1 (by decide) (Or.inr rfl) e6948))), (w_p1 (by decide) (Or.inr rfl) (w_p2 (by decide) (by decide) (Or.inr rfl) (w_p1 (by decide) (Or.inr rfl) e6949))), (w_p1 (by decide) (Or.inr rfl) (w_p2 (by decide) (by decide) (Or.inr rfl) (w_p1 (by decide) (Or.inr rfl) e6950))), (w_p1 (by decide) (Or.inl (by decide)) (w_p2 (by decide) (by decide) (Or.inl (by decide)) (w_p1 (by decide) (Or.inl (by decide)) e6951))), (w_p1 (by decide) (Or.inr rfl) (w_p2 (by decide) (by decide) (Or.inr rfl) (w_p1 (by decide) (Or.inr rfl) e6952))), (w_p1 (by decide) (Or.inl (by decide)) (w_e2 _ _ _)), (w_e1 _ _ _), by omega⟩ ⟨by omega, by omega⟩
                · have c7013_ : v7012.toInt = 0 := en_j_ne_f c7013
                  refine At.enter rfl ?_
                  refine r_iconst 0 rfl ?_
                  refine q_iretz (by decide) ?_
                  refine At.enter rfl ?_
                  refine r_ift (by decide) ?_
                  refine At.enter rfl ?_
                  refine q_iinc (w_p1 (by decide) (Or.inr rfl) e6954) (x6937.toInt + 1) rfl (by omega) (fun v7038 hv7038 => ?_)
                  refine r_goto ?_
                  exact ih6943 (12 - v7038.toInt) _ _ ⟨x6936, v7038, by first | rfl | omega, hI7004, hF7008, ((hF7005.1 231 27 mf_X11_reckonAll_231_231_27).trans e6944), (w_p1 (by decide) (Or.inr rfl) (w_p1 (by decide) (Or.inr rfl) e6945)), (w_p1 (by decide) (Or.inr rfl) (w_p1 (by decide) (Or.inr rfl) e6946)), (w_p1 (by decide) (Or.inr rfl) (w_p1 (by decide) (Or.inr rfl) e6947)), (w_p1 (by decide) (Or.inr rfl) (w_p1 (by decide) (Or.inr rfl) e6948)), (w_p1 (by decide) (Or.inr rfl) (w_p1 (by decide) (Or.inr rfl) e6949)), (w_p1 (by decide) (Or.inr rfl) (w_p1 (by decide) (Or.inr rfl) e6950)), (w_p1 (by decide) (Or.inl (by decide)) (w_p1 (by decide) (Or.inl (by decide)) e6951)), (w_p1 (by decide) (Or.inr rfl) (w_p1 (by decide) (Or.inr rfl) e6952)), (w_p1 (by decide) (Or.inl (by decide)) (w_p1 (by decide) (Or.inl (by decide)) e6953)), (w_e1 _ _ _), by omega⟩ ⟨by omega, by omega⟩
      · have c6172_ : v5301.toInt ≤ v5304.toInt := en_j_gt_f c6172
        refine At.enter rfl ?_
        refine r_iconst 1 rfl ?_
        refine r_goto ?_
        refine At.enter rfl ?_
        refine q_iretz (by decide) ?_
        refine At.enter rfl ?_
        refine q_iretz (by decide) ?_
        refine At.enter rfl ?_
        refine r_iff 94 rfl (by decide) ?_
        refine At.enter rfl ?_
        refine r_iload rfl ?_
        refine q_i2l (fun v7039 hv7039 => ?_)
        refine r_goto ?_
        refine At.enter rfl ?_
        refine q_last (Sh.lar hI5299.1 ka_244) (5) rfl (by decide) ?_
        have hI7040 := HI.wK hI5299 ka_244 (5) (v7039) (by decide)
        have hF7041 := Fr.wK (p := 244) (j := 5) (v := v7039) hF5300
        refine r_aload_n rfl ?_
        refine q_getR (Sh.ref hI7040.1 kx_231 rfl) ?_
        refine r_bipush 6 rfl ?_
        refine r_iload rfl ?_
        refine q_i2l (fun v7042 hv7042 => ?_)
        refine q_last (Sh.lar hI7040.1 ka_244) (6) rfl (by decide) ?_
        have hI7043 := HI.wK hI7040 ka_244 (6) (v7042) (by decide)
        have hF7044 := Fr.wK (p := 244) (j := 6) (v := v7042) hF7041
        refine r_aload_n rfl ?_
        refine q_getR (Sh.ref hI7043.1 kx_231 rfl) ?_
        refine r_bipush 7 rfl ?_
        refine r_iload rfl ?_
        refine q_i2l (fun v7045 hv7045 => ?_)
        refine q_last (Sh.lar hI7043.1 ka_244) (7) rfl (by decide) ?_
        have hI7046 := HI.wK hI7043 ka_244 (7) (v7045) (by decide)
        have hF7047 := Fr.wK (p := 244) (j := 7) (v := v7045) hF7044
        refine r_aload_n rfl ?_
        refine q_getR (Sh.ref hI7046.1 kx_231 rfl) ?_
        refine r_bipush 8 rfl ?_
        refine r_aload_n rfl ?_
        refine q_getR (Sh.ref hI7046.1 kx_231 rfl) ?_
        refine r_iload_n rfl ?_
        obtain ⟨v7048, hv7048⟩ : ∃ v, eA g0 246 a3.toInt = v := ⟨_, rfl⟩
        refine q_iald (Sh.arr hI7046.1 ka_246) a3.toInt rfl (by omega) v7048 ((eA_c ((gA_sX).trans ((gA_sX).trans ((gA_sX).trans ((gA_sX).trans ((gA_sX).trans ((gA_sX).trans ((gA_sX).trans (gA_sI))))))))).trans hv7048) ?_
        refine q_i2l (fun v7049 hv7049 => ?_)
        refine q_last (Sh.lar hI7046.1 ka_244) (8) rfl (by decide) ?_
        have hI7050 := HI.wK hI7046 ka_244 (8) (v7049) (by decide)
        have hF7051 := Fr.wK (p := 244) (j := 8) (v := v7049) hF7047
        refine r_aload_n rfl ?_
        refine q_getR (Sh.ref hI7050.1 kx_231 rfl) ?_
        refine r_bipush 9 rfl ?_
        refine r_aload_n rfl ?_
        refine q_getR (Sh.ref hI7050.1 kx_231 rfl) ?_
        refine r_iload_n rfl ?_
        obtain ⟨v7052, hv7052⟩ : ∃ v, eA g0 247 a3.toInt = v := ⟨_, rfl⟩
        refine q_iald (Sh.arr hI7050.1 ka_247) a3.toInt rfl (by omega) v7052 ((eA_c ((gA_sX).trans ((gA_sX).trans ((gA_sX).trans ((gA_sX).trans ((gA_sX).trans ((gA_sX).trans ((gA_sX).trans ((gA_sX).trans (gA_sI)))))))))).trans hv7052) ?_
        refine q_i2l (fun v7053 hv7053 => ?_)
        refine q_last (Sh.lar hI7050.1 ka_244) (9) rfl (by decide) ?_
        have hI7054 := HI.wK hI7050 ka_244 (9) (v7053) (by decide)
        have hF7055 := Fr.wK (p := 244) (j := 9) (v := v7053) hF7051
        refine r_lload rfl ?_
        refine r_lstore ([(9, .long a6), (8, .int v5280), (0, .ref 231), (1, .int a1), (2, .int a2), (3, .int a3), (4, .int a4), (5, .int a5), (6, .long a6)]) rfl ?_
        refine r_iconst 0 rfl ?_
        refine r_istore ([(11, .int 0), (9, .long a6), (8, .int v5280), (0, .ref 231), (1, .int a1), (2, .int a2), (3, .int a3), (4, .int a4), (5, .int a5), (6, .long a6)]) rfl ?_
        refine Ar.fall 159 rfl ?_
        have z_7823 : (0 : Int32).toInt = 0 := rfl
        refine w_loopI (fun n_ l_ g_ => ∃ x7803 : Int64, ∃ x7804 : Int32, n_ = 12 - x7804.toInt ∧ HI g_ ∧ Fr F_X11_tells_231 A_X11_tells_231 g0 g_ ∧ gI g_ 231 27 = v5274 ∧ en_get 0 l_ = some (.ref 231) ∧ en_get 1 l_ = some (.int a1) ∧ en_get 2 l_ = some (.int a2) ∧ en_get 3 l_ = some (.int a3) ∧ en_get 4 l_ = some (.int a4) ∧ en_get 5 l_ = some (.int a5) ∧ en_get 6 l_ = some (.long a6) ∧ en_get 8 l_ = some (.int v5280) ∧ en_get 9 l_ = some (.long x7803) ∧ en_get 11 l_ = some (.int x7804) ∧ (0 ≤ x7804.toInt ∧ x7804.toInt ≤ 12)) ?_ (12 - 0) ⟨a6, 0, by first | rfl | omega, hI7054, hF7055, ((gI_sX).trans ((gI_sX).trans ((gI_sX).trans ((gI_sX).trans ((gI_sX).trans ((gI_sX).trans ((gI_sX).trans ((gI_sX).trans ((gI_sX).trans (gI_sI_eq hI0.1 kx_231 rfl _)))))))))), rfl, rfl, rfl, rfl, rfl, rfl, rfl, rfl, rfl, rfl, by decide⟩
        rintro n7809 l7808 g7805 ⟨x7803, x7804, hm7824, hI7806, hF7807, e7811, e7812, e7813, e7814, e7815, e7816, e7817, e7818, e7819, e7820, e7821, r7822⟩ ih7810
        have tv7825 := congrArg Int32.toInt e7811
        refine At.enter rfl ?_
        refine r_iload e7821 ?_
        refine r_aload_n e7812 ?_
        refine q_getR (Sh.ref hI7806.1 kx_231 rfl) ?_
        refine r_aload_n e7812 ?_
        refine q_getI (Sh.int hI7806.1 kx_231 rfl) v5274 e7811 ?_
        refine r_iconst 1 rfl ?_
        refine q_iadd (v5274.toInt + 1) rfl (by omega) (fun v7826 hv7826 => ?_)
        obtain ⟨v7827, hv7827⟩ : ∃ v, eA g0 233 (900 * v5271.toInt + 111) = v := ⟨_, rfl⟩
        have wv7827 := HI.lawn hI0 (j := v5271.toInt) (i := (900 * v5271.toInt + 111)) ⟨by omega, by omega⟩ (by omega)
        rw [hv7827] at wv7827
        refine q_iald (Sh.arr hI7806.1 ka_233) (900 * v5271.toInt + 111) (by omega) (by omega) v7827 ((eA_c (hF7807.2.1 233 (by decide))).trans hv7827) ?_
        have bv7829 := q_bnd x7804
        have bv7830 := q_bnd v7827
        refine r_ics 175 rfl (fun c7828 => ?_) (fun c7828 => ?_)
        · have c7828_ : x7804.toInt ≥ v7827.toInt := en_i_ge_t c7828
          refine At.enter rfl ?_
          refine r_lload e7820 ?_
          refine r_lret ?_
          exact ⟨_, rfl, hI7806, hF7807, _, rfl, trivial⟩
        · have c7828_ : x7804.toInt < v7827.toInt := en_i_ge_f c7828
          refine At.enter rfl ?_
          refine r_aload_n e7812 ?_
          refine q_getI (Sh.int hI7806.1 kx_231 rfl) v5274 e7811 ?_
          refine r_iconst 2 rfl ?_
          refine q_iadd (v5274.toInt + 2) rfl (by omega) (fun v7831 hv7831 => ?_)
          refine r_bipush 8 rfl ?_
          refine r_iload e7821 ?_
          refine q_imul (8 * x7804.toInt) rfl (by omega) (fun v7832 hv7832 => ?_)
          refine q_iadd (v7831.toInt + v7832.toInt) rfl (by omega) (fun v7833 hv7833 => ?_)
          refine r_istore _ rfl ?_
          refine r_aload_n (w_p1 (by decide) (Or.inr rfl) e7812) ?_
          refine q_getR (Sh.ref hI7806.1 kx_231 rfl) ?_
          refine r_iload (w_e1 _ _ _) ?_
          obtain ⟨v7834, hv7834⟩ : ∃ v, eA g0 233 (900 * v5271.toInt + 8 * x7804.toInt + 112) = v := ⟨_, rfl⟩
          refine q_iald (Sh.arr hI7806.1 ka_233) (900 * v5271.toInt + 8 * x7804.toInt + 112) (by omega) (by omega) v7834 ((eA_c (hF7807.2.1 233 (by decide))).trans hv7834) ?_
          refine r_iload_n (w_p1 (by decide) (Or.inr rfl) e7813) ?_
          refine r_ics 200 rfl (fun c7835 => ?_) (fun c7835 => ?_)
          · have c7835_ : v7834.toInt ≠ a1.toInt := en_i_ne_t c7835
            refine At.enter rfl ?_
            refine q_iinc (w_p1 (by decide) (Or.inr rfl) e7821) (x7804.toInt + 1) rfl (by omega) (fun v7836 hv7836 => ?_)
            refine r_goto ?_
            exact ih7810 (12 - v7836.toInt) _ _ ⟨x7803, v7836, by first | rfl | omega, hI7806, hF7807, e7811, (w_p1 (by decide) (Or.inr rfl) (w_p1 (by decide) (Or.inr rfl) e7812)), (w_p1 (by decide) (Or.inr rfl) (w_p1 (by decide) (Or.inr rfl) e7813)), (w_p1 (by decide) (Or.inr rfl) (w_p1 (by decide) (Or.inr rfl) e7814)), (w_p1 (by decide) (Or.inr rfl) (w_p1 (by decide) (Or.inr rfl) e7815)), (w_p1 (by decide) (Or.inr rfl) (w_p1 (by decide) (Or.inr rfl) e7816)), (w_p1 (by decide) (Or.inr rfl) (w_p1 (by decide) (Or.inr rfl) e7817)), (w_p1 (by decide) (Or.inl (by decide)) (w_p1 (by decide) (Or.inl (by decide)) e7818)), (w_p1 (by decide) (Or.inr rfl) (w_p1 (by decide) (Or.inr rfl) e7819)), (w_p1 (by decide) (Or.inl (by decide)) (w_p1 (by decide) (Or.inl (by decide)) e7820)), (w_e1 _ _ _), by omega⟩ ⟨by omega, by omega⟩
          · have c7835_ : v7834.toInt = a1.toInt := en_i_ne_f c7835
            refine At.enter rfl ?_
            refine r_aload_n (w_p1 (by decide) (Or.inr rfl) e7812) ?_
            refine r_iload (w_e1 _ _ _) ?_
            refine q_inlV 206 rfl [.ref 231, .int v7833] [] (Nat.le_of_ble_eq_true rfl) rfl ?_
            refine Ev.mk rfl rfl ⟨Nat.le_of_ble_eq_true rfl, Or.inr (q_rc hI7806.1 kx_231 rfl)⟩ ?_
            show At _ none _ _ (0, [(0, .ref 231), (1, .int v7833)], [], (_, _)) _
            refine At.enter rfl ?_
            refine r_aload_n rfl ?_
            refine q_getR (Sh.ref hI7806.1 kx_231 rfl) ?_
            refine r_iload_n rfl ?_
            refine r_iconst 5 rfl ?_
            refine q_iadd (v7833.toInt + 5) rfl (by omega) (fun v7837 hv7837 => ?_)
            obtain ⟨v7838, hv7838⟩ : ∃ v, eA g0 233 (900 * v5271.toInt + 8 * x7804.toInt + 117) = v := ⟨_, rfl⟩
            refine q_iald (Sh.arr hI7806.1 ka_233) (900 * v5271.toInt + 8 * x7804.toInt + 117) (by omega) (by omega) v7838 ((eA_c (hF7807.2.1 233 (by decide))).trans hv7838) ?_
            refine r_aload_n rfl ?_
            refine q_getR (Sh.ref hI7806.1 kx_231 rfl) ?_
            refine r_iload_n rfl ?_
            refine r_bipush 6 rfl ?_
            refine q_iadd (v7833.toInt + 6) rfl (by omega) (fun v7839 hv7839 => ?_)
            obtain ⟨v7840, hv7840⟩ : ∃ v, eA g0 233 (900 * v5271.toInt + 8 * x7804.toInt + 118) = v := ⟨_, rfl⟩
            refine q_iald (Sh.arr hI7806.1 ka_233) (900 * v5271.toInt + 8 * x7804.toInt + 118) (by omega) (by omega) v7840 ((eA_c (hF7807.2.1 233 (by decide))).trans hv7840) ?_
            have bv7842 := q_bnd v7838
            have bv7843 := q_bnd v7840
            refine r_ics 20 rfl (fun c7841 => ?_) (fun c7841 => ?_)
            · have c7841_ : v7838.toInt ≥ v7840.toInt := en_i_ge_t c7841
              refine At.enter rfl ?_
              refine r_aload_n rfl ?_
              refine q_getR (Sh.ref hI7806.1 kx_231 rfl) ?_
              refine r_iload_n rfl ?_
              refine q_iald (Sh.arr hI7806.1 ka_233) (900 * v5271.toInt + 8 * x7804.toInt + 112) (by omega) (by omega) v7834 ((eA_c (hF7807.2.1 233 (by decide))).trans hv7834) ?_
              refine r_iconst 2 rfl ?_
              refine r_ics 69 rfl (fun c7844 => ?_) (fun c7844 => ?_)
              · have c7844_ : v7834.toInt ≥ 2 := en_i_ge_t c7844
                refine At.enter rfl ?_
                refine r_iconst 1 rfl ?_
                refine q_iretz (by decide) ?_
                refine At.enter rfl ?_
                refine r_iff 209 rfl (by decide) ?_
                refine At.enter rfl ?_
                refine r_iload_n (w_p1 (by decide) (Or.inr rfl) e7813) ?_
                refine r_iconst 2 rfl ?_
                refine r_ics 214 rfl (fun c7845 => ?_) (fun c7845 => ?_)
                · have c7845_ : a1.toInt ≥ 2 := en_i_ge_t c7845
                  refine At.enter rfl ?_
                  refine r_lconst 1 rfl ?_
                  refine Ar.fall 222 rfl ?_
                  refine At.enter rfl ?_
                  refine r_lstore _ rfl ?_
                  refine Ar.fall 224 rfl ?_
                  refine At.enter rfl ?_
                  refine q_iinc (w_p2 (by decide) (by decide) (Or.inr rfl) (w_p1 (by decide) (Or.inr rfl) e7821)) (x7804.toInt + 1) rfl (by omega) (fun v7846 hv7846 => ?_)
                  refine r_goto ?_
                  exact ih7810 (12 - v7846.toInt) _ _ ⟨1, v7846, by first | rfl | omega, hI7806, hF7807, e7811, (w_p1 (by decide) (Or.inr rfl) (w_p2 (by decide) (by decide) (Or.inr rfl) (w_p1 (by decide) (Or.inr rfl) e7812))), (w_p1 (by decide) (Or.inr rfl) (w_p2 (by decide) (by decide) (Or.inr rfl) (w_p1 (by decide) (Or.inr rfl) e7813))), (w_p1 (by decide) (Or.inr rfl) (w_p2 (by decide) (by decide) (Or.inr rfl) (w_p1 (by decide) (Or.inr rfl) e7814))), (w_p1 (by decide) (Or.inr rfl) (w_p2 (by decide) (by decide) (Or.inr rfl) (w_p1 (by decide) (Or.inr rfl) e7815))), (w_p1 (by decide) (Or.inr rfl) (w_p2 (by decide) (by decide) (Or.inr rfl) (w_p1 (by decide) (Or.inr rfl) e7816))), (w_p1 (by decide) (Or.inr rfl) (w_p2 (by decide) (by decide) (Or.inr rfl) (w_p1 (by decide) (Or.inr rfl) e7817))), (w_p1 (by decide) (Or.inl (by decide)) (w_p2 (by decide) (by decide) (Or.inl (by decide)) (w_p1 (by decide) (Or.inl (by decide)) e7818))), (w_p1 (by decide) (Or.inr rfl) (w_p2 (by decide) (by decide) (Or.inr rfl) (w_p1 (by decide) (Or.inr rfl) e7819))), (w_p1 (by decide) (Or.inl (by decide)) (w_e2 _ _ _)), (w_e1 _ _ _), by omega⟩ ⟨by omega, by omega⟩
                · have c7845_ : a1.toInt < 2 := en_i_ge_f c7845
                  refine At.enter rfl ?_
                  refine r_aload_n (w_p1 (by decide) (Or.inr rfl) e7812) ?_
                  obtain ⟨v7847, hv7847⟩ : ∃ v, gJ g7805 231 32 = v := ⟨_, rfl⟩
                  refine q_getJv (Sh.long hI7806.1 kx_231 rfl) v7847 hv7847 ?_
                  refine r_goto ?_
                  refine At.enter rfl ?_
                  refine r_lstore _ rfl ?_
                  refine Ar.fall 224 rfl ?_
                  refine At.enter rfl ?_
                  refine q_iinc (w_p2 (by decide) (by decide) (Or.inr rfl) (w_p1 (by decide) (Or.inr rfl) e7821)) (x7804.toInt + 1) rfl (by omega) (fun v7848 hv7848 => ?_)
                  refine r_goto ?_
                  exact ih7810 (12 - v7848.toInt) _ _ ⟨v7847, v7848, by first | rfl | omega, hI7806, hF7807, e7811, (w_p1 (by decide) (Or.inr rfl) (w_p2 (by decide) (by decide) (Or.inr rfl) (w_p1 (by decide) (Or.inr rfl) e7812))), (w_p1 (by decide) (Or.inr rfl) (w_p2 (by decide) (by decide) (Or.inr rfl) (w_p1 (by decide) (Or.inr rfl) e7813))), (w_p1 (by decide) (Or.inr rfl) (w_p2 (by decide) (by decide) (Or.inr rfl) (w_p1 (by decide) (Or.inr rfl) e7814))), (w_p1 (by decide) (Or.inr rfl) (w_p2 (by decide) (by decide) (Or.inr rfl) (w_p1 (by decide) (Or.inr rfl) e7815))), (w_p1 (by decide) (Or.inr rfl) (w_p2 (by decide) (by decide) (Or.inr rfl) (w_p1 (by decide) (Or.inr rfl) e7816))), (w_p1 (by decide) (Or.inr rfl) (w_p2 (by decide) (by decide) (Or.inr rfl) (w_p1 (by decide) (Or.inr rfl) e7817))), (w_p1 (by decide) (Or.inl (by decide)) (w_p2 (by decide) (by decide) (Or.inl (by decide)) (w_p1 (by decide) (Or.inl (by decide)) e7818))), (w_p1 (by decide) (Or.inr rfl) (w_p2 (by decide) (by decide) (Or.inr rfl) (w_p1 (by decide) (Or.inr rfl) e7819))), (w_p1 (by decide) (Or.inl (by decide)) (w_e2 _ _ _)), (w_e1 _ _ _), by omega⟩ ⟨by omega, by omega⟩
              · have c7844_ : v7834.toInt < 2 := en_i_ge_f c7844
                refine At.enter rfl ?_
                refine r_aload_n rfl ?_
                refine r_aload_n rfl ?_
                refine q_getR (Sh.ref hI7806.1 kx_231 rfl) ?_
                refine r_iload_n rfl ?_
                refine r_iconst 3 rfl ?_
                refine q_iadd (v7833.toInt + 3) rfl (by omega) (fun v7849 hv7849 => ?_)
                obtain ⟨v7850, hv7850⟩ : ∃ v, eA g0 233 (900 * v5271.toInt + 8 * x7804.toInt + 115) = v := ⟨_, rfl⟩
                refine q_iald (Sh.arr hI7806.1 ka_233) (900 * v5271.toInt + 8 * x7804.toInt + 115) (by omega) (by omega) v7850 ((eA_c (hF7807.2.1 233 (by decide))).trans hv7850) ?_
                refine r_aload_n rfl ?_
                refine q_getR (Sh.ref hI7806.1 kx_231 rfl) ?_
                refine r_iload_n rfl ?_
                refine r_iconst 4 rfl ?_
                refine q_iadd (v7833.toInt + 4) rfl (by omega) (fun v7851 hv7851 => ?_)
                obtain ⟨v7852, hv7852⟩ : ∃ v, eA g0 233 (900 * v5271.toInt + 8 * x7804.toInt + 116) = v := ⟨_, rfl⟩
                refine q_iald (Sh.arr hI7806.1 ka_233) (900 * v5271.toInt + 8 * x7804.toInt + 116) (by omega) (by omega) v7852 ((eA_c (hF7807.2.1 233 (by decide))).trans hv7852) ?_
                refine r_callV 89 rfl [.ref 231, .int v7850, .int v7852] [] (Nat.le_of_ble_eq_true rfl) rfl (T_X11_reckonAll_231 _ hI7806 v7850 v7852 (HI.code hI0 (j := v5271.toInt) (c := x7804.toInt) ⟨by omega, by omega⟩ (hF7807.2.1 233 (by decide)) (by rw [e7811]; omega) (i := (900 * v5271.toInt + 111)) (by omega) (congrArg Int32.toInt hv7827) ⟨by omega, by omega⟩ (i3 := (900 * v5271.toInt + 8 * x7804.toInt + 115)) (i4 := (900 * v5271.toInt + 8 * x7804.toInt + 116)) 3 (by decide) (by omega) (by omega) (congrArg Int32.toInt hv7850) (congrArg Int32.toInt hv7852))) ?_
                rintro _ _ ⟨g7853, rfl, hI7854, hF7855, rfl⟩
                refine At.stn ?_
                have hF7858 := Fr.tr hF7807 hF7855 rfl rfl
                refine At.enter rfl ?_
                refine r_aload_n rfl ?_
                refine r_aload_n rfl ?_
                obtain ⟨v7859, hv7859⟩ : ∃ v, gJ g7853 231 31 = v := ⟨_, rfl⟩
                refine q_getJv (Sh.long hI7854.1 kx_231 rfl) v7859 hv7859 ?_
                refine q_putJ (Sh.long hI7854.1 kx_231 rfl) rfl ?_
                have hI7860 := HI.wJ hI7854 kx_231 rfl (p := 231) (b := 32) (v := v7859)
                have hF7861 := Fr.wJ (p := 231) (b := 32) (v := v7859) hF7858 rfl
                refine r_aload_n rfl ?_
                obtain ⟨v7862, hv7862⟩ : ∃ v, gI g7853 231 30 = v := ⟨_, rfl⟩
                refine q_getI (Sh.int hI7860.1 kx_231 rfl) v7862 ((gI_sJ_ne (by decide)).trans hv7862) ?_
                refine r_ifs 104 rfl (fun c7863 => ?_) (fun c7863 => ?_)
                · have c7863_ : v7862.toInt ≠ 0 := en_k_ne_t c7863
                  refine At.enter rfl ?_
                  refine r_iconst 0 rfl ?_
                  refine Ar.fall 109 rfl ?_
                  refine At.enter rfl ?_
                  refine q_iretz (by decide) ?_
                  refine At.enter rfl ?_
                  refine r_ift (by decide) ?_
                  refine At.enter rfl ?_
                  refine q_iinc (w_p1 (by decide) (Or.inr rfl) e7821) (x7804.toInt + 1) rfl (by omega) (fun v7864 hv7864 => ?_)
                  refine r_goto ?_
                  exact ih7810 (12 - v7864.toInt) _ _ ⟨x7803, v7864, by first | rfl | omega, hI7860, hF7861, (((gI_sJ_ne (by decide)).trans (hF7855.1 231 27 mf_X11_reckonAll_231_231_27)).trans e7811), (w_p1 (by decide) (Or.inr rfl) (w_p1 (by decide) (Or.inr rfl) e7812)), (w_p1 (by decide) (Or.inr rfl) (w_p1 (by decide) (Or.inr rfl) e7813)), (w_p1 (by decide) (Or.inr rfl) (w_p1 (by decide) (Or.inr rfl) e7814)), (w_p1 (by decide) (Or.inr rfl) (w_p1 (by decide) (Or.inr rfl) e7815)), (w_p1 (by decide) (Or.inr rfl) (w_p1 (by decide) (Or.inr rfl) e7816)), (w_p1 (by decide) (Or.inr rfl) (w_p1 (by decide) (Or.inr rfl) e7817)), (w_p1 (by decide) (Or.inl (by decide)) (w_p1 (by decide) (Or.inl (by decide)) e7818)), (w_p1 (by decide) (Or.inr rfl) (w_p1 (by decide) (Or.inr rfl) e7819)), (w_p1 (by decide) (Or.inl (by decide)) (w_p1 (by decide) (Or.inl (by decide)) e7820)), (w_e1 _ _ _), by omega⟩ ⟨by omega, by omega⟩
                · have c7863_ : v7862.toInt = 0 := en_k_ne_f c7863
                  refine At.enter rfl ?_
                  refine r_iconst 1 rfl ?_
                  refine r_goto ?_
                  refine At.enter rfl ?_
                  refine q_iretz (by decide) ?_
                  refine At.enter rfl ?_
                  refine r_iff 209 rfl (by decide) ?_
                  refine At.enter rfl ?_
                  refine r_iload_n (w_p1 (by decide) (Or.inr rfl) e7813) ?_
                  refine r_iconst 2 rfl ?_
                  refine r_ics 214 rfl (fun c7865 => ?_) (fun c7865 => ?_)
                  · have c7865_ : a1.toInt ≥ 2 := en_i_ge_t c7865
                    refine At.enter rfl ?_
                    refine r_lconst 1 rfl ?_
                    refine Ar.fall 222 rfl ?_
                    refine At.enter rfl ?_
                    refine r_lstore _ rfl ?_
                    refine Ar.fall 224 rfl ?_
                    refine At.enter rfl ?_
                    refine q_iinc (w_p2 (by decide) (by decide) (Or.inr rfl) (w_p1 (by decide) (Or.inr rfl) e7821)) (x7804.toInt + 1) rfl (by omega) (fun v7866 hv7866 => ?_)
                    refine r_goto ?_
                    exact ih7810 (12 - v7866.toInt) _ _ ⟨1, v7866, by first | rfl | omega, hI7860, hF7861, (((gI_sJ_ne (by decide)).trans (hF7855.1 231 27 mf_X11_reckonAll_231_231_27)).trans e7811), (w_p1 (by decide) (Or.inr rfl) (w_p2 (by decide) (by decide) (Or.inr rfl) (w_p1 (by decide) (Or.inr rfl) e7812))), (w_p1 (by decide) (Or.inr rfl) (w_p2 (by decide) (by decide) (Or.inr rfl) (w_p1 (by decide) (Or.inr rfl) e7813))), (w_p1 (by decide) (Or.inr rfl) (w_p2 (by decide) (by decide) (Or.inr rfl) (w_p1 (by decide) (Or.inr rfl) e7814))), (w_p1 (by decide) (Or.inr rfl) (w_p2 (by decide) (by decide) (Or.inr rfl) (w_p1 (by decide) (Or.inr rfl) e7815))), (w_p1 (by decide) (Or.inr rfl) (w_p2 (by decide) (by decide) (Or.inr rfl) (w_p1 (by decide) (Or.inr rfl) e7816))), (w_p1 (by decide) (Or.inr rfl) (w_p2 (by decide) (by decide) (Or.inr rfl) (w_p1 (by decide) (Or.inr rfl) e7817))), (w_p1 (by decide) (Or.inl (by decide)) (w_p2 (by decide) (by decide) (Or.inl (by decide)) (w_p1 (by decide) (Or.inl (by decide)) e7818))), (w_p1 (by decide) (Or.inr rfl) (w_p2 (by decide) (by decide) (Or.inr rfl) (w_p1 (by decide) (Or.inr rfl) e7819))), (w_p1 (by decide) (Or.inl (by decide)) (w_e2 _ _ _)), (w_e1 _ _ _), by omega⟩ ⟨by omega, by omega⟩
                  · have c7865_ : a1.toInt < 2 := en_i_ge_f c7865
                    refine At.enter rfl ?_
                    refine r_aload_n (w_p1 (by decide) (Or.inr rfl) e7812) ?_
                    refine q_getJv (Sh.long hI7860.1 kx_231 rfl) v7859 (gJ_sJ_eq hI7854.1 kx_231 rfl _) ?_
                    refine r_goto ?_
                    refine At.enter rfl ?_
                    refine r_lstore _ rfl ?_
                    refine Ar.fall 224 rfl ?_
                    refine At.enter rfl ?_
                    refine q_iinc (w_p2 (by decide) (by decide) (Or.inr rfl) (w_p1 (by decide) (Or.inr rfl) e7821)) (x7804.toInt + 1) rfl (by omega) (fun v7867 hv7867 => ?_)
                    refine r_goto ?_
                    exact ih7810 (12 - v7867.toInt) _ _ ⟨v7859, v7867, by first | rfl | omega, hI7860, hF7861, (((gI_sJ_ne (by decide)).trans (hF7855.1 231 27 mf_X11_reckonAll_231_231_27)).trans e7811), (w_p1 (by decide) (Or.inr rfl) (w_p2 (by decide) (by decide) (Or.inr rfl) (w_p1 (by decide) (Or.inr rfl) e7812))), (w_p1 (by decide) (Or.inr rfl) (w_p2 (by decide) (by decide) (Or.inr rfl) (w_p1 (by decide) (Or.inr rfl) e7813))), (w_p1 (by decide) (Or.inr rfl) (w_p2 (by decide) (by decide) (Or.inr rfl) (w_p1 (by decide) (Or.inr rfl) e7814))), (w_p1 (by decide) (Or.inr rfl) (w_p2 (by decide) (by decide) (Or.inr rfl) (w_p1 (by decide) (Or.inr rfl) e7815))), (w_p1 (by decide) (Or.inr rfl) (w_p2 (by decide) (by decide) (Or.inr rfl) (w_p1 (by decide) (Or.inr rfl) e7816))), (w_p1 (by decide) (Or.inr rfl) (w_p2 (by decide) (by decide) (Or.inr rfl) (w_p1 (by decide) (Or.inr rfl) e7817))), (w_p1 (by decide) (Or.inl (by decide)) (w_p2 (by decide) (by decide) (Or.inl (by decide)) (w_p1 (by decide) (Or.inl (by decide)) e7818))), (w_p1 (by decide) (Or.inr rfl) (w_p2 (by decide) (by decide) (Or.inr rfl) (w_p1 (by decide) (Or.inr rfl) e7819))), (w_p1 (by decide) (Or.inl (by decide)) (w_e2 _ _ _)), (w_e1 _ _ _), by omega⟩ ⟨by omega, by omega⟩
            · have c7841_ : v7838.toInt < v7840.toInt := en_i_ge_f c7841
              refine At.enter rfl ?_
              refine r_aload_n rfl ?_
              refine r_aload_n rfl ?_
              refine q_getR (Sh.ref hI7806.1 kx_231 rfl) ?_
              refine r_iload_n rfl ?_
              refine r_iconst 5 rfl ?_
              refine q_iadd (v7833.toInt + 5) rfl (by omega) (fun v7868 hv7868 => ?_)
              refine q_iald (Sh.arr hI7806.1 ka_233) (900 * v5271.toInt + 8 * x7804.toInt + 117) (by omega) (by omega) v7838 ((eA_c (hF7807.2.1 233 (by decide))).trans hv7838) ?_
              refine r_aload_n rfl ?_
              refine q_getR (Sh.ref hI7806.1 kx_231 rfl) ?_
              refine r_iload_n rfl ?_
              refine r_bipush 6 rfl ?_
              refine q_iadd (v7833.toInt + 6) rfl (by omega) (fun v7869 hv7869 => ?_)
              refine q_iald (Sh.arr hI7806.1 ka_233) (900 * v5271.toInt + 8 * x7804.toInt + 118) (by omega) (by omega) v7840 ((eA_c (hF7807.2.1 233 (by decide))).trans hv7840) ?_
              refine r_callV 41 rfl [.ref 231, .int v7838, .int v7840] [] (Nat.le_of_ble_eq_true rfl) rfl (T_X11_reckonAll_231 _ hI7806 v7838 v7840 (HI.code hI0 (j := v5271.toInt) (c := x7804.toInt) ⟨by omega, by omega⟩ (hF7807.2.1 233 (by decide)) (by rw [e7811]; omega) (i := (900 * v5271.toInt + 111)) (by omega) (congrArg Int32.toInt hv7827) ⟨by omega, by omega⟩ (i3 := (900 * v5271.toInt + 8 * x7804.toInt + 117)) (i4 := (900 * v5271.toInt + 8 * x7804.toInt + 118)) 5 (by decide) (by omega) (by omega) (congrArg Int32.toInt hv7838) (congrArg Int32.toInt hv7840))) ?_
              rintro _ _ ⟨g7870, rfl, hI7871, hF7872, rfl⟩
              refine At.stn ?_
              have hF7875 := Fr.tr hF7807 hF7872 rfl rfl
              refine At.enter rfl ?_
              refine r_aload_n rfl ?_
              obtain ⟨v7876, hv7876⟩ : ∃ v, gI g7870 231 30 = v := ⟨_, rfl⟩
              refine q_getI (Sh.int hI7871.1 kx_231 rfl) v7876 hv7876 ?_
              refine r_ifs 48 rfl (fun c7877 => ?_) (fun c7877 => ?_)
              · have c7877_ : v7876.toInt ≠ 0 := en_k_ne_t c7877
                refine At.enter rfl ?_
                refine r_iconst 0 rfl ?_
                refine q_iretz (by decide) ?_
                refine At.enter rfl ?_
                refine r_ift (by decide) ?_
                refine At.enter rfl ?_
                refine q_iinc (w_p1 (by decide) (Or.inr rfl) e7821) (x7804.toInt + 1) rfl (by omega) (fun v7878 hv7878 => ?_)
                refine r_goto ?_
                exact ih7810 (12 - v7878.toInt) _ _ ⟨x7803, v7878, by first | rfl | omega, hI7871, hF7875, ((hF7872.1 231 27 mf_X11_reckonAll_231_231_27).trans e7811), (w_p1 (by decide) (Or.inr rfl) (w_p1 (by decide) (Or.inr rfl) e7812)), (w_p1 (by decide) (Or.inr rfl) (w_p1 (by decide) (Or.inr rfl) e7813)), (w_p1 (by decide) (Or.inr rfl) (w_p1 (by decide) (Or.inr rfl) e7814)), (w_p1 (by decide) (Or.inr rfl) (w_p1 (by decide) (Or.inr rfl) e7815)), (w_p1 (by decide) (Or.inr rfl) (w_p1 (by decide) (Or.inr rfl) e7816)), (w_p1 (by decide) (Or.inr rfl) (w_p1 (by decide) (Or.inr rfl) e7817)), (w_p1 (by decide) (Or.inl (by decide)) (w_p1 (by decide) (Or.inl (by decide)) e7818)), (w_p1 (by decide) (Or.inr rfl) (w_p1 (by decide) (Or.inr rfl) e7819)), (w_p1 (by decide) (Or.inl (by decide)) (w_p1 (by decide) (Or.inl (by decide)) e7820)), (w_e1 _ _ _), by omega⟩ ⟨by omega, by omega⟩
              · have c7877_ : v7876.toInt = 0 := en_k_ne_f c7877
                refine At.enter rfl ?_
                refine r_aload_n rfl ?_
                obtain ⟨v7879, hv7879⟩ : ∃ v, gJ g7870 231 31 = v := ⟨_, rfl⟩
                refine q_getJv (Sh.long hI7871.1 kx_231 rfl) v7879 hv7879 ?_
                refine r_lconst 0 rfl ?_
                refine r_lcmp _ rfl ?_
                refine r_ifs 57 rfl (fun c7880 => ?_) (fun c7880 => ?_)
                · have c7880_ : v7879.toInt ≠ 0 := en_j_ne_t c7880
                  refine At.enter rfl ?_
                  refine r_aload_n rfl ?_
                  refine q_getR (Sh.ref hI7871.1 kx_231 rfl) ?_
                  refine r_iload_n rfl ?_
                  refine q_iald (Sh.arr hI7871.1 ka_233) (900 * v5271.toInt + 8 * x7804.toInt + 112) (by omega) (by omega) v7834 ((eA_c ((hF7872.2.1 233 ma_X11_reckonAll_231_233).trans (hF7807.2.1 233 (by decide)))).trans hv7834) ?_
                  refine r_iconst 2 rfl ?_
                  refine r_ics 69 rfl (fun c7881 => ?_) (fun c7881 => ?_)
                  · have c7881_ : v7834.toInt ≥ 2 := en_i_ge_t c7881
                    refine At.enter rfl ?_
                    refine r_iconst 1 rfl ?_
                    refine q_iretz (by decide) ?_
                    refine At.enter rfl ?_
                    refine r_iff 209 rfl (by decide) ?_
                    refine At.enter rfl ?_
                    refine r_iload_n (w_p1 (by decide) (Or.inr rfl) e7813) ?_
                    refine r_iconst 2 rfl ?_
                    refine r_ics 214 rfl (fun c7882 => ?_) (fun c7882 => ?_)
                    · have c7882_ : a1.toInt ≥ 2 := en_i_ge_t c7882
                      refine At.enter rfl ?_
                      refine r_lconst 1 rfl ?_
                      refine Ar.fall 222 rfl ?_
                      refine At.enter rfl ?_
                      refine r_lstore _ rfl ?_
                      refine Ar.fall 224 rfl ?_
                      refine At.enter rfl ?_
                      refine q_iinc (w_p2 (by decide) (by decide) (Or.inr rfl) (w_p1 (by decide) (Or.inr rfl) e7821)) (x7804.toInt + 1) rfl (by omega) (fun v7883 hv7883 => ?_)
                      refine r_goto ?_
                      exact ih7810 (12 - v7883.toInt) _ _ ⟨1, v7883, by first | rfl | omega, hI7871, hF7875, ((hF7872.1 231 27 mf_X11_reckonAll_231_231_27).trans e7811), (w_p1 (by decide) (Or.inr rfl) (w_p2 (by decide) (by decide) (Or.inr rfl) (w_p1 (by decide) (Or.inr rfl) e7812))), (w_p1 (by decide) (Or.inr rfl) (w_p2 (by decide) (by decide) (Or.inr rfl) (w_p1 (by decide) (Or.inr rfl) e7813))), (w_p1 (by decide) (Or.inr rfl) (w_p2 (by decide) (by decide) (Or.inr rfl) (w_p1 (by decide) (Or.inr rfl) e7814))), (w_p1 (by decide) (Or.inr rfl) (w_p2 (by decide) (by decide) (Or.inr rfl) (w_p1 (by decide) (Or.inr rfl) e7815))), (w_p1 (by decide) (Or.inr rfl) (w_p2 (by decide) (by decide) (Or.inr rfl) (w_p1 (by decide) (Or.inr rfl) e7816))), (w_p1 (by decide) (Or.inr rfl) (w_p2 (by decide) (by decide) (Or.inr rfl) (w_p1 (by decide) (Or.inr rfl) e7817))), (w_p1 (by decide) (Or.inl (by decide)) (w_p2 (by decide) (by decide) (Or.inl (by decide)) (w_p1 (by decide) (Or.inl (by decide)) e7818))), (w_p1 (by decide) (Or.inr rfl) (w_p2 (by decide) (by decide) (Or.inr rfl) (w_p1 (by decide) (Or.inr rfl) e7819))), (w_p1 (by decide) (Or.inl (by decide)) (w_e2 _ _ _)), (w_e1 _ _ _), by omega⟩ ⟨by omega, by omega⟩
                    · have c7882_ : a1.toInt < 2 := en_i_ge_f c7882
                      refine At.enter rfl ?_
                      refine r_aload_n (w_p1 (by decide) (Or.inr rfl) e7812) ?_
                      obtain ⟨v7884, hv7884⟩ : ∃ v, gJ g7805 231 32 = v := ⟨_, rfl⟩
                      refine q_getJv (Sh.long hI7871.1 kx_231 rfl) v7884 ((hF7872.2.2 231 32 mf_X11_reckonAll_231_231_32).trans hv7884) ?_
                      refine r_goto ?_
                      refine At.enter rfl ?_
                      refine r_lstore _ rfl ?_
                      refine Ar.fall 224 rfl ?_
                      refine At.enter rfl ?_
                      refine q_iinc (w_p2 (by decide) (by decide) (Or.inr rfl) (w_p1 (by decide) (Or.inr rfl) e7821)) (x7804.toInt + 1) rfl (by omega) (fun v7885 hv7885 => ?_)
                      refine r_goto ?_
                      exact ih7810 (12 - v7885.toInt) _ _ ⟨v7884, v7885, by first | rfl | omega, hI7871, hF7875, ((hF7872.1 231 27 mf_X11_reckonAll_231_231_27).trans e7811), (w_p1 (by decide) (Or.inr rfl) (w_p2 (by decide) (by decide) (Or.inr rfl) (w_p1 (by decide) (Or.inr rfl) e7812))), (w_p1 (by decide) (Or.inr rfl) (w_p2 (by decide) (by decide) (Or.inr rfl) (w_p1 (by decide) (Or.inr rfl) e7813))), (w_p1 (by decide) (Or.inr rfl) (w_p2 (by decide) (by decide) (Or.inr rfl) (w_p1 (by decide) (Or.inr rfl) e7814))), (w_p1 (by decide) (Or.inr rfl) (w_p2 (by decide) (by decide) (Or.inr rfl) (w_p1 (by decide) (Or.inr rfl) e7815))), (w_p1 (by decide) (Or.inr rfl) (w_p2 (by decide) (by decide) (Or.inr rfl) (w_p1 (by decide) (Or.inr rfl) e7816))), (w_p1 (by decide) (Or.inr rfl) (w_p2 (by decide) (by decide) (Or.inr rfl) (w_p1 (by decide) (Or.inr rfl) e7817))), (w_p1 (by decide) (Or.inl (by decide)) (w_p2 (by decide) (by decide) (Or.inl (by decide)) (w_p1 (by decide) (Or.inl (by decide)) e7818))), (w_p1 (by decide) (Or.inr rfl) (w_p2 (by decide) (by decide) (Or.inr rfl) (w_p1 (by decide) (Or.inr rfl) e7819))), (w_p1 (by decide) (Or.inl (by decide)) (w_e2 _ _ _)), (w_e1 _ _ _), by omega⟩ ⟨by omega, by omega⟩
                  · have c7881_ : v7834.toInt < 2 := en_i_ge_f c7881
                    refine At.enter rfl ?_
                    refine r_aload_n rfl ?_
                    refine r_aload_n rfl ?_
                    refine q_getR (Sh.ref hI7871.1 kx_231 rfl) ?_
                    refine r_iload_n rfl ?_
                    refine r_iconst 3 rfl ?_
                    refine q_iadd (v7833.toInt + 3) rfl (by omega) (fun v7886 hv7886 => ?_)
                    obtain ⟨v7887, hv7887⟩ : ∃ v, eA g0 233 (900 * v5271.toInt + 8 * x7804.toInt + 115) = v := ⟨_, rfl⟩
                    refine q_iald (Sh.arr hI7871.1 ka_233) (900 * v5271.toInt + 8 * x7804.toInt + 115) (by omega) (by omega) v7887 ((eA_c ((hF7872.2.1 233 ma_X11_reckonAll_231_233).trans (hF7807.2.1 233 (by decide)))).trans hv7887) ?_
                    refine r_aload_n rfl ?_
                    refine q_getR (Sh.ref hI7871.1 kx_231 rfl) ?_
                    refine r_iload_n rfl ?_
                    refine r_iconst 4 rfl ?_
                    refine q_iadd (v7833.toInt + 4) rfl (by omega) (fun v7888 hv7888 => ?_)
                    obtain ⟨v7889, hv7889⟩ : ∃ v, eA g0 233 (900 * v5271.toInt + 8 * x7804.toInt + 116) = v := ⟨_, rfl⟩
                    refine q_iald (Sh.arr hI7871.1 ka_233) (900 * v5271.toInt + 8 * x7804.toInt + 116) (by omega) (by omega) v7889 ((eA_c ((hF7872.2.1 233 ma_X11_reckonAll_231_233).trans (hF7807.2.1 233 (by decide)))).trans hv7889) ?_
                    refine r_callV 89 rfl [.ref 231, .int v7887, .int v7889] [] (Nat.le_of_ble_eq_true rfl) rfl (T_X11_reckonAll_231 _ hI7871 v7887 v7889 (HI.code hI0 (j := v5271.toInt) (c := x7804.toInt) ⟨by omega, by omega⟩ ((hF7872.2.1 233 ma_X11_reckonAll_231_233).trans (hF7807.2.1 233 (by decide))) (by rw [((hF7872.1 231 27 mf_X11_reckonAll_231_231_27).trans e7811)]; omega) (i := (900 * v5271.toInt + 111)) (by omega) (congrArg Int32.toInt hv7827) ⟨by omega, by omega⟩ (i3 := (900 * v5271.toInt + 8 * x7804.toInt + 115)) (i4 := (900 * v5271.toInt + 8 * x7804.toInt + 116)) 3 (by decide) (by omega) (by omega) (congrArg Int32.toInt hv7887) (congrArg Int32.toInt hv7889))) ?_
                    rintro _ _ ⟨g7890, rfl, hI7891, hF7892, rfl⟩
                    refine At.stn ?_
                    have hF7895 := Fr.tr hF7875 hF7892 rfl rfl
                    refine At.enter rfl ?_
                    refine r_aload_n rfl ?_
                    refine r_aload_n rfl ?_
                    obtain ⟨v7896, hv7896⟩ : ∃ v, gJ g7890 231 31 = v := ⟨_, rfl⟩
                    refine q_getJv (Sh.long hI7891.1 kx_231 rfl) v7896 hv7896 ?_
                    refine q_putJ (Sh.long hI7891.1 kx_231 rfl) rfl ?_
                    have hI7897 := HI.wJ hI7891 kx_231 rfl (p := 231) (b := 32) (v := v7896)
                    have hF7898 := Fr.wJ (p := 231) (b := 32) (v := v7896) hF7895 rfl
                    refine r_aload_n rfl ?_
                    obtain ⟨v7899, hv7899⟩ : ∃ v, gI g7890 231 30 = v := ⟨_, rfl⟩
                    refine q_getI (Sh.int hI7897.1 kx_231 rfl) v7899 ((gI_sJ_ne (by decide)).trans hv7899) ?_
                    refine r_ifs 104 rfl (fun c7900 => ?_) (fun c7900 => ?_)
                    · have c7900_ : v7899.toInt ≠ 0 := en_k_ne_t c7900
                      refine At.enter rfl ?_
                      refine r_iconst 0 rfl ?_
                      refine Ar.fall 109 rfl ?_
                      refine At.enter rfl ?_
                      refine q_iretz (by decide) ?_
                      refine At.enter rfl ?_
                      refine r_ift (by decide) ?_
                      refine At.enter rfl ?_
                      refine q_iinc (w_p1 (by decide) (Or.inr rfl) e7821) (x7804.toInt + 1) rfl (by omega) (fun v7901 hv7901 => ?_)
                      refine r_goto ?_
                      exact ih7810 (12 - v7901.toInt) _ _ ⟨x7803, v7901, by first | rfl | omega, hI7897, hF7898, (((gI_sJ_ne (by decide)).trans ((hF7892.1 231 27 mf_X11_reckonAll_231_231_27).trans (hF7872.1 231 27 mf_X11_reckonAll_231_231_27))).trans e7811), (w_p1 (by decide) (Or.inr rfl) (w_p1 (by decide) (Or.inr rfl) e7812)), (w_p1 (by decide) (Or.inr rfl) (w_p1 (by decide) (Or.inr rfl) e7813)), (w_p1 (by decide) (Or.inr rfl) (w_p1 (by decide) (Or.inr rfl) e7814)), (w_p1 (by decide) (Or.inr rfl) (w_p1 (by decide) (Or.inr rfl) e7815)), (w_p1 (by decide) (Or.inr rfl) (w_p1 (by decide) (Or.inr rfl) e7816)), (w_p1 (by decide) (Or.inr rfl) (w_p1 (by decide) (Or.inr rfl) e7817)), (w_p1 (by decide) (Or.inl (by decide)) (w_p1 (by decide) (Or.inl (by decide)) e7818)), (w_p1 (by decide) (Or.inr rfl) (w_p1 (by decide) (Or.inr rfl) e7819)), (w_p1 (by decide) (Or.inl (by decide)) (w_p1 (by decide) (Or.inl (by decide)) e7820)), (w_e1 _ _ _), by omega⟩ ⟨by omega, by omega⟩
                    · have c7900_ : v7899.toInt = 0 := en_k_ne_f c7900
                      refine At.enter rfl ?_
                      refine r_iconst 1 rfl ?_
                      refine r_goto ?_
                      refine At.enter rfl ?_
                      refine q_iretz (by decide) ?_
                      refine At.enter rfl ?_
                      refine r_iff 209 rfl (by decide) ?_
                      refine At.enter rfl ?_
                      refine r_iload_n (w_p1 (by decide) (Or.inr rfl) e7813) ?_
                      refine r_iconst 2 rfl ?_
                      refine r_ics 214 rfl (fun c7902 => ?_) (fun c7902 => ?_)
                      · have c7902_ : a1.toInt ≥ 2 := en_i_ge_t c7902
                        refine At.enter rfl ?_
                        refine r_lconst 1 rfl ?_
                        refine Ar.fall 222 rfl ?_
                        refine At.enter rfl ?_
                        refine r_lstore _ rfl ?_
                        refine Ar.fall 224 rfl ?_
                        refine At.enter rfl ?_
                        refine q_iinc (w_p2 (by decide) (by decide) (Or.inr rfl) (w_p1 (by decide) (Or.inr rfl) e7821)) (x7804.toInt + 1) rfl (by omega) (fun v7903 hv7903 => ?_)
                        refine r_goto ?_
                        exact ih7810 (12 - v7903.toInt) _ _ ⟨1, v7903, by first | rfl | omega, hI7897, hF7898, (((gI_sJ_ne (by decide)).trans ((hF7892.1 231 27 mf_X11_reckonAll_231_231_27).trans (hF7872.1 231 27 mf_X11_reckonAll_231_231_27))).trans e7811), (w_p1 (by decide) (Or.inr rfl) (w_p2 (by decide) (by decide) (Or.inr rfl) (w_p1 (by decide) (Or.inr rfl) e7812))), (w_p1 (by decide) (Or.inr rfl) (w_p2 (by decide) (by decide) (Or.inr rfl) (w_p1 (by decide) (Or.inr rfl) e7813))), (w_p1 (by decide) (Or.inr rfl) (w_p2 (by decide) (by decide) (Or.inr rfl) (w_p1 (by decide) (Or.inr rfl) e7814))), (w_p1 (by decide) (Or.inr rfl) (w_p2 (by decide) (by decide) (Or.inr rfl) (w_p1 (by decide) (Or.inr rfl) e7815))), (w_p1 (by decide) (Or.inr rfl) (w_p2 (by decide) (by decide) (Or.inr rfl) (w_p1 (by decide) (Or.inr rfl) e7816))), (w_p1 (by decide) (Or.inr rfl) (w_p2 (by decide) (by decide) (Or.inr rfl) (w_p1 (by decide) (Or.inr rfl) e7817))), (w_p1 (by decide) (Or.inl (by decide)) (w_p2 (by decide) (by decide) (Or.inl (by decide)) (w_p1 (by decide) (Or.inl (by decide)) e7818))), (w_p1 (by decide) (Or.inr rfl) (w_p2 (by decide) (by decide) (Or.inr rfl) (w_p1 (by decide) (Or.inr rfl) e7819))), (w_p1 (by decide) (Or.inl (by decide)) (w_e2 _ _ _)), (w_e1 _ _ _), by omega⟩ ⟨by omega, by omega⟩
                      · have c7902_ : a1.toInt < 2 := en_i_ge_f c7902
                        refine At.enter rfl ?_
                        refine r_aload_n (w_p1 (by decide) (Or.inr rfl) e7812) ?_
                        refine q_getJv (Sh.long hI7897.1 kx_231 rfl) v7896 (gJ_sJ_eq hI7891.1 kx_231 rfl _) ?_
                        refine r_goto ?_
                        refine At.enter rfl ?_
                        refine r_lstore _ rfl ?_
                        refine Ar.fall 224 rfl ?_
                        refine At.enter rfl ?_
                        refine q_iinc (w_p2 (by decide) (by decide) (Or.inr rfl) (w_p1 (by decide) (Or.inr rfl) e7821)) (x7804.toInt + 1) rfl (by omega) (fun v7904 hv7904 => ?_)
                        refine r_goto ?_
                        exact ih7810 (12 - v7904.toInt) _ _ ⟨v7896, v7904, by first | rfl | omega, hI7897, hF7898, (((gI_sJ_ne (by decide)).trans ((hF7892.1 231 27 mf_X11_reckonAll_231_231_27).trans (hF7872.1 231 27 mf_X11_reckonAll_231_231_27))).trans e7811), (w_p1 (by decide) (Or.inr rfl) (w_p2 (by decide) (by decide) (Or.inr rfl) (w_p1 (by decide) (Or.inr rfl) e7812))), (w_p1 (by decide) (Or.inr rfl) (w_p2 (by decide) (by decide) (Or.inr rfl) (w_p1 (by decide) (Or.inr rfl) e7813))), (w_p1 (by decide) (Or.inr rfl) (w_p2 (by decide) (by decide) (Or.inr rfl) (w_p1 (by decide) (Or.inr rfl) e7814))), (w_p1 (by decide) (Or.inr rfl) (w_p2 (by decide) (by decide) (Or.inr rfl) (w_p1 (by decide) (Or.inr rfl) e7815))), (w_p1 (by decide) (Or.inr rfl) (w_p2 (by decide) (by decide) (Or.inr rfl) (w_p1 (by decide) (Or.inr rfl) e7816))), (w_p1 (by decide) (Or.inr rfl) (w_p2 (by decide) (by decide) (Or.inr rfl) (w_p1 (by decide) (Or.inr rfl) e7817))), (w_p1 (by decide) (Or.inl (by decide)) (w_p2 (by decide) (by decide) (Or.inl (by decide)) (w_p1 (by decide) (Or.inl (by decide)) e7818))), (w_p1 (by decide) (Or.inr rfl) (w_p2 (by decide) (by decide) (Or.inr rfl) (w_p1 (by decide) (Or.inr rfl) e7819))), (w_p1 (by decide) (Or.inl (by decide)) (w_e2 _ _ _)), (w_e1 _ _ _), by omega⟩ ⟨by omega, by omega⟩
                · have c7880_ : v7879.toInt = 0 := en_j_ne_f c7880
                  refine At.enter rfl ?_
                  refine r_iconst 0 rfl ?_
                  refine q_iretz (by decide) ?_
                  refine At.enter rfl ?_
                  refine r_ift (by decide) ?_
                  refine At.enter rfl ?_
                  refine q_iinc (w_p1 (by decide) (Or.inr rfl) e7821) (x7804.toInt + 1) rfl (by omega) (fun v7905 hv7905 => ?_)
                  refine r_goto ?_
                  exact ih7810 (12 - v7905.toInt) _ _ ⟨x7803, v7905, by first | rfl | omega, hI7871, hF7875, ((hF7872.1 231 27 mf_X11_reckonAll_231_231_27).trans e7811), (w_p1 (by decide) (Or.inr rfl) (w_p1 (by decide) (Or.inr rfl) e7812)), (w_p1 (by decide) (Or.inr rfl) (w_p1 (by decide) (Or.inr rfl) e7813)), (w_p1 (by decide) (Or.inr rfl) (w_p1 (by decide) (Or.inr rfl) e7814)), (w_p1 (by decide) (Or.inr rfl) (w_p1 (by decide) (Or.inr rfl) e7815)), (w_p1 (by decide) (Or.inr rfl) (w_p1 (by decide) (Or.inr rfl) e7816)), (w_p1 (by decide) (Or.inr rfl) (w_p1 (by decide) (Or.inr rfl) e7817)), (w_p1 (by decide) (Or.inl (by decide)) (w_p1 (by decide) (Or.inl (by decide)) e7818)), (w_p1 (by decide) (Or.inr rfl) (w_p1 (by decide) (Or.inr rfl) e7819)), (w_p1 (by decide) (Or.inl (by decide)) (w_p1 (by decide) (Or.inl (by decide)) e7820)), (w_e1 _ _ _), by omega⟩ ⟨by omega, by omega⟩
  · have c5272_ : v5271.toInt = (-1) := en_i_ne_f c5272
    refine At.enter rfl ?_
    refine r_lload rfl ?_
    refine r_lret ?_
    exact ⟨_, rfl, hI0, hF0, _, rfl, trivial⟩
