def F_X11_addLoad_231 : List (Nat × Nat) := []
def A_X11_addLoad_231 : List Nat := [233]
set_option maxRecDepth 100000 in
set_option maxHeartbeats 4000000 in
theorem T_X11_addLoad_231 (d : Nat) {N : Nat} {g0 : List en_E} (hI0 : HI g0) (a1 : Int32) (h_a1 : 1 ≤ a1.toInt ∧ a1.toInt ≤ 9) (a2 : Int32) (h_a2 : 0 ≤ a2.toInt ∧ a2.toInt ≤ 11) (a3 : Int32) (h_a3 : 0 ≤ a3.toInt ∧ a3.toInt ≤ 11) (a4 : Int32) (h_a4 : 0 ≤ a4.toInt ∧ a4.toInt ≤ 99) (a5 : Int32) (h_a5 : 0 ≤ a5.toInt ∧ a5.toInt ≤ 9) (a6 : Int32) (h_a6 : 0 ≤ a6.toInt ∧ a6.toInt ≤ 9999) (h1 : (eA g0 233 1).toInt < 8) (h2 : a2.toInt < (eA g0 233 0).toInt) (h3 : a3.toInt < (eA g0 233 0).toInt) : Ev (d + 1) 177 [.ref 231, .int a1, .int a2, .int a3, .int a4, .int a5, .int a6] (g0, N) (fun w h' => ∃ g', h' = (g', N) ∧ HI g' ∧ Fr F_X11_addLoad_231 A_X11_addLoad_231 g0 g' ∧ w = none ∧ ((∀ i : Int, 0 ≤ i → i < 46 → i ≠ 1 → eA g' 233 i = eA g0 233 i) ∧ (eA g' 233 1).toInt = (eA g0 233 1).toInt + 1)) := by
  have hF0 : Fr F_X11_addLoad_231 A_X11_addLoad_231 g0 g0 := Fr.rf
  refine Ev.mk rfl rfl ⟨Nat.le_of_ble_eq_true rfl, Or.inr (q_rc hI0.1 kx_231 rfl)⟩ ?_
  show At _ none _ _ (0, [(0, .ref 231), (1, .int a1), (2, .int a2), (3, .int a3), (4, .int a4), (5, .int a5), (6, .int a6)], [], (_, _)) _
  refine At.enter rfl ?_
  refine r_bipush 46 rfl ?_
  refine r_bipush 6 rfl ?_
  refine r_aload_n rfl ?_
  refine q_getR (Sh.ref hI0.1 kx_231 rfl) ?_
  refine r_iconst 1 rfl ?_
  obtain ⟨v59, hv59⟩ : ∃ v, eA g0 233 1 = v := ⟨_, rfl⟩
  have tv59 := congrArg Int32.toInt hv59
  have wv59 := HI.t1 hI0
  rw [hv59] at wv59
  have uv59 := h1; rw [hv59] at uv59
  refine q_iald (Sh.arr hI0.1 ka_233) 1 rfl (by decide) v59 hv59 ?_
  refine q_imul (6 * v59.toInt) rfl (by omega) (fun v60 hv60 => ?_)
  refine q_iadd (46 + v60.toInt) rfl (by omega) (fun v61 hv61 => ?_)
  refine r_istore ([(7, .int v61), (0, .ref 231), (1, .int a1), (2, .int a2), (3, .int a3), (4, .int a4), (5, .int a5), (6, .int a6)]) rfl ?_
  refine r_aload_n rfl ?_
  refine q_getR (Sh.ref hI0.1 kx_231 rfl) ?_
  refine r_iload rfl ?_
  refine r_iload_n rfl ?_
  refine q_iast (Sh.arr hI0.1 ka_233) ((6 * v59.toInt + 46)) (by omega) (by omega) ?_
  have hI62 := HI.wl hI0 (j := (6 * v59.toInt + 46)) (v := a1) (v59.toInt) 0 (by omega) (by decide) (by omega) (by omega)
  have hF63 := Fr.wA (p := 233) (j := (6 * v59.toInt + 46)) (v := a1) hF0 rfl
  refine r_aload_n rfl ?_
  refine q_getR (Sh.ref hI62.1 kx_231 rfl) ?_
  refine r_iload rfl ?_
  refine r_iconst 1 rfl ?_
  refine q_iadd (v61.toInt + 1) rfl (by omega) (fun v64 hv64 => ?_)
  refine r_iload_n rfl ?_
  refine q_iast (Sh.arr hI62.1 ka_233) ((6 * v59.toInt + 47)) (by omega) (by omega) ?_
  obtain ⟨v67, hv67⟩ : ∃ v, eA g0 233 0 = v := ⟨_, rfl⟩
  have tv67 := congrArg Int32.toInt hv67
  have wv67 := HI.t0 hI0
  rw [hv67] at wv67
  have uv67 := h2; rw [hv67] at uv67
  have wv67_ := h3; rw [hv67] at wv67_
  have tv67 := congrArg Int32.toInt hv67
  have x68 := HI.eqA hI62 (p := 233) (j := 0) (((eA_sA_ne hI0.1 ka_233 (by first | decide | omega) (by first | decide | omega) (by first | decide | omega)).trans hv67))
  have hI65 := HI.wl hI62 (j := (6 * v59.toInt + 47)) (v := a2) (v59.toInt) 1 (by omega) (by decide) (by omega) (by omega)
  have hF66 := Fr.wA (p := 233) (j := (6 * v59.toInt + 47)) (v := a2) hF63 rfl
  refine r_aload_n rfl ?_
  refine q_getR (Sh.ref hI65.1 kx_231 rfl) ?_
  refine r_iload rfl ?_
  refine r_iconst 2 rfl ?_
  refine q_iadd (v61.toInt + 2) rfl (by omega) (fun v69 hv69 => ?_)
  refine r_iload_n rfl ?_
  refine q_iast (Sh.arr hI65.1 ka_233) ((6 * v59.toInt + 48)) (by omega) (by omega) ?_
  have x72 := HI.eqA hI65 (p := 233) (j := 0) ((((eA_sA_ne hI62.1 ka_233 (by first | decide | omega) (by first | decide | omega) (by first | decide | omega)).trans (eA_sA_ne hI0.1 ka_233 (by first | decide | omega) (by first | decide | omega) (by first | decide | omega))).trans hv67))
  have hI70 := HI.wl hI65 (j := (6 * v59.toInt + 48)) (v := a3) (v59.toInt) 2 (by omega) (by decide) (by omega) (by omega)
  have hF71 := Fr.wA (p := 233) (j := (6 * v59.toInt + 48)) (v := a3) hF66 rfl
  refine r_aload_n rfl ?_
  refine q_getR (Sh.ref hI70.1 kx_231 rfl) ?_
  refine r_iload rfl ?_
  refine r_iconst 3 rfl ?_
  refine q_iadd (v61.toInt + 3) rfl (by omega) (fun v73 hv73 => ?_)
  refine r_iload rfl ?_
  refine q_iast (Sh.arr hI70.1 ka_233) ((6 * v59.toInt + 49)) (by omega) (by omega) ?_
  have hI74 := HI.wl hI70 (j := (6 * v59.toInt + 49)) (v := a4) (v59.toInt) 3 (by omega) (by decide) (by omega) (by omega)
  have hF75 := Fr.wA (p := 233) (j := (6 * v59.toInt + 49)) (v := a4) hF71 rfl
  refine r_aload_n rfl ?_
  refine q_getR (Sh.ref hI74.1 kx_231 rfl) ?_
  refine r_iload rfl ?_
  refine r_iconst 4 rfl ?_
  refine q_iadd (v61.toInt + 4) rfl (by omega) (fun v76 hv76 => ?_)
  refine r_iload rfl ?_
  refine q_iast (Sh.arr hI74.1 ka_233) ((6 * v59.toInt + 50)) (by omega) (by omega) ?_
  have hI77 := HI.wl hI74 (j := (6 * v59.toInt + 50)) (v := a5) (v59.toInt) 4 (by omega) (by decide) (by omega) (by omega)
  have hF78 := Fr.wA (p := 233) (j := (6 * v59.toInt + 50)) (v := a5) hF75 rfl
  refine r_aload_n rfl ?_
  refine q_getR (Sh.ref hI77.1 kx_231 rfl) ?_
  refine r_iload rfl ?_
  refine r_iconst 5 rfl ?_
  refine q_iadd (v61.toInt + 5) rfl (by omega) (fun v79 hv79 => ?_)
  refine r_iload rfl ?_
  refine q_iast (Sh.arr hI77.1 ka_233) ((6 * v59.toInt + 51)) (by omega) (by omega) ?_
  have hI80 := HI.wl hI77 (j := (6 * v59.toInt + 51)) (v := a6) (v59.toInt) 5 (by omega) (by decide) (by omega) (by omega)
  have hF81 := Fr.wA (p := 233) (j := (6 * v59.toInt + 51)) (v := a6) hF78 rfl
  refine r_aload_n rfl ?_
  refine q_getR (Sh.ref hI80.1 kx_231 rfl) ?_
  refine r_iconst 1 rfl ?_
  refine r_dup2 ⟨rfl, rfl⟩ ?_
  refine q_iald (Sh.arr hI80.1 ka_233) 1 rfl (by decide) v59 (((eA_sA_ne hI77.1 ka_233 (by first | decide | omega) (by first | decide | omega) (by first | decide | omega)).trans ((eA_sA_ne hI74.1 ka_233 (by first | decide | omega) (by first | decide | omega) (by first | decide | omega)).trans ((eA_sA_ne hI70.1 ka_233 (by first | decide | omega) (by first | decide | omega) (by first | decide | omega)).trans ((eA_sA_ne hI65.1 ka_233 (by first | decide | omega) (by first | decide | omega) (by first | decide | omega)).trans ((eA_sA_ne hI62.1 ka_233 (by first | decide | omega) (by first | decide | omega) (by first | decide | omega)).trans (eA_sA_ne hI0.1 ka_233 (by first | decide | omega) (by first | decide | omega) (by first | decide | omega))))))).trans hv59) ?_
  refine r_iconst 1 rfl ?_
  refine q_iadd (v59.toInt + 1) rfl (by omega) (fun v82 hv82 => ?_)
  refine q_iast (Sh.arr hI80.1 ka_233) (1) rfl (by decide) ?_
  have x85 := HI.eqA hI80 (p := 233) (j := 0) ((((eA_sA_ne hI77.1 ka_233 (by first | decide | omega) (by first | decide | omega) (by first | decide | omega)).trans ((eA_sA_ne hI74.1 ka_233 (by first | decide | omega) (by first | decide | omega) (by first | decide | omega)).trans ((eA_sA_ne hI70.1 ka_233 (by first | decide | omega) (by first | decide | omega) (by first | decide | omega)).trans ((eA_sA_ne hI65.1 ka_233 (by first | decide | omega) (by first | decide | omega) (by first | decide | omega)).trans ((eA_sA_ne hI62.1 ka_233 (by first | decide | omega) (by first | decide | omega) (by first | decide | omega)).trans (eA_sA_ne hI0.1 ka_233 (by first | decide | omega) (by first | decide | omega) (by first | decide | omega))))))).trans hv67))
  have x86 := HI.eqA hI80 (p := 233) (j := 1) ((((eA_sA_ne hI77.1 ka_233 (by first | decide | omega) (by first | decide | omega) (by first | decide | omega)).trans ((eA_sA_ne hI74.1 ka_233 (by first | decide | omega) (by first | decide | omega) (by first | decide | omega)).trans ((eA_sA_ne hI70.1 ka_233 (by first | decide | omega) (by first | decide | omega) (by first | decide | omega)).trans ((eA_sA_ne hI65.1 ka_233 (by first | decide | omega) (by first | decide | omega) (by first | decide | omega)).trans ((eA_sA_ne hI62.1 ka_233 (by first | decide | omega) (by first | decide | omega) (by first | decide | omega)).trans (eA_sA_ne hI0.1 ka_233 (by first | decide | omega) (by first | decide | omega) (by first | decide | omega))))))).trans hv59))
  have yv87 := HI.lt hI80
  have hI83 := HI.wt hI80 (j := 1) (v := v82) (by omega) (by omega)
  have hF84 := Fr.wA (p := 233) (j := 1) (v := v82) hF81 rfl
  refine r_vret ?_
  have x88 := HI.eqA hI83 (p := 233) (j := 1) ((eA_sA_eq hI80.1 ka_233 (by first | rfl | omega) (by first | decide | omega) (by first | decide | omega)))
  have x89 := HI.eqA hI0 (p := 233) (j := 1) (hv59)
  have x90 := HI.eqA hI0 (p := 233) (j := 0) (hv67)
  exact ⟨_, rfl, hI83, hF84, rfl, ⟨(fun i i0 i1 i2 => ((eA_sA_ne (i := i) hI80.1 ka_233 (by omega) (by first | decide | omega) (by omega)).trans ((eA_sA_ne (i := i) hI77.1 ka_233 (by omega) (by first | decide | omega) (by omega)).trans ((eA_sA_ne (i := i) hI74.1 ka_233 (by omega) (by first | decide | omega) (by omega)).trans ((eA_sA_ne (i := i) hI70.1 ka_233 (by omega) (by first | decide | omega) (by omega)).trans ((eA_sA_ne (i := i) hI65.1 ka_233 (by omega) (by first | decide | omega) (by omega)).trans ((eA_sA_ne (i := i) hI62.1 ka_233 (by omega) (by first | decide | omega) (by omega)).trans (eA_sA_ne (i := i) hI0.1 ka_233 (by omega) (by first | decide | omega) (by omega))))))))), by omega⟩⟩

def F_X11_load_231 : List (Nat × Nat) := [(231, 0), (231, 1)]
def A_X11_load_231 : List Nat := [232, 233]
set_option maxRecDepth 100000 in
set_option maxHeartbeats 4000000 in
theorem T_X11_load_231 (d : Nat) {N : Nat} {g0 : List en_E} (hI0 : HI g0) (a1 : Int32) (a2 : Int32) (a3 : Int32) (a4 : Int32) (a5 : Int32) (a6 : Int32) : Ev (d + 3) 178 [.ref 231, .int a1, .int a2, .int a3, .int a4, .int a5, .int a6] (g0, N) (fun w h' => ∃ g', h' = (g', N) ∧ HI g' ∧ Fr F_X11_load_231 A_X11_load_231 g0 g' ∧ ∃ r : Int32, w = some (.int r) ∧ ((-5) ≤ r.toInt ∧ r.toInt ≤ 7) ∧ ((eA g' 233 0).toInt = (eA g0 233 0).toInt ∧ (eA g' 233 4).toInt = (eA g0 233 4).toInt ∧ (eA g' 233 5).toInt = (eA g0 233 5).toInt ∧ (eA g' 233 6).toInt = (eA g0 233 6).toInt ∧ (eA g' 233 2).toInt = (eA g0 233 2).toInt ∧ (eA g' 233 3).toInt = (eA g0 233 3).toInt)) := by
  have hF0 : Fr F_X11_load_231 A_X11_load_231 g0 g0 := Fr.rf
  refine Ev.mk rfl rfl ⟨Nat.le_of_ble_eq_true rfl, Or.inr (q_rc hI0.1 kx_231 rfl)⟩ ?_
  show At _ none _ _ (0, [(0, .ref 231), (1, .int a1), (2, .int a2), (3, .int a3), (4, .int a4), (5, .int a5), (6, .int a6)], [], (_, _)) _
  refine At.enter rfl ?_
  refine r_aload_n rfl ?_
  refine r_iconst 0 rfl ?_
  refine q_putI (Sh.int hI0.1 kx_231 rfl) rfl ?_
  have hI283 := HI.wI0 hI0 kx_231 rfl (p := 231) (b := 0) (v := 0) rfl
  have hF284 := Fr.wI (p := 231) (b := 0) (v := 0) hF0 rfl
  refine r_iload_n rfl ?_
  refine r_iload rfl ?_
  refine r_iload rfl ?_
  refine r_iload rfl ?_
  refine q_inlS 15 rfl [.int a1, .int a4, .int a5, .int a6] [] (Nat.le_of_ble_eq_true rfl) rfl ?_
  refine Ev.mk rfl rfl ⟨Nat.le_of_ble_eq_true rfl, Or.inl rfl⟩ ?_
  show At _ none _ _ (0, [(0, .int a1), (1, .int a4), (2, .int a5), (3, .int a6)], [], (_, _)) _
  refine At.enter rfl ?_
  refine r_iload_n rfl ?_
  refine q_i2l (fun v285 hv285 => ?_)
  refine r_lconst 1 rfl ?_
  refine r_ldc2 9 rfl ?_
  refine q_inlS 9 rfl [.long v285, .long 1, .long 9] [] (Nat.le_of_ble_eq_true rfl) rfl ?_
  refine Ev.mk rfl rfl ⟨Nat.le_of_ble_eq_true rfl, Or.inl rfl⟩ ?_
  show At _ none _ _ (0, [(0, .long v285), (2, .long 1), (4, .long 9)], [], (_, _)) _
  refine At.enter rfl ?_
  refine r_lload_n rfl ?_
  refine r_lload_n rfl ?_
  refine r_lcmp _ rfl ?_
  refine r_ifs 6 rfl (fun c286 => ?_) (fun c286 => ?_)
  · have c286_ : v285.toInt < 1 := en_j_lt_t c286
    refine At.enter rfl ?_
    refine r_iconst 0 rfl ?_
    refine Ar.fall 18 rfl ?_
    refine At.enter rfl ?_
    refine q_iretz (by decide) ?_
    refine At.enter rfl ?_
    refine r_ift (by decide) ?_
    refine At.enter rfl ?_
    refine r_iconst 0 rfl ?_
    refine Ar.fall 53 rfl ?_
    refine At.enter rfl ?_
    refine q_iretz (by decide) ?_
    refine At.enter rfl ?_
    refine r_iff 18 rfl (by decide) ?_
    refine At.enter rfl ?_
    refine r_aload_n rfl ?_
    refine r_iconst (-1) rfl ?_
    refine r_callV 23 rfl [.ref 231, .int (-1)] [] (Nat.le_of_ble_eq_true rfl) rfl (T_X11_tell_231 _ hI283 (-1) (by decide)) ?_
    rintro _ _ ⟨g287, rfl, hI288, hF289, v290, rfl, hr291⟩
    refine At.sti ?_
    have hF292 := Fr.tr hF284 hF289 rfl rfl
    have zv293 : ((-1) : Int32).toInt = (-1) := rfl
    refine At.enter rfl ?_
    refine r_ireti ?_
    obtain ⟨v294, hv294⟩ : ∃ v, eA g0 233 0 = v := ⟨_, rfl⟩
    have tv294 := congrArg Int32.toInt hv294
    have wv294 := HI.t0 hI0
    rw [hv294] at wv294
    have tv294 := congrArg Int32.toInt hv294
    have x295 := HI.eqA hI288 (p := 233) (j := 0) ((((eA_c (hF289.2.1 233 ma_X11_tell_231_233)).trans (eA_c gA_sI)).trans hv294))
    obtain ⟨v296, hv296⟩ : ∃ v, eA g0 233 4 = v := ⟨_, rfl⟩
    have wv296 := HI.t4 hI0
    rw [hv296] at wv296
    have tv296 := congrArg Int32.toInt hv296
    have x297 := HI.eqA hI288 (p := 233) (j := 4) ((((eA_c (hF289.2.1 233 ma_X11_tell_231_233)).trans (eA_c gA_sI)).trans hv296))
    obtain ⟨v298, hv298⟩ : ∃ v, eA g0 233 5 = v := ⟨_, rfl⟩
    have wv298 := HI.t5 hI0
    rw [hv298] at wv298
    have tv298 := congrArg Int32.toInt hv298
    have x299 := HI.eqA hI288 (p := 233) (j := 5) ((((eA_c (hF289.2.1 233 ma_X11_tell_231_233)).trans (eA_c gA_sI)).trans hv298))
    obtain ⟨v300, hv300⟩ : ∃ v, eA g0 233 6 = v := ⟨_, rfl⟩
    have wv300 := HI.t6 hI0
    rw [hv300] at wv300
    have tv300 := congrArg Int32.toInt hv300
    have x301 := HI.eqA hI288 (p := 233) (j := 6) ((((eA_c (hF289.2.1 233 ma_X11_tell_231_233)).trans (eA_c gA_sI)).trans hv300))
    obtain ⟨v302, hv302⟩ : ∃ v, eA g0 233 2 = v := ⟨_, rfl⟩
    have tv302 := congrArg Int32.toInt hv302
    have wv302 := HI.t2 hI0
    rw [hv302] at wv302
    have tv302 := congrArg Int32.toInt hv302
    have x303 := HI.eqA hI288 (p := 233) (j := 2) ((((eA_c (hF289.2.1 233 ma_X11_tell_231_233)).trans (eA_c gA_sI)).trans hv302))
    obtain ⟨v304, hv304⟩ : ∃ v, eA g0 233 3 = v := ⟨_, rfl⟩
    have wv304 := HI.t3 hI0
    rw [hv304] at wv304
    have tv304 := congrArg Int32.toInt hv304
    have x305 := HI.eqA hI288 (p := 233) (j := 3) ((((eA_c (hF289.2.1 233 ma_X11_tell_231_233)).trans (eA_c gA_sI)).trans hv304))
    have x306 := HI.eqA hI0 (p := 233) (j := 0) (hv294)
    have x307 := HI.eqA hI0 (p := 233) (j := 4) (hv296)
    have x308 := HI.eqA hI0 (p := 233) (j := 5) (hv298)
    have x309 := HI.eqA hI0 (p := 233) (j := 6) (hv300)
    have x310 := HI.eqA hI0 (p := 233) (j := 2) (hv302)
    have x311 := HI.eqA hI0 (p := 233) (j := 3) (hv304)
    exact ⟨_, rfl, hI288, hF292, _, rfl, by omega, ⟨by omega, by omega, by omega, by omega, by omega, by omega⟩⟩
  · have c286_ : v285.toInt ≥ 1 := en_j_lt_f c286
    refine At.enter rfl ?_
    refine r_lload_n rfl ?_
    refine r_lload rfl ?_
    refine r_lcmp _ rfl ?_
    refine r_ifs 13 rfl (fun c312 => ?_) (fun c312 => ?_)
    · have c312_ : v285.toInt > 9 := en_j_gt_t c312
      refine At.enter rfl ?_
      refine r_iconst 0 rfl ?_
      refine Ar.fall 18 rfl ?_
      refine At.enter rfl ?_
      refine q_iretz (by decide) ?_
      refine At.enter rfl ?_
      refine r_ift (by decide) ?_
      refine At.enter rfl ?_
      refine r_iconst 0 rfl ?_
      refine Ar.fall 53 rfl ?_
      refine At.enter rfl ?_
      refine q_iretz (by decide) ?_
      refine At.enter rfl ?_
      refine r_iff 18 rfl (by decide) ?_
      refine At.enter rfl ?_
      refine r_aload_n rfl ?_
      refine r_iconst (-1) rfl ?_
      refine r_callV 23 rfl [.ref 231, .int (-1)] [] (Nat.le_of_ble_eq_true rfl) rfl (T_X11_tell_231 _ hI283 (-1) (by decide)) ?_
      rintro _ _ ⟨g313, rfl, hI314, hF315, v316, rfl, hr317⟩
      refine At.sti ?_
      have hF318 := Fr.tr hF284 hF315 rfl rfl
      have zv319 : ((-1) : Int32).toInt = (-1) := rfl
      refine At.enter rfl ?_
      refine r_ireti ?_
      obtain ⟨v320, hv320⟩ : ∃ v, eA g0 233 0 = v := ⟨_, rfl⟩
      have tv320 := congrArg Int32.toInt hv320
      have wv320 := HI.t0 hI0
      rw [hv320] at wv320
      have tv320 := congrArg Int32.toInt hv320
      have x321 := HI.eqA hI314 (p := 233) (j := 0) ((((eA_c (hF315.2.1 233 ma_X11_tell_231_233)).trans (eA_c gA_sI)).trans hv320))
      obtain ⟨v322, hv322⟩ : ∃ v, eA g0 233 4 = v := ⟨_, rfl⟩
      have wv322 := HI.t4 hI0
      rw [hv322] at wv322
      have tv322 := congrArg Int32.toInt hv322
      have x323 := HI.eqA hI314 (p := 233) (j := 4) ((((eA_c (hF315.2.1 233 ma_X11_tell_231_233)).trans (eA_c gA_sI)).trans hv322))
      obtain ⟨v324, hv324⟩ : ∃ v, eA g0 233 5 = v := ⟨_, rfl⟩
      have wv324 := HI.t5 hI0
      rw [hv324] at wv324
      have tv324 := congrArg Int32.toInt hv324
      have x325 := HI.eqA hI314 (p := 233) (j := 5) ((((eA_c (hF315.2.1 233 ma_X11_tell_231_233)).trans (eA_c gA_sI)).trans hv324))
      obtain ⟨v326, hv326⟩ : ∃ v, eA g0 233 6 = v := ⟨_, rfl⟩
      have wv326 := HI.t6 hI0
      rw [hv326] at wv326
      have tv326 := congrArg Int32.toInt hv326
      have x327 := HI.eqA hI314 (p := 233) (j := 6) ((((eA_c (hF315.2.1 233 ma_X11_tell_231_233)).trans (eA_c gA_sI)).trans hv326))
      obtain ⟨v328, hv328⟩ : ∃ v, eA g0 233 2 = v := ⟨_, rfl⟩
      have tv328 := congrArg Int32.toInt hv328
      have wv328 := HI.t2 hI0
      rw [hv328] at wv328
      have tv328 := congrArg Int32.toInt hv328
      have x329 := HI.eqA hI314 (p := 233) (j := 2) ((((eA_c (hF315.2.1 233 ma_X11_tell_231_233)).trans (eA_c gA_sI)).trans hv328))
      obtain ⟨v330, hv330⟩ : ∃ v, eA g0 233 3 = v := ⟨_, rfl⟩
      have wv330 := HI.t3 hI0
      rw [hv330] at wv330
      have tv330 := congrArg Int32.toInt hv330
      have x331 := HI.eqA hI314 (p := 233) (j := 3) ((((eA_c (hF315.2.1 233 ma_X11_tell_231_233)).trans (eA_c gA_sI)).trans hv330))
      have x332 := HI.eqA hI0 (p := 233) (j := 0) (hv320)
      have x333 := HI.eqA hI0 (p := 233) (j := 4) (hv322)
      have x334 := HI.eqA hI0 (p := 233) (j := 5) (hv324)
      have x335 := HI.eqA hI0 (p := 233) (j := 6) (hv326)
      have x336 := HI.eqA hI0 (p := 233) (j := 2) (hv328)
      have x337 := HI.eqA hI0 (p := 233) (j := 3) (hv330)
      exact ⟨_, rfl, hI314, hF318, _, rfl, by omega, ⟨by omega, by omega, by omega, by omega, by omega, by omega⟩⟩
    · have c312_ : v285.toInt ≤ 9 := en_j_gt_f c312
      refine At.enter rfl ?_
      refine r_iconst 1 rfl ?_
      refine r_goto ?_
      refine At.enter rfl ?_
      refine q_iretz (by decide) ?_
      refine At.enter rfl ?_
      refine r_iff 12 rfl (by decide) ?_
      refine At.enter rfl ?_
      refine r_iload_n rfl ?_
      refine q_i2l (fun v338 hv338 => ?_)
      refine r_lconst 0 rfl ?_
      refine r_ldc2 99 rfl ?_
      refine q_inlS 21 rfl [.long v338, .long 0, .long 99] [] (Nat.le_of_ble_eq_true rfl) rfl ?_
      refine Ev.mk rfl rfl ⟨Nat.le_of_ble_eq_true rfl, Or.inl rfl⟩ ?_
      show At _ none _ _ (0, [(0, .long v338), (2, .long 0), (4, .long 99)], [], (_, _)) _
      refine At.enter rfl ?_
      refine r_lload_n rfl ?_
      refine r_lload_n rfl ?_
      refine r_lcmp _ rfl ?_
      refine r_ifs 6 rfl (fun c339 => ?_) (fun c339 => ?_)
      · have c339_ : v338.toInt < 0 := en_j_lt_t c339
        refine At.enter rfl ?_
        refine r_iconst 0 rfl ?_
        refine Ar.fall 18 rfl ?_
        refine At.enter rfl ?_
        refine q_iretz (by decide) ?_
        refine At.enter rfl ?_
        refine r_ift (by decide) ?_
        refine At.enter rfl ?_
        refine r_iconst 0 rfl ?_
        refine Ar.fall 53 rfl ?_
        refine At.enter rfl ?_
        refine q_iretz (by decide) ?_
        refine At.enter rfl ?_
        refine r_iff 18 rfl (by decide) ?_
        refine At.enter rfl ?_
        refine r_aload_n rfl ?_
        refine r_iconst (-1) rfl ?_
        refine r_callV 23 rfl [.ref 231, .int (-1)] [] (Nat.le_of_ble_eq_true rfl) rfl (T_X11_tell_231 _ hI283 (-1) (by decide)) ?_
        rintro _ _ ⟨g340, rfl, hI341, hF342, v343, rfl, hr344⟩
        refine At.sti ?_
        have hF345 := Fr.tr hF284 hF342 rfl rfl
        have zv346 : ((-1) : Int32).toInt = (-1) := rfl
        refine At.enter rfl ?_
        refine r_ireti ?_
        obtain ⟨v347, hv347⟩ : ∃ v, eA g0 233 0 = v := ⟨_, rfl⟩
        have tv347 := congrArg Int32.toInt hv347
        have wv347 := HI.t0 hI0
        rw [hv347] at wv347
        have tv347 := congrArg Int32.toInt hv347
        have x348 := HI.eqA hI341 (p := 233) (j := 0) ((((eA_c (hF342.2.1 233 ma_X11_tell_231_233)).trans (eA_c gA_sI)).trans hv347))
        obtain ⟨v349, hv349⟩ : ∃ v, eA g0 233 4 = v := ⟨_, rfl⟩
        have wv349 := HI.t4 hI0
        rw [hv349] at wv349
        have tv349 := congrArg Int32.toInt hv349
        have x350 := HI.eqA hI341 (p := 233) (j := 4) ((((eA_c (hF342.2.1 233 ma_X11_tell_231_233)).trans (eA_c gA_sI)).trans hv349))
        obtain ⟨v351, hv351⟩ : ∃ v, eA g0 233 5 = v := ⟨_, rfl⟩
        have wv351 := HI.t5 hI0
        rw [hv351] at wv351
        have tv351 := congrArg Int32.toInt hv351
        have x352 := HI.eqA hI341 (p := 233) (j := 5) ((((eA_c (hF342.2.1 233 ma_X11_tell_231_233)).trans (eA_c gA_sI)).trans hv351))
        obtain ⟨v353, hv353⟩ : ∃ v, eA g0 233 6 = v := ⟨_, rfl⟩
        have wv353 := HI.t6 hI0
        rw [hv353] at wv353
        have tv353 := congrArg Int32.toInt hv353
        have x354 := HI.eqA hI341 (p := 233) (j := 6) ((((eA_c (hF342.2.1 233 ma_X11_tell_231_233)).trans (eA_c gA_sI)).trans hv353))
        obtain ⟨v355, hv355⟩ : ∃ v, eA g0 233 2 = v := ⟨_, rfl⟩
        have tv355 := congrArg Int32.toInt hv355
        have wv355 := HI.t2 hI0
        rw [hv355] at wv355
        have tv355 := congrArg Int32.toInt hv355
        have x356 := HI.eqA hI341 (p := 233) (j := 2) ((((eA_c (hF342.2.1 233 ma_X11_tell_231_233)).trans (eA_c gA_sI)).trans hv355))
        obtain ⟨v357, hv357⟩ : ∃ v, eA g0 233 3 = v := ⟨_, rfl⟩
        have wv357 := HI.t3 hI0
        rw [hv357] at wv357
        have tv357 := congrArg Int32.toInt hv357
        have x358 := HI.eqA hI341 (p := 233) (j := 3) ((((eA_c (hF342.2.1 233 ma_X11_tell_231_233)).trans (eA_c gA_sI)).trans hv357))
        have x359 := HI.eqA hI0 (p := 233) (j := 0) (hv347)
        have x360 := HI.eqA hI0 (p := 233) (j := 4) (hv349)
        have x361 := HI.eqA hI0 (p := 233) (j := 5) (hv351)
        have x362 := HI.eqA hI0 (p := 233) (j := 6) (hv353)
        have x363 := HI.eqA hI0 (p := 233) (j := 2) (hv355)
        have x364 := HI.eqA hI0 (p := 233) (j := 3) (hv357)
        exact ⟨_, rfl, hI341, hF345, _, rfl, by omega, ⟨by omega, by omega, by omega, by omega, by omega, by omega⟩⟩
      · have c339_ : v338.toInt ≥ 0 := en_j_lt_f c339
        refine At.enter rfl ?_
        refine r_lload_n rfl ?_
        refine r_lload rfl ?_
        refine r_lcmp _ rfl ?_
        refine r_ifs 13 rfl (fun c365 => ?_) (fun c365 => ?_)
        · have c365_ : v338.toInt > 99 := en_j_gt_t c365
          refine At.enter rfl ?_
          refine r_iconst 0 rfl ?_
          refine Ar.fall 18 rfl ?_
          refine At.enter rfl ?_
          refine q_iretz (by decide) ?_
          refine At.enter rfl ?_
          refine r_ift (by decide) ?_
          refine At.enter rfl ?_
          refine r_iconst 0 rfl ?_
          refine Ar.fall 53 rfl ?_
          refine At.enter rfl ?_
          refine q_iretz (by decide) ?_
          refine At.enter rfl ?_
          refine r_iff 18 rfl (by decide) ?_
          refine At.enter rfl ?_
          refine r_aload_n rfl ?_
          refine r_iconst (-1) rfl ?_
          refine r_callV 23 rfl [.ref 231, .int (-1)] [] (Nat.le_of_ble_eq_true rfl) rfl (T_X11_tell_231 _ hI283 (-1) (by decide)) ?_
          rintro _ _ ⟨g366, rfl, hI367, hF368, v369, rfl, hr370⟩
          refine At.sti ?_
          have hF371 := Fr.tr hF284 hF368 rfl rfl
          have zv372 : ((-1) : Int32).toInt = (-1) := rfl
          refine At.enter rfl ?_
          refine r_ireti ?_
          obtain ⟨v373, hv373⟩ : ∃ v, eA g0 233 0 = v := ⟨_, rfl⟩
          have tv373 := congrArg Int32.toInt hv373
          have wv373 := HI.t0 hI0
          rw [hv373] at wv373
          have tv373 := congrArg Int32.toInt hv373
          have x374 := HI.eqA hI367 (p := 233) (j := 0) ((((eA_c (hF368.2.1 233 ma_X11_tell_231_233)).trans (eA_c gA_sI)).trans hv373))
          obtain ⟨v375, hv375⟩ : ∃ v, eA g0 233 4 = v := ⟨_, rfl⟩
          have wv375 := HI.t4 hI0
          rw [hv375] at wv375
          have tv375 := congrArg Int32.toInt hv375
          have x376 := HI.eqA hI367 (p := 233) (j := 4) ((((eA_c (hF368.2.1 233 ma_X11_tell_231_233)).trans (eA_c gA_sI)).trans hv375))
          obtain ⟨v377, hv377⟩ : ∃ v, eA g0 233 5 = v := ⟨_, rfl⟩
          have wv377 := HI.t5 hI0
          rw [hv377] at wv377
          have tv377 := congrArg Int32.toInt hv377
          have x378 := HI.eqA hI367 (p := 233) (j := 5) ((((eA_c (hF368.2.1 233 ma_X11_tell_231_233)).trans (eA_c gA_sI)).trans hv377))
          obtain ⟨v379, hv379⟩ : ∃ v, eA g0 233 6 = v := ⟨_, rfl⟩
          have wv379 := HI.t6 hI0
          rw [hv379] at wv379
          have tv379 := congrArg Int32.toInt hv379
          have x380 := HI.eqA hI367 (p := 233) (j := 6) ((((eA_c (hF368.2.1 233 ma_X11_tell_231_233)).trans (eA_c gA_sI)).trans hv379))
          obtain ⟨v381, hv381⟩ : ∃ v, eA g0 233 2 = v := ⟨_, rfl⟩
          have tv381 := congrArg Int32.toInt hv381
          have wv381 := HI.t2 hI0
          rw [hv381] at wv381
          have tv381 := congrArg Int32.toInt hv381
          have x382 := HI.eqA hI367 (p := 233) (j := 2) ((((eA_c (hF368.2.1 233 ma_X11_tell_231_233)).trans (eA_c gA_sI)).trans hv381))
          obtain ⟨v383, hv383⟩ : ∃ v, eA g0 233 3 = v := ⟨_, rfl⟩
          have wv383 := HI.t3 hI0
          rw [hv383] at wv383
          have tv383 := congrArg Int32.toInt hv383
          have x384 := HI.eqA hI367 (p := 233) (j := 3) ((((eA_c (hF368.2.1 233 ma_X11_tell_231_233)).trans (eA_c gA_sI)).trans hv383))
          have x385 := HI.eqA hI0 (p := 233) (j := 0) (hv373)
          have x386 := HI.eqA hI0 (p := 233) (j := 4) (hv375)
          have x387 := HI.eqA hI0 (p := 233) (j := 5) (hv377)
          have x388 := HI.eqA hI0 (p := 233) (j := 6) (hv379)
          have x389 := HI.eqA hI0 (p := 233) (j := 2) (hv381)
          have x390 := HI.eqA hI0 (p := 233) (j := 3) (hv383)
          exact ⟨_, rfl, hI367, hF371, _, rfl, by omega, ⟨by omega, by omega, by omega, by omega, by omega, by omega⟩⟩
        · have c365_ : v338.toInt ≤ 99 := en_j_gt_f c365
          refine At.enter rfl ?_
          refine r_iconst 1 rfl ?_
          refine r_goto ?_
          refine At.enter rfl ?_
          refine q_iretz (by decide) ?_
          refine At.enter rfl ?_
          refine r_iff 24 rfl (by decide) ?_
          refine At.enter rfl ?_
          refine r_iload_n rfl ?_
          refine q_i2l (fun v391 hv391 => ?_)
          refine r_lconst 0 rfl ?_
          refine r_ldc2 9 rfl ?_
          refine q_inlS 33 rfl [.long v391, .long 0, .long 9] [] (Nat.le_of_ble_eq_true rfl) rfl ?_
          refine Ev.mk rfl rfl ⟨Nat.le_of_ble_eq_true rfl, Or.inl rfl⟩ ?_
          show At _ none _ _ (0, [(0, .long v391), (2, .long 0), (4, .long 9)], [], (_, _)) _
          refine At.enter rfl ?_
          refine r_lload_n rfl ?_
          refine r_lload_n rfl ?_
          refine r_lcmp _ rfl ?_
          refine r_ifs 6 rfl (fun c392 => ?_) (fun c392 => ?_)
          · have c392_ : v391.toInt < 0 := en_j_lt_t c392
            refine At.enter rfl ?_
            refine r_iconst 0 rfl ?_
            refine Ar.fall 18 rfl ?_
            refine At.enter rfl ?_
            refine q_iretz (by decide) ?_
            refine At.enter rfl ?_
            refine r_ift (by decide) ?_
            refine At.enter rfl ?_
            refine r_iconst 0 rfl ?_
            refine Ar.fall 53 rfl ?_
            refine At.enter rfl ?_
            refine q_iretz (by decide) ?_
            refine At.enter rfl ?_
            refine r_iff 18 rfl (by decide) ?_
            refine At.enter rfl ?_
            refine r_aload_n rfl ?_
            refine r_iconst (-1) rfl ?_
            refine r_callV 23 rfl [.ref 231, .int (-1)] [] (Nat.le_of_ble_eq_true rfl) rfl (T_X11_tell_231 _ hI283 (-1) (by decide)) ?_
            rintro _ _ ⟨g393, rfl, hI394, hF395, v396, rfl, hr397⟩
            refine At.sti ?_
            have hF398 := Fr.tr hF284 hF395 rfl rfl
            have zv399 : ((-1) : Int32).toInt = (-1) := rfl
            refine At.enter rfl ?_
            refine r_ireti ?_
            obtain ⟨v400, hv400⟩ : ∃ v, eA g0 233 0 = v := ⟨_, rfl⟩
            have tv400 := congrArg Int32.toInt hv400
            have wv400 := HI.t0 hI0
            rw [hv400] at wv400
            have tv400 := congrArg Int32.toInt hv400
            have x401 := HI.eqA hI394 (p := 233) (j := 0) ((((eA_c (hF395.2.1 233 ma_X11_tell_231_233)).trans (eA_c gA_sI)).trans hv400))
            obtain ⟨v402, hv402⟩ : ∃ v, eA g0 233 4 = v := ⟨_, rfl⟩
            have wv402 := HI.t4 hI0
            rw [hv402] at wv402
            have tv402 := congrArg Int32.toInt hv402
            have x403 := HI.eqA hI394 (p := 233) (j := 4) ((((eA_c (hF395.2.1 233 ma_X11_tell_231_233)).trans (eA_c gA_sI)).trans hv402))
            obtain ⟨v404, hv404⟩ : ∃ v, eA g0 233 5 = v := ⟨_, rfl⟩
            have wv404 := HI.t5 hI0
            rw [hv404] at wv404
            have tv404 := congrArg Int32.toInt hv404
            have x405 := HI.eqA hI394 (p := 233) (j := 5) ((((eA_c (hF395.2.1 233 ma_X11_tell_231_233)).trans (eA_c gA_sI)).trans hv404))
            obtain ⟨v406, hv406⟩ : ∃ v, eA g0 233 6 = v := ⟨_, rfl⟩
            have wv406 := HI.t6 hI0
            rw [hv406] at wv406
            have tv406 := congrArg Int32.toInt hv406
            have x407 := HI.eqA hI394 (p := 233) (j := 6) ((((eA_c (hF395.2.1 233 ma_X11_tell_231_233)).trans (eA_c gA_sI)).trans hv406))
            obtain ⟨v408, hv408⟩ : ∃ v, eA g0 233 2 = v := ⟨_, rfl⟩
            have tv408 := congrArg Int32.toInt hv408
            have wv408 := HI.t2 hI0
            rw [hv408] at wv408
            have tv408 := congrArg Int32.toInt hv408
            have x409 := HI.eqA hI394 (p := 233) (j := 2) ((((eA_c (hF395.2.1 233 ma_X11_tell_231_233)).trans (eA_c gA_sI)).trans hv408))
            obtain ⟨v410, hv410⟩ : ∃ v, eA g0 233 3 = v := ⟨_, rfl⟩
            have wv410 := HI.t3 hI0
            rw [hv410] at wv410
            have tv410 := congrArg Int32.toInt hv410
            have x411 := HI.eqA hI394 (p := 233) (j := 3) ((((eA_c (hF395.2.1 233 ma_X11_tell_231_233)).trans (eA_c gA_sI)).trans hv410))
            have x412 := HI.eqA hI0 (p := 233) (j := 0) (hv400)
            have x413 := HI.eqA hI0 (p := 233) (j := 4) (hv402)
            have x414 := HI.eqA hI0 (p := 233) (j := 5) (hv404)
            have x415 := HI.eqA hI0 (p := 233) (j := 6) (hv406)
            have x416 := HI.eqA hI0 (p := 233) (j := 2) (hv408)
            have x417 := HI.eqA hI0 (p := 233) (j := 3) (hv410)
            exact ⟨_, rfl, hI394, hF398, _, rfl, by omega, ⟨by omega, by omega, by omega, by omega, by omega, by omega⟩⟩
          · have c392_ : v391.toInt ≥ 0 := en_j_lt_f c392
            refine At.enter rfl ?_
            refine r_lload_n rfl ?_
            refine r_lload rfl ?_
            refine r_lcmp _ rfl ?_
            refine r_ifs 13 rfl (fun c418 => ?_) (fun c418 => ?_)
            · have c418_ : v391.toInt > 9 := en_j_gt_t c418
              refine At.enter rfl ?_
              refine r_iconst 0 rfl ?_
              refine Ar.fall 18 rfl ?_
              refine At.enter rfl ?_
              refine q_iretz (by decide) ?_
              refine At.enter rfl ?_
              refine r_ift (by decide) ?_
              refine At.enter rfl ?_
              refine r_iconst 0 rfl ?_
              refine Ar.fall 53 rfl ?_
              refine At.enter rfl ?_
              refine q_iretz (by decide) ?_
              refine At.enter rfl ?_
              refine r_iff 18 rfl (by decide) ?_
              refine At.enter rfl ?_
              refine r_aload_n rfl ?_
              refine r_iconst (-1) rfl ?_
              refine r_callV 23 rfl [.ref 231, .int (-1)] [] (Nat.le_of_ble_eq_true rfl) rfl (T_X11_tell_231 _ hI283 (-1) (by decide)) ?_
              rintro _ _ ⟨g419, rfl, hI420, hF421, v422, rfl, hr423⟩
              refine At.sti ?_
              have hF424 := Fr.tr hF284 hF421 rfl rfl
              have zv425 : ((-1) : Int32).toInt = (-1) := rfl
              refine At.enter rfl ?_
              refine r_ireti ?_
              obtain ⟨v426, hv426⟩ : ∃ v, eA g0 233 0 = v := ⟨_, rfl⟩
              have tv426 := congrArg Int32.toInt hv426
              have wv426 := HI.t0 hI0
              rw [hv426] at wv426
              have tv426 := congrArg Int32.toInt hv426
              have x427 := HI.eqA hI420 (p := 233) (j := 0) ((((eA_c (hF421.2.1 233 ma_X11_tell_231_233)).trans (eA_c gA_sI)).trans hv426))
              obtain ⟨v428, hv428⟩ : ∃ v, eA g0 233 4 = v := ⟨_, rfl⟩
              have wv428 := HI.t4 hI0
              rw [hv428] at wv428
              have tv428 := congrArg Int32.toInt hv428
              have x429 := HI.eqA hI420 (p := 233) (j := 4) ((((eA_c (hF421.2.1 233 ma_X11_tell_231_233)).trans (eA_c gA_sI)).trans hv428))
              obtain ⟨v430, hv430⟩ : ∃ v, eA g0 233 5 = v := ⟨_, rfl⟩
              have wv430 := HI.t5 hI0
              rw [hv430] at wv430
              have tv430 := congrArg Int32.toInt hv430
              have x431 := HI.eqA hI420 (p := 233) (j := 5) ((((eA_c (hF421.2.1 233 ma_X11_tell_231_233)).trans (eA_c gA_sI)).trans hv430))
              obtain ⟨v432, hv432⟩ : ∃ v, eA g0 233 6 = v := ⟨_, rfl⟩
              have wv432 := HI.t6 hI0
              rw [hv432] at wv432
              have tv432 := congrArg Int32.toInt hv432
              have x433 := HI.eqA hI420 (p := 233) (j := 6) ((((eA_c (hF421.2.1 233 ma_X11_tell_231_233)).trans (eA_c gA_sI)).trans hv432))
              obtain ⟨v434, hv434⟩ : ∃ v, eA g0 233 2 = v := ⟨_, rfl⟩
              have tv434 := congrArg Int32.toInt hv434
              have wv434 := HI.t2 hI0
              rw [hv434] at wv434
              have tv434 := congrArg Int32.toInt hv434
              have x435 := HI.eqA hI420 (p := 233) (j := 2) ((((eA_c (hF421.2.1 233 ma_X11_tell_231_233)).trans (eA_c gA_sI)).trans hv434))
              obtain ⟨v436, hv436⟩ : ∃ v, eA g0 233 3 = v := ⟨_, rfl⟩
              have wv436 := HI.t3 hI0
              rw [hv436] at wv436
              have tv436 := congrArg Int32.toInt hv436
              have x437 := HI.eqA hI420 (p := 233) (j := 3) ((((eA_c (hF421.2.1 233 ma_X11_tell_231_233)).trans (eA_c gA_sI)).trans hv436))
              have x438 := HI.eqA hI0 (p := 233) (j := 0) (hv426)
              have x439 := HI.eqA hI0 (p := 233) (j := 4) (hv428)
              have x440 := HI.eqA hI0 (p := 233) (j := 5) (hv430)
              have x441 := HI.eqA hI0 (p := 233) (j := 6) (hv432)
              have x442 := HI.eqA hI0 (p := 233) (j := 2) (hv434)
              have x443 := HI.eqA hI0 (p := 233) (j := 3) (hv436)
              exact ⟨_, rfl, hI420, hF424, _, rfl, by omega, ⟨by omega, by omega, by omega, by omega, by omega, by omega⟩⟩
            · have c418_ : v391.toInt ≤ 9 := en_j_gt_f c418
              refine At.enter rfl ?_
              refine r_iconst 1 rfl ?_
              refine r_goto ?_
              refine At.enter rfl ?_
              refine q_iretz (by decide) ?_
              refine At.enter rfl ?_
              refine r_iff 36 rfl (by decide) ?_
              refine At.enter rfl ?_
              refine r_iload_n rfl ?_
              refine q_i2l (fun v444 hv444 => ?_)
              refine r_lconst 0 rfl ?_
              refine r_ldc2 9999 rfl ?_
              refine q_inlS 45 rfl [.long v444, .long 0, .long 9999] [] (Nat.le_of_ble_eq_true rfl) rfl ?_
              refine Ev.mk rfl rfl ⟨Nat.le_of_ble_eq_true rfl, Or.inl rfl⟩ ?_
              show At _ none _ _ (0, [(0, .long v444), (2, .long 0), (4, .long 9999)], [], (_, _)) _
              refine At.enter rfl ?_
              refine r_lload_n rfl ?_
              refine r_lload_n rfl ?_
              refine r_lcmp _ rfl ?_
              refine r_ifs 6 rfl (fun c445 => ?_) (fun c445 => ?_)
              · have c445_ : v444.toInt < 0 := en_j_lt_t c445
                refine At.enter rfl ?_
                refine r_iconst 0 rfl ?_
                refine Ar.fall 18 rfl ?_
                refine At.enter rfl ?_
                refine q_iretz (by decide) ?_
                refine At.enter rfl ?_
                refine r_ift (by decide) ?_
                refine At.enter rfl ?_
                refine r_iconst 0 rfl ?_
                refine Ar.fall 53 rfl ?_
                refine At.enter rfl ?_
                refine q_iretz (by decide) ?_
                refine At.enter rfl ?_
                refine r_iff 18 rfl (by decide) ?_
                refine At.enter rfl ?_
                refine r_aload_n rfl ?_
                refine r_iconst (-1) rfl ?_
                refine r_callV 23 rfl [.ref 231, .int (-1)] [] (Nat.le_of_ble_eq_true rfl) rfl (T_X11_tell_231 _ hI283 (-1) (by decide)) ?_
                rintro _ _ ⟨g446, rfl, hI447, hF448, v449, rfl, hr450⟩
                refine At.sti ?_
                have hF451 := Fr.tr hF284 hF448 rfl rfl
                have zv452 : ((-1) : Int32).toInt = (-1) := rfl
                refine At.enter rfl ?_
                refine r_ireti ?_
                obtain ⟨v453, hv453⟩ : ∃ v, eA g0 233 0 = v := ⟨_, rfl⟩
                have tv453 := congrArg Int32.toInt hv453
                have wv453 := HI.t0 hI0
                rw [hv453] at wv453
                have tv453 := congrArg Int32.toInt hv453
                have x454 := HI.eqA hI447 (p := 233) (j := 0) ((((eA_c (hF448.2.1 233 ma_X11_tell_231_233)).trans (eA_c gA_sI)).trans hv453))
                obtain ⟨v455, hv455⟩ : ∃ v, eA g0 233 4 = v := ⟨_, rfl⟩
                have wv455 := HI.t4 hI0
                rw [hv455] at wv455
                have tv455 := congrArg Int32.toInt hv455
                have x456 := HI.eqA hI447 (p := 233) (j := 4) ((((eA_c (hF448.2.1 233 ma_X11_tell_231_233)).trans (eA_c gA_sI)).trans hv455))
                obtain ⟨v457, hv457⟩ : ∃ v, eA g0 233 5 = v := ⟨_, rfl⟩
                have wv457 := HI.t5 hI0
                rw [hv457] at wv457
                have tv457 := congrArg Int32.toInt hv457
                have x458 := HI.eqA hI447 (p := 233) (j := 5) ((((eA_c (hF448.2.1 233 ma_X11_tell_231_233)).trans (eA_c gA_sI)).trans hv457))
                obtain ⟨v459, hv459⟩ : ∃ v, eA g0 233 6 = v := ⟨_, rfl⟩
                have wv459 := HI.t6 hI0
                rw [hv459] at wv459
                have tv459 := congrArg Int32.toInt hv459
                have x460 := HI.eqA hI447 (p := 233) (j := 6) ((((eA_c (hF448.2.1 233 ma_X11_tell_231_233)).trans (eA_c gA_sI)).trans hv459))
                obtain ⟨v461, hv461⟩ : ∃ v, eA g0 233 2 = v := ⟨_, rfl⟩
                have tv461 := congrArg Int32.toInt hv461
                have wv461 := HI.t2 hI0
                rw [hv461] at wv461
                have tv461 := congrArg Int32.toInt hv461
                have x462 := HI.eqA hI447 (p := 233) (j := 2) ((((eA_c (hF448.2.1 233 ma_X11_tell_231_233)).trans (eA_c gA_sI)).trans hv461))
                obtain ⟨v463, hv463⟩ : ∃ v, eA g0 233 3 = v := ⟨_, rfl⟩
                have wv463 := HI.t3 hI0
                rw [hv463] at wv463
                have tv463 := congrArg Int32.toInt hv463
                have x464 := HI.eqA hI447 (p := 233) (j := 3) ((((eA_c (hF448.2.1 233 ma_X11_tell_231_233)).trans (eA_c gA_sI)).trans hv463))
                have x465 := HI.eqA hI0 (p := 233) (j := 0) (hv453)
                have x466 := HI.eqA hI0 (p := 233) (j := 4) (hv455)
                have x467 := HI.eqA hI0 (p := 233) (j := 5) (hv457)
                have x468 := HI.eqA hI0 (p := 233) (j := 6) (hv459)
                have x469 := HI.eqA hI0 (p := 233) (j := 2) (hv461)
                have x470 := HI.eqA hI0 (p := 233) (j := 3) (hv463)
                exact ⟨_, rfl, hI447, hF451, _, rfl, by omega, ⟨by omega, by omega, by omega, by omega, by omega, by omega⟩⟩
              · have c445_ : v444.toInt ≥ 0 := en_j_lt_f c445
                refine At.enter rfl ?_
                refine r_lload_n rfl ?_
                refine r_lload rfl ?_
                refine r_lcmp _ rfl ?_
                refine r_ifs 13 rfl (fun c471 => ?_) (fun c471 => ?_)
                · have c471_ : v444.toInt > 9999 := en_j_gt_t c471
                  refine At.enter rfl ?_
                  refine r_iconst 0 rfl ?_
                  refine Ar.fall 18 rfl ?_
                  refine At.enter rfl ?_
                  refine q_iretz (by decide) ?_
                  refine At.enter rfl ?_
                  refine r_ift (by decide) ?_
                  refine At.enter rfl ?_
                  refine r_iconst 0 rfl ?_
                  refine Ar.fall 53 rfl ?_
                  refine At.enter rfl ?_
                  refine q_iretz (by decide) ?_
                  refine At.enter rfl ?_
                  refine r_iff 18 rfl (by decide) ?_
                  refine At.enter rfl ?_
                  refine r_aload_n rfl ?_
                  refine r_iconst (-1) rfl ?_
                  refine r_callV 23 rfl [.ref 231, .int (-1)] [] (Nat.le_of_ble_eq_true rfl) rfl (T_X11_tell_231 _ hI283 (-1) (by decide)) ?_
                  rintro _ _ ⟨g472, rfl, hI473, hF474, v475, rfl, hr476⟩
                  refine At.sti ?_
                  have hF477 := Fr.tr hF284 hF474 rfl rfl
                  have zv478 : ((-1) : Int32).toInt = (-1) := rfl
                  refine At.enter rfl ?_
                  refine r_ireti ?_
                  obtain ⟨v479, hv479⟩ : ∃ v, eA g0 233 0 = v := ⟨_, rfl⟩
                  have tv479 := congrArg Int32.toInt hv479
                  have wv479 := HI.t0 hI0
                  rw [hv479] at wv479
                  have tv479 := congrArg Int32.toInt hv479
                  have x480 := HI.eqA hI473 (p := 233) (j := 0) ((((eA_c (hF474.2.1 233 ma_X11_tell_231_233)).trans (eA_c gA_sI)).trans hv479))
                  obtain ⟨v481, hv481⟩ : ∃ v, eA g0 233 4 = v := ⟨_, rfl⟩
                  have wv481 := HI.t4 hI0
                  rw [hv481] at wv481
                  have tv481 := congrArg Int32.toInt hv481
                  have x482 := HI.eqA hI473 (p := 233) (j := 4) ((((eA_c (hF474.2.1 233 ma_X11_tell_231_233)).trans (eA_c gA_sI)).trans hv481))
                  obtain ⟨v483, hv483⟩ : ∃ v, eA g0 233 5 = v := ⟨_, rfl⟩
                  have wv483 := HI.t5 hI0
                  rw [hv483] at wv483
                  have tv483 := congrArg Int32.toInt hv483
                  have x484 := HI.eqA hI473 (p := 233) (j := 5) ((((eA_c (hF474.2.1 233 ma_X11_tell_231_233)).trans (eA_c gA_sI)).trans hv483))
                  obtain ⟨v485, hv485⟩ : ∃ v, eA g0 233 6 = v := ⟨_, rfl⟩
                  have wv485 := HI.t6 hI0
                  rw [hv485] at wv485
                  have tv485 := congrArg Int32.toInt hv485
                  have x486 := HI.eqA hI473 (p := 233) (j := 6) ((((eA_c (hF474.2.1 233 ma_X11_tell_231_233)).trans (eA_c gA_sI)).trans hv485))
                  obtain ⟨v487, hv487⟩ : ∃ v, eA g0 233 2 = v := ⟨_, rfl⟩
                  have tv487 := congrArg Int32.toInt hv487
                  have wv487 := HI.t2 hI0
                  rw [hv487] at wv487
                  have tv487 := congrArg Int32.toInt hv487
                  have x488 := HI.eqA hI473 (p := 233) (j := 2) ((((eA_c (hF474.2.1 233 ma_X11_tell_231_233)).trans (eA_c gA_sI)).trans hv487))
                  obtain ⟨v489, hv489⟩ : ∃ v, eA g0 233 3 = v := ⟨_, rfl⟩
                  have wv489 := HI.t3 hI0
                  rw [hv489] at wv489
                  have tv489 := congrArg Int32.toInt hv489
                  have x490 := HI.eqA hI473 (p := 233) (j := 3) ((((eA_c (hF474.2.1 233 ma_X11_tell_231_233)).trans (eA_c gA_sI)).trans hv489))
                  have x491 := HI.eqA hI0 (p := 233) (j := 0) (hv479)
                  have x492 := HI.eqA hI0 (p := 233) (j := 4) (hv481)
                  have x493 := HI.eqA hI0 (p := 233) (j := 5) (hv483)
                  have x494 := HI.eqA hI0 (p := 233) (j := 6) (hv485)
                  have x495 := HI.eqA hI0 (p := 233) (j := 2) (hv487)
                  have x496 := HI.eqA hI0 (p := 233) (j := 3) (hv489)
                  exact ⟨_, rfl, hI473, hF477, _, rfl, by omega, ⟨by omega, by omega, by omega, by omega, by omega, by omega⟩⟩
                · have c471_ : v444.toInt ≤ 9999 := en_j_gt_f c471
                  refine At.enter rfl ?_
                  refine r_iconst 1 rfl ?_
                  refine r_goto ?_
                  refine At.enter rfl ?_
                  refine q_iretz (by decide) ?_
                  refine At.enter rfl ?_
                  refine r_iff 48 rfl (by decide) ?_
                  refine At.enter rfl ?_
                  refine r_iconst 1 rfl ?_
                  refine r_goto ?_
                  refine At.enter rfl ?_
                  refine q_iretz (by decide) ?_
                  refine At.enter rfl ?_
                  refine r_ift (by decide) ?_
                  refine At.enter rfl ?_
                  refine r_aload_n rfl ?_
                  refine r_iload_n rfl ?_
                  refine q_inlV 29 rfl [.ref 231, .int a2] [] (Nat.le_of_ble_eq_true rfl) rfl ?_
                  refine Ev.mk rfl rfl ⟨Nat.le_of_ble_eq_true rfl, Or.inr (q_rc hI283.1 kx_231 rfl)⟩ ?_
                  show At _ none _ _ (0, [(0, .ref 231), (1, .int a2)], [], (_, _)) _
                  refine At.enter rfl ?_
                  refine r_iload_n rfl ?_
                  refine q_i2l (fun v497 hv497 => ?_)
                  refine r_lconst 0 rfl ?_
                  refine r_aload_n rfl ?_
                  refine q_getR (Sh.ref hI283.1 kx_231 rfl) ?_
                  refine r_iconst 0 rfl ?_
                  obtain ⟨v498, hv498⟩ : ∃ v, eA g0 233 0 = v := ⟨_, rfl⟩
                  have tv498 := congrArg Int32.toInt hv498
                  have wv498 := HI.t0 hI0
                  rw [hv498] at wv498
                  refine q_iald (Sh.arr hI283.1 ka_233) 0 rfl (by decide) v498 ((eA_c (gA_sI)).trans hv498) ?_
                  refine q_i2l (fun v499 hv499 => ?_)
                  refine r_lconst 1 rfl ?_
                  refine q_lsub (v499.toInt - 1) rfl (by omega) (fun v500 hv500 => ?_)
                  refine q_inlS 15 rfl [.long v497, .long 0, .long v500] [] (Nat.le_of_ble_eq_true rfl) rfl ?_
                  refine Ev.mk rfl rfl ⟨Nat.le_of_ble_eq_true rfl, Or.inl rfl⟩ ?_
                  show At _ none _ _ (0, [(0, .long v497), (2, .long 0), (4, .long v500)], [], (_, _)) _
                  refine At.enter rfl ?_
                  refine r_lload_n rfl ?_
                  refine r_lload_n rfl ?_
                  refine r_lcmp _ rfl ?_
                  refine r_ifs 6 rfl (fun c501 => ?_) (fun c501 => ?_)
                  · have c501_ : v497.toInt < 0 := en_j_lt_t c501
                    refine At.enter rfl ?_
                    refine r_iconst 0 rfl ?_
                    refine Ar.fall 18 rfl ?_
                    refine At.enter rfl ?_
                    refine q_iretz (by decide) ?_
                    refine At.enter rfl ?_
                    refine q_iretz (by decide) ?_
                    refine At.enter rfl ?_
                    refine r_ift (by decide) ?_
                    refine At.enter rfl ?_
                    refine r_aload_n rfl ?_
                    refine r_bipush (-2) rfl ?_
                    refine r_callV 46 rfl [.ref 231, .int (-2)] [] (Nat.le_of_ble_eq_true rfl) rfl (T_X11_tell_231 _ hI283 (-2) (by decide)) ?_
                    rintro _ _ ⟨g502, rfl, hI503, hF504, v505, rfl, hr506⟩
                    refine At.sti ?_
                    have hF507 := Fr.tr hF284 hF504 rfl rfl
                    have zv508 : ((-2) : Int32).toInt = (-2) := rfl
                    refine At.enter rfl ?_
                    refine r_ireti ?_
                    have x509 := HI.eqA hI503 (p := 233) (j := 0) ((((eA_c (hF504.2.1 233 ma_X11_tell_231_233)).trans (eA_c gA_sI)).trans hv498))
                    obtain ⟨v510, hv510⟩ : ∃ v, eA g0 233 4 = v := ⟨_, rfl⟩
                    have wv510 := HI.t4 hI0
                    rw [hv510] at wv510
                    have tv510 := congrArg Int32.toInt hv510
                    have x511 := HI.eqA hI503 (p := 233) (j := 4) ((((eA_c (hF504.2.1 233 ma_X11_tell_231_233)).trans (eA_c gA_sI)).trans hv510))
                    obtain ⟨v512, hv512⟩ : ∃ v, eA g0 233 5 = v := ⟨_, rfl⟩
                    have wv512 := HI.t5 hI0
                    rw [hv512] at wv512
                    have tv512 := congrArg Int32.toInt hv512
                    have x513 := HI.eqA hI503 (p := 233) (j := 5) ((((eA_c (hF504.2.1 233 ma_X11_tell_231_233)).trans (eA_c gA_sI)).trans hv512))
                    obtain ⟨v514, hv514⟩ : ∃ v, eA g0 233 6 = v := ⟨_, rfl⟩
                    have wv514 := HI.t6 hI0
                    rw [hv514] at wv514
                    have tv514 := congrArg Int32.toInt hv514
                    have x515 := HI.eqA hI503 (p := 233) (j := 6) ((((eA_c (hF504.2.1 233 ma_X11_tell_231_233)).trans (eA_c gA_sI)).trans hv514))
                    obtain ⟨v516, hv516⟩ : ∃ v, eA g0 233 2 = v := ⟨_, rfl⟩
                    have tv516 := congrArg Int32.toInt hv516
                    have wv516 := HI.t2 hI0
                    rw [hv516] at wv516
                    have tv516 := congrArg Int32.toInt hv516
                    have x517 := HI.eqA hI503 (p := 233) (j := 2) ((((eA_c (hF504.2.1 233 ma_X11_tell_231_233)).trans (eA_c gA_sI)).trans hv516))
                    obtain ⟨v518, hv518⟩ : ∃ v, eA g0 233 3 = v := ⟨_, rfl⟩
                    have wv518 := HI.t3 hI0
                    rw [hv518] at wv518
                    have tv518 := congrArg Int32.toInt hv518
                    have x519 := HI.eqA hI503 (p := 233) (j := 3) ((((eA_c (hF504.2.1 233 ma_X11_tell_231_233)).trans (eA_c gA_sI)).trans hv518))
                    have x520 := HI.eqA hI0 (p := 233) (j := 0) (hv498)
                    have x521 := HI.eqA hI0 (p := 233) (j := 4) (hv510)
                    have x522 := HI.eqA hI0 (p := 233) (j := 5) (hv512)
                    have x523 := HI.eqA hI0 (p := 233) (j := 6) (hv514)
                    have x524 := HI.eqA hI0 (p := 233) (j := 2) (hv516)
                    have x525 := HI.eqA hI0 (p := 233) (j := 3) (hv518)
                    exact ⟨_, rfl, hI503, hF507, _, rfl, by omega, ⟨by omega, by omega, by omega, by omega, by omega, by omega⟩⟩
                  · have c501_ : v497.toInt ≥ 0 := en_j_lt_f c501
                    refine At.enter rfl ?_
                    refine r_lload_n rfl ?_
                    refine r_lload rfl ?_
                    refine r_lcmp _ rfl ?_
                    refine r_ifs 13 rfl (fun c526 => ?_) (fun c526 => ?_)
                    · have c526_ : v497.toInt > v500.toInt := en_j_gt_t c526
                      refine At.enter rfl ?_
                      refine r_iconst 0 rfl ?_
                      refine Ar.fall 18 rfl ?_
                      refine At.enter rfl ?_
                      refine q_iretz (by decide) ?_
                      refine At.enter rfl ?_
                      refine q_iretz (by decide) ?_
                      refine At.enter rfl ?_
                      refine r_ift (by decide) ?_
                      refine At.enter rfl ?_
                      refine r_aload_n rfl ?_
                      refine r_bipush (-2) rfl ?_
                      refine r_callV 46 rfl [.ref 231, .int (-2)] [] (Nat.le_of_ble_eq_true rfl) rfl (T_X11_tell_231 _ hI283 (-2) (by decide)) ?_
                      rintro _ _ ⟨g527, rfl, hI528, hF529, v530, rfl, hr531⟩
                      refine At.sti ?_
                      have hF532 := Fr.tr hF284 hF529 rfl rfl
                      have zv533 : ((-2) : Int32).toInt = (-2) := rfl
                      refine At.enter rfl ?_
                      refine r_ireti ?_
                      have x534 := HI.eqA hI528 (p := 233) (j := 0) ((((eA_c (hF529.2.1 233 ma_X11_tell_231_233)).trans (eA_c gA_sI)).trans hv498))
                      obtain ⟨v535, hv535⟩ : ∃ v, eA g0 233 4 = v := ⟨_, rfl⟩
                      have wv535 := HI.t4 hI0
                      rw [hv535] at wv535
                      have tv535 := congrArg Int32.toInt hv535
                      have x536 := HI.eqA hI528 (p := 233) (j := 4) ((((eA_c (hF529.2.1 233 ma_X11_tell_231_233)).trans (eA_c gA_sI)).trans hv535))
                      obtain ⟨v537, hv537⟩ : ∃ v, eA g0 233 5 = v := ⟨_, rfl⟩
                      have wv537 := HI.t5 hI0
                      rw [hv537] at wv537
                      have tv537 := congrArg Int32.toInt hv537
                      have x538 := HI.eqA hI528 (p := 233) (j := 5) ((((eA_c (hF529.2.1 233 ma_X11_tell_231_233)).trans (eA_c gA_sI)).trans hv537))
                      obtain ⟨v539, hv539⟩ : ∃ v, eA g0 233 6 = v := ⟨_, rfl⟩
                      have wv539 := HI.t6 hI0
                      rw [hv539] at wv539
                      have tv539 := congrArg Int32.toInt hv539
                      have x540 := HI.eqA hI528 (p := 233) (j := 6) ((((eA_c (hF529.2.1 233 ma_X11_tell_231_233)).trans (eA_c gA_sI)).trans hv539))
                      obtain ⟨v541, hv541⟩ : ∃ v, eA g0 233 2 = v := ⟨_, rfl⟩
                      have tv541 := congrArg Int32.toInt hv541
                      have wv541 := HI.t2 hI0
                      rw [hv541] at wv541
                      have tv541 := congrArg Int32.toInt hv541
                      have x542 := HI.eqA hI528 (p := 233) (j := 2) ((((eA_c (hF529.2.1 233 ma_X11_tell_231_233)).trans (eA_c gA_sI)).trans hv541))
                      obtain ⟨v543, hv543⟩ : ∃ v, eA g0 233 3 = v := ⟨_, rfl⟩
                      have wv543 := HI.t3 hI0
                      rw [hv543] at wv543
                      have tv543 := congrArg Int32.toInt hv543
                      have x544 := HI.eqA hI528 (p := 233) (j := 3) ((((eA_c (hF529.2.1 233 ma_X11_tell_231_233)).trans (eA_c gA_sI)).trans hv543))
                      have x545 := HI.eqA hI0 (p := 233) (j := 0) (hv498)
                      have x546 := HI.eqA hI0 (p := 233) (j := 4) (hv535)
                      have x547 := HI.eqA hI0 (p := 233) (j := 5) (hv537)
                      have x548 := HI.eqA hI0 (p := 233) (j := 6) (hv539)
                      have x549 := HI.eqA hI0 (p := 233) (j := 2) (hv541)
                      have x550 := HI.eqA hI0 (p := 233) (j := 3) (hv543)
                      exact ⟨_, rfl, hI528, hF532, _, rfl, by omega, ⟨by omega, by omega, by omega, by omega, by omega, by omega⟩⟩
                    · have c526_ : v497.toInt ≤ v500.toInt := en_j_gt_f c526
                      refine At.enter rfl ?_
                      refine r_iconst 1 rfl ?_
                      refine r_goto ?_
                      refine At.enter rfl ?_
                      refine q_iretz (by decide) ?_
                      refine At.enter rfl ?_
                      refine q_iretz (by decide) ?_
                      refine At.enter rfl ?_
                      refine r_iff 32 rfl (by decide) ?_
                      refine At.enter rfl ?_
                      refine r_aload_n rfl ?_
                      refine r_iload_n rfl ?_
                      refine q_inlV 37 rfl [.ref 231, .int a3] [] (Nat.le_of_ble_eq_true rfl) rfl ?_
                      refine Ev.mk rfl rfl ⟨Nat.le_of_ble_eq_true rfl, Or.inr (q_rc hI283.1 kx_231 rfl)⟩ ?_
                      show At _ none _ _ (0, [(0, .ref 231), (1, .int a3)], [], (_, _)) _
                      refine At.enter rfl ?_
                      refine r_iload_n rfl ?_
                      refine q_i2l (fun v551 hv551 => ?_)
                      refine r_lconst 0 rfl ?_
                      refine r_aload_n rfl ?_
                      refine q_getR (Sh.ref hI283.1 kx_231 rfl) ?_
                      refine r_iconst 0 rfl ?_
                      refine q_iald (Sh.arr hI283.1 ka_233) 0 rfl (by decide) v498 ((eA_c (gA_sI)).trans hv498) ?_
                      refine q_i2l (fun v552 hv552 => ?_)
                      refine r_lconst 1 rfl ?_
                      refine q_lsub (v552.toInt - 1) rfl (by omega) (fun v553 hv553 => ?_)
                      refine q_inlS 15 rfl [.long v551, .long 0, .long v553] [] (Nat.le_of_ble_eq_true rfl) rfl ?_
                      refine Ev.mk rfl rfl ⟨Nat.le_of_ble_eq_true rfl, Or.inl rfl⟩ ?_
                      show At _ none _ _ (0, [(0, .long v551), (2, .long 0), (4, .long v553)], [], (_, _)) _
                      refine At.enter rfl ?_
                      refine r_lload_n rfl ?_
                      refine r_lload_n rfl ?_
                      refine r_lcmp _ rfl ?_
                      refine r_ifs 6 rfl (fun c554 => ?_) (fun c554 => ?_)
                      · have c554_ : v551.toInt < 0 := en_j_lt_t c554
                        refine At.enter rfl ?_
                        refine r_iconst 0 rfl ?_
                        refine Ar.fall 18 rfl ?_
                        refine At.enter rfl ?_
                        refine q_iretz (by decide) ?_
                        refine At.enter rfl ?_
                        refine q_iretz (by decide) ?_
                        refine At.enter rfl ?_
                        refine r_iff 40 rfl (by decide) ?_
                        refine At.enter rfl ?_
                        refine r_aload_n rfl ?_
                        refine r_bipush (-2) rfl ?_
                        refine r_callV 46 rfl [.ref 231, .int (-2)] [] (Nat.le_of_ble_eq_true rfl) rfl (T_X11_tell_231 _ hI283 (-2) (by decide)) ?_
                        rintro _ _ ⟨g555, rfl, hI556, hF557, v558, rfl, hr559⟩
                        refine At.sti ?_
                        have hF560 := Fr.tr hF284 hF557 rfl rfl
                        have zv561 : ((-2) : Int32).toInt = (-2) := rfl
                        refine At.enter rfl ?_
                        refine r_ireti ?_
                        have x562 := HI.eqA hI556 (p := 233) (j := 0) ((((eA_c (hF557.2.1 233 ma_X11_tell_231_233)).trans (eA_c gA_sI)).trans hv498))
                        obtain ⟨v563, hv563⟩ : ∃ v, eA g0 233 4 = v := ⟨_, rfl⟩
                        have wv563 := HI.t4 hI0
                        rw [hv563] at wv563
                        have tv563 := congrArg Int32.toInt hv563
                        have x564 := HI.eqA hI556 (p := 233) (j := 4) ((((eA_c (hF557.2.1 233 ma_X11_tell_231_233)).trans (eA_c gA_sI)).trans hv563))
                        obtain ⟨v565, hv565⟩ : ∃ v, eA g0 233 5 = v := ⟨_, rfl⟩
                        have wv565 := HI.t5 hI0
                        rw [hv565] at wv565
                        have tv565 := congrArg Int32.toInt hv565
                        have x566 := HI.eqA hI556 (p := 233) (j := 5) ((((eA_c (hF557.2.1 233 ma_X11_tell_231_233)).trans (eA_c gA_sI)).trans hv565))
                        obtain ⟨v567, hv567⟩ : ∃ v, eA g0 233 6 = v := ⟨_, rfl⟩
                        have wv567 := HI.t6 hI0
                        rw [hv567] at wv567
                        have tv567 := congrArg Int32.toInt hv567
                        have x568 := HI.eqA hI556 (p := 233) (j := 6) ((((eA_c (hF557.2.1 233 ma_X11_tell_231_233)).trans (eA_c gA_sI)).trans hv567))
                        obtain ⟨v569, hv569⟩ : ∃ v, eA g0 233 2 = v := ⟨_, rfl⟩
                        have tv569 := congrArg Int32.toInt hv569
                        have wv569 := HI.t2 hI0
                        rw [hv569] at wv569
                        have tv569 := congrArg Int32.toInt hv569
                        have x570 := HI.eqA hI556 (p := 233) (j := 2) ((((eA_c (hF557.2.1 233 ma_X11_tell_231_233)).trans (eA_c gA_sI)).trans hv569))
                        obtain ⟨v571, hv571⟩ : ∃ v, eA g0 233 3 = v := ⟨_, rfl⟩
                        have wv571 := HI.t3 hI0
                        rw [hv571] at wv571
                        have tv571 := congrArg Int32.toInt hv571
                        have x572 := HI.eqA hI556 (p := 233) (j := 3) ((((eA_c (hF557.2.1 233 ma_X11_tell_231_233)).trans (eA_c gA_sI)).trans hv571))
                        have x573 := HI.eqA hI0 (p := 233) (j := 0) (hv498)
                        have x574 := HI.eqA hI0 (p := 233) (j := 4) (hv563)
                        have x575 := HI.eqA hI0 (p := 233) (j := 5) (hv565)
                        have x576 := HI.eqA hI0 (p := 233) (j := 6) (hv567)
                        have x577 := HI.eqA hI0 (p := 233) (j := 2) (hv569)
                        have x578 := HI.eqA hI0 (p := 233) (j := 3) (hv571)
                        exact ⟨_, rfl, hI556, hF560, _, rfl, by omega, ⟨by omega, by omega, by omega, by omega, by omega, by omega⟩⟩
                      · have c554_ : v551.toInt ≥ 0 := en_j_lt_f c554
                        refine At.enter rfl ?_
                        refine r_lload_n rfl ?_
                        refine r_lload rfl ?_
                        refine r_lcmp _ rfl ?_
                        refine r_ifs 13 rfl (fun c579 => ?_) (fun c579 => ?_)
                        · have c579_ : v551.toInt > v553.toInt := en_j_gt_t c579
                          refine At.enter rfl ?_
                          refine r_iconst 0 rfl ?_
                          refine Ar.fall 18 rfl ?_
                          refine At.enter rfl ?_
                          refine q_iretz (by decide) ?_
                          refine At.enter rfl ?_
                          refine q_iretz (by decide) ?_
                          refine At.enter rfl ?_
                          refine r_iff 40 rfl (by decide) ?_
                          refine At.enter rfl ?_
                          refine r_aload_n rfl ?_
                          refine r_bipush (-2) rfl ?_
                          refine r_callV 46 rfl [.ref 231, .int (-2)] [] (Nat.le_of_ble_eq_true rfl) rfl (T_X11_tell_231 _ hI283 (-2) (by decide)) ?_
                          rintro _ _ ⟨g580, rfl, hI581, hF582, v583, rfl, hr584⟩
                          refine At.sti ?_
                          have hF585 := Fr.tr hF284 hF582 rfl rfl
                          have zv586 : ((-2) : Int32).toInt = (-2) := rfl
                          refine At.enter rfl ?_
                          refine r_ireti ?_
                          have x587 := HI.eqA hI581 (p := 233) (j := 0) ((((eA_c (hF582.2.1 233 ma_X11_tell_231_233)).trans (eA_c gA_sI)).trans hv498))
                          obtain ⟨v588, hv588⟩ : ∃ v, eA g0 233 4 = v := ⟨_, rfl⟩
                          have wv588 := HI.t4 hI0
                          rw [hv588] at wv588
                          have tv588 := congrArg Int32.toInt hv588
                          have x589 := HI.eqA hI581 (p := 233) (j := 4) ((((eA_c (hF582.2.1 233 ma_X11_tell_231_233)).trans (eA_c gA_sI)).trans hv588))
                          obtain ⟨v590, hv590⟩ : ∃ v, eA g0 233 5 = v := ⟨_, rfl⟩
                          have wv590 := HI.t5 hI0
                          rw [hv590] at wv590
                          have tv590 := congrArg Int32.toInt hv590
                          have x591 := HI.eqA hI581 (p := 233) (j := 5) ((((eA_c (hF582.2.1 233 ma_X11_tell_231_233)).trans (eA_c gA_sI)).trans hv590))
                          obtain ⟨v592, hv592⟩ : ∃ v, eA g0 233 6 = v := ⟨_, rfl⟩
                          have wv592 := HI.t6 hI0
                          rw [hv592] at wv592
                          have tv592 := congrArg Int32.toInt hv592
                          have x593 := HI.eqA hI581 (p := 233) (j := 6) ((((eA_c (hF582.2.1 233 ma_X11_tell_231_233)).trans (eA_c gA_sI)).trans hv592))
                          obtain ⟨v594, hv594⟩ : ∃ v, eA g0 233 2 = v := ⟨_, rfl⟩
                          have tv594 := congrArg Int32.toInt hv594
                          have wv594 := HI.t2 hI0
                          rw [hv594] at wv594
                          have tv594 := congrArg Int32.toInt hv594
                          have x595 := HI.eqA hI581 (p := 233) (j := 2) ((((eA_c (hF582.2.1 233 ma_X11_tell_231_233)).trans (eA_c gA_sI)).trans hv594))
                          obtain ⟨v596, hv596⟩ : ∃ v, eA g0 233 3 = v := ⟨_, rfl⟩
                          have wv596 := HI.t3 hI0
                          rw [hv596] at wv596
                          have tv596 := congrArg Int32.toInt hv596
                          have x597 := HI.eqA hI581 (p := 233) (j := 3) ((((eA_c (hF582.2.1 233 ma_X11_tell_231_233)).trans (eA_c gA_sI)).trans hv596))
                          have x598 := HI.eqA hI0 (p := 233) (j := 0) (hv498)
                          have x599 := HI.eqA hI0 (p := 233) (j := 4) (hv588)
                          have x600 := HI.eqA hI0 (p := 233) (j := 5) (hv590)
                          have x601 := HI.eqA hI0 (p := 233) (j := 6) (hv592)
                          have x602 := HI.eqA hI0 (p := 233) (j := 2) (hv594)
                          have x603 := HI.eqA hI0 (p := 233) (j := 3) (hv596)
                          exact ⟨_, rfl, hI581, hF585, _, rfl, by omega, ⟨by omega, by omega, by omega, by omega, by omega, by omega⟩⟩
                        · have c579_ : v551.toInt ≤ v553.toInt := en_j_gt_f c579
                          refine At.enter rfl ?_
                          refine r_iconst 1 rfl ?_
                          refine r_goto ?_
                          refine At.enter rfl ?_
                          refine q_iretz (by decide) ?_
                          refine At.enter rfl ?_
                          refine q_iretz (by decide) ?_
                          refine At.enter rfl ?_
                          refine r_ift (by decide) ?_
                          refine At.enter rfl ?_
                          refine r_aload_n rfl ?_
                          refine q_getR (Sh.ref hI283.1 kx_231 rfl) ?_
                          refine r_iconst 1 rfl ?_
                          obtain ⟨v604, hv604⟩ : ∃ v, eA g0 233 1 = v := ⟨_, rfl⟩
                          have tv604 := congrArg Int32.toInt hv604
                          have wv604 := HI.t1 hI0
                          rw [hv604] at wv604
                          refine q_iald (Sh.arr hI283.1 ka_233) 1 rfl (by decide) v604 ((eA_c (gA_sI)).trans hv604) ?_
                          refine r_bipush 8 rfl ?_
                          refine r_ics 58 rfl (fun c605 => ?_) (fun c605 => ?_)
                          · have c605_ : v604.toInt ≠ 8 := en_i_ne_t c605
                            refine At.enter rfl ?_
                            refine r_aload_n rfl ?_
                            refine r_iload_n rfl ?_
                            refine r_iload_n rfl ?_
                            refine r_iload_n rfl ?_
                            refine r_iload rfl ?_
                            refine r_iload rfl ?_
                            refine r_iload rfl ?_
                            have x606 := HI.eqA hI283 (p := 233) (j := 0) (((eA_c gA_sI).trans hv498))
                            have x607 := HI.eqA hI283 (p := 233) (j := 1) (((eA_c gA_sI).trans hv604))
                            refine r_callV 78 rfl [.ref 231, .int a1, .int a2, .int a3, .int a4, .int a5, .int a6] [] (Nat.le_of_ble_eq_true rfl) rfl (T_X11_addLoad_231 _ hI283 a1 (by omega) a2 (by omega) a3 (by omega) a4 (by omega) a5 (by omega) a6 (by omega) (by omega) (by omega) (by omega)) ?_
                            rintro _ _ ⟨g608, rfl, hI609, hF610, rfl, hr612⟩
                            refine At.stn ?_
                            have hF613 := Fr.tr hF284 hF610 rfl rfl
                            obtain ⟨v614, hv614⟩ : ∃ v, eA g0 233 2 = v := ⟨_, rfl⟩
                            have tv614 := congrArg Int32.toInt hv614
                            have wv614 := HI.t2 hI0
                            rw [hv614] at wv614
                            have tv614 := congrArg Int32.toInt hv614
                            obtain ⟨v615, hv615⟩ : ∃ v, eA g0 233 4 = v := ⟨_, rfl⟩
                            have wv615 := HI.t4 hI0
                            rw [hv615] at wv615
                            have tv615 := congrArg Int32.toInt hv615
                            obtain ⟨v616, hv616⟩ : ∃ v, eA g0 233 5 = v := ⟨_, rfl⟩
                            have wv616 := HI.t5 hI0
                            rw [hv616] at wv616
                            have tv616 := congrArg Int32.toInt hv616
                            obtain ⟨v617, hv617⟩ : ∃ v, eA g0 233 6 = v := ⟨_, rfl⟩
                            have wv617 := HI.t6 hI0
                            rw [hv617] at wv617
                            have tv617 := congrArg Int32.toInt hv617
                            obtain ⟨v618, hv618⟩ : ∃ v, eA g0 233 3 = v := ⟨_, rfl⟩
                            have wv618 := HI.t3 hI0
                            rw [hv618] at wv618
                            have tv618 := congrArg Int32.toInt hv618
                            obtain ⟨v619, hv619⟩ : ∃ v, eA g608 233 1 = v := ⟨_, rfl⟩
                            have y620 := hr612.2
                            have tv619 := congrArg Int32.toInt hv619
                            have x621 := HI.eqA hI283 (p := 233) (j := 1) (((eA_c gA_sI).trans hv604))
                            refine At.enter rfl ?_
                            refine r_aload_n rfl ?_
                            refine r_aload_n rfl ?_
                            refine q_getR (Sh.ref hI609.1 kx_231 rfl) ?_
                            refine r_iconst 1 rfl ?_
                            refine q_iald (Sh.arr hI609.1 ka_233) 1 rfl (by decide) v619 hv619 ?_
                            refine r_iconst 1 rfl ?_
                            refine q_isub (v619.toInt - 1) rfl (by omega) (fun v622 hv622 => ?_)
                            refine r_callV 90 rfl [.ref 231, .int v622] [] (Nat.le_of_ble_eq_true rfl) rfl (T_X11_tell_231 _ hI609 v622 (by omega)) ?_
                            rintro _ _ ⟨g623, rfl, hI624, hF625, v626, rfl, hr627⟩
                            refine At.sti ?_
                            have hF628 := Fr.tr hF613 hF625 rfl rfl
                            refine At.enter rfl ?_
                            refine r_ireti ?_
                            have x629 := HI.eqA hI624 (p := 233) (j := 0) (((eA_c (hF625.2.1 233 ma_X11_tell_231_233)).trans ((hr612.1 0 (by decide) (by decide) (by decide)).trans ((eA_c gA_sI).trans hv498))))
                            have x630 := HI.eqA hI624 (p := 233) (j := 4) (((eA_c (hF625.2.1 233 ma_X11_tell_231_233)).trans ((hr612.1 4 (by decide) (by decide) (by decide)).trans ((eA_c gA_sI).trans hv615))))
                            have x631 := HI.eqA hI624 (p := 233) (j := 5) (((eA_c (hF625.2.1 233 ma_X11_tell_231_233)).trans ((hr612.1 5 (by decide) (by decide) (by decide)).trans ((eA_c gA_sI).trans hv616))))
                            have x632 := HI.eqA hI624 (p := 233) (j := 6) (((eA_c (hF625.2.1 233 ma_X11_tell_231_233)).trans ((hr612.1 6 (by decide) (by decide) (by decide)).trans ((eA_c gA_sI).trans hv617))))
                            have x633 := HI.eqA hI624 (p := 233) (j := 2) (((eA_c (hF625.2.1 233 ma_X11_tell_231_233)).trans ((hr612.1 2 (by decide) (by decide) (by decide)).trans ((eA_c gA_sI).trans hv614))))
                            have x634 := HI.eqA hI624 (p := 233) (j := 3) (((eA_c (hF625.2.1 233 ma_X11_tell_231_233)).trans ((hr612.1 3 (by decide) (by decide) (by decide)).trans ((eA_c gA_sI).trans hv618))))
                            have x635 := HI.eqA hI0 (p := 233) (j := 0) (hv498)
                            have x636 := HI.eqA hI0 (p := 233) (j := 4) (hv615)
                            have x637 := HI.eqA hI0 (p := 233) (j := 5) (hv616)
                            have x638 := HI.eqA hI0 (p := 233) (j := 6) (hv617)
                            have x639 := HI.eqA hI0 (p := 233) (j := 2) (hv614)
                            have x640 := HI.eqA hI0 (p := 233) (j := 3) (hv618)
                            exact ⟨_, rfl, hI624, hF628, _, rfl, by omega, ⟨by omega, by omega, by omega, by omega, by omega, by omega⟩⟩
                          · have c605_ : v604.toInt = 8 := en_i_ne_f c605
                            refine At.enter rfl ?_
                            refine r_aload_n rfl ?_
                            refine r_bipush (-5) rfl ?_
                            refine r_callV 64 rfl [.ref 231, .int (-5)] [] (Nat.le_of_ble_eq_true rfl) rfl (T_X11_tell_231 _ hI283 (-5) (by decide)) ?_
                            rintro _ _ ⟨g641, rfl, hI642, hF643, v644, rfl, hr645⟩
                            refine At.sti ?_
                            have hF646 := Fr.tr hF284 hF643 rfl rfl
                            have zv647 : ((-5) : Int32).toInt = (-5) := rfl
                            refine At.enter rfl ?_
                            refine r_ireti ?_
                            have x648 := HI.eqA hI642 (p := 233) (j := 0) ((((eA_c (hF643.2.1 233 ma_X11_tell_231_233)).trans (eA_c gA_sI)).trans hv498))
                            obtain ⟨v649, hv649⟩ : ∃ v, eA g0 233 4 = v := ⟨_, rfl⟩
                            have wv649 := HI.t4 hI0
                            rw [hv649] at wv649
                            have tv649 := congrArg Int32.toInt hv649
                            have x650 := HI.eqA hI642 (p := 233) (j := 4) ((((eA_c (hF643.2.1 233 ma_X11_tell_231_233)).trans (eA_c gA_sI)).trans hv649))
                            obtain ⟨v651, hv651⟩ : ∃ v, eA g0 233 5 = v := ⟨_, rfl⟩
                            have wv651 := HI.t5 hI0
                            rw [hv651] at wv651
                            have tv651 := congrArg Int32.toInt hv651
                            have x652 := HI.eqA hI642 (p := 233) (j := 5) ((((eA_c (hF643.2.1 233 ma_X11_tell_231_233)).trans (eA_c gA_sI)).trans hv651))
                            obtain ⟨v653, hv653⟩ : ∃ v, eA g0 233 6 = v := ⟨_, rfl⟩
                            have wv653 := HI.t6 hI0
                            rw [hv653] at wv653
                            have tv653 := congrArg Int32.toInt hv653
                            have x654 := HI.eqA hI642 (p := 233) (j := 6) ((((eA_c (hF643.2.1 233 ma_X11_tell_231_233)).trans (eA_c gA_sI)).trans hv653))
                            obtain ⟨v655, hv655⟩ : ∃ v, eA g0 233 2 = v := ⟨_, rfl⟩
                            have tv655 := congrArg Int32.toInt hv655
                            have wv655 := HI.t2 hI0
                            rw [hv655] at wv655
                            have tv655 := congrArg Int32.toInt hv655
                            have x656 := HI.eqA hI642 (p := 233) (j := 2) ((((eA_c (hF643.2.1 233 ma_X11_tell_231_233)).trans (eA_c gA_sI)).trans hv655))
                            obtain ⟨v657, hv657⟩ : ∃ v, eA g0 233 3 = v := ⟨_, rfl⟩
                            have wv657 := HI.t3 hI0
                            rw [hv657] at wv657
                            have tv657 := congrArg Int32.toInt hv657
                            have x658 := HI.eqA hI642 (p := 233) (j := 3) ((((eA_c (hF643.2.1 233 ma_X11_tell_231_233)).trans (eA_c gA_sI)).trans hv657))
                            have x659 := HI.eqA hI0 (p := 233) (j := 0) (hv498)
                            have x660 := HI.eqA hI0 (p := 233) (j := 4) (hv649)
                            have x661 := HI.eqA hI0 (p := 233) (j := 5) (hv651)
                            have x662 := HI.eqA hI0 (p := 233) (j := 6) (hv653)
                            have x663 := HI.eqA hI0 (p := 233) (j := 2) (hv655)
                            have x664 := HI.eqA hI0 (p := 233) (j := 3) (hv657)
                            exact ⟨_, rfl, hI642, hF646, _, rfl, by omega, ⟨by omega, by omega, by omega, by omega, by omega, by omega⟩⟩
