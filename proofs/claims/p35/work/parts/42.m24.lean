def F_X11_put_231 : List (Nat × Nat) := [(231, 0), (231, 1)]
def A_X11_put_231 : List Nat := [232, 233]
set_option maxRecDepth 100000 in
set_option maxHeartbeats 4000000 in
theorem T_X11_put_231 (d : Nat) {N : Nat} {g0 : List en_E} (hI0 : HI g0) (a1 : Int32) (a2 : Int32) (a3 : Int32) : Ev (d + 3) 173 [.ref 231, .int a1, .int a2, .int a3] (g0, N) (fun w h' => ∃ g', h' = (g', N) ∧ HI g' ∧ Fr F_X11_put_231 A_X11_put_231 g0 g' ∧ ∃ r : Int32, w = some (.int r) ∧ ((-2) ≤ r.toInt ∧ r.toInt ≤ 99) ∧ ((((eA g' 233 0).toInt = (eA g0 233 0).toInt ∧ (eA g' 233 4).toInt = (eA g0 233 4).toInt ∧ (eA g' 233 5).toInt = (eA g0 233 5).toInt ∧ (eA g' 233 6).toInt = (eA g0 233 6).toInt) ∧ (¬ ((a2.toInt = 0 ∧ -1 ≤ a3.toInt ∧ a3.toInt ≤ 11) ∨ (a2.toInt = 1 ∧ 1 ≤ a3.toInt ∧ a3.toInt ≤ 9) ∨ (a2.toInt = 2 ∧ 0 ≤ a3.toInt ∧ a3.toInt ≤ 99)) → r.toInt = -1) ∧ (((a2.toInt = 0 ∧ -1 ≤ a3.toInt ∧ a3.toInt ≤ 11) ∨ (a2.toInt = 1 ∧ 1 ≤ a3.toInt ∧ a3.toInt ≤ 9) ∨ (a2.toInt = 2 ∧ 0 ≤ a3.toInt ∧ a3.toInt ≤ 99)) ∧ ¬ (0 ≤ a1.toInt ∧ a1.toInt < (eA g0 233 0).toInt) → r.toInt = -2) ∧ (((a2.toInt = 0 ∧ -1 ≤ a3.toInt ∧ a3.toInt ≤ 11) ∨ (a2.toInt = 1 ∧ 1 ≤ a3.toInt ∧ a3.toInt ≤ 9) ∨ (a2.toInt = 2 ∧ 0 ≤ a3.toInt ∧ a3.toInt ≤ 99)) ∧ 0 ≤ a1.toInt ∧ a1.toInt < (eA g0 233 0).toInt → r.toInt = (eA g0 233 (10 + 3 * a1.toInt + a2.toInt)).toInt)) ∧ (∀ i : Int, 10 ≤ i → i < 110 → (eA g' 233 (i)).toInt = if (((a2.toInt = 0 ∧ -1 ≤ a3.toInt ∧ a3.toInt ≤ 11) ∨ (a2.toInt = 1 ∧ 1 ≤ a3.toInt ∧ a3.toInt ≤ 9) ∨ (a2.toInt = 2 ∧ 0 ≤ a3.toInt ∧ a3.toInt ≤ 99)) ∧ 0 ≤ a1.toInt ∧ a1.toInt < (eA g0 233 0).toInt) ∧ i = 10 + 3 * a1.toInt + a2.toInt then a3.toInt else (eA g0 233 (i)).toInt))) := by
  have hF0 : Fr F_X11_put_231 A_X11_put_231 g0 g0 := Fr.rf
  refine Ev.mk rfl rfl ⟨Nat.le_of_ble_eq_true rfl, Or.inr (q_rc hI0.1 kx_231 rfl)⟩ ?_
  show At _ none _ _ (0, [(0, .ref 231), (1, .int a1), (2, .int a2), (3, .int a3)], [], (_, _)) _
  refine At.enter rfl ?_
  refine r_aload_n rfl ?_
  refine r_iconst 0 rfl ?_
  refine q_putI (Sh.int hI0.1 kx_231 rfl) rfl ?_
  have hI293 := HI.wI0 hI0 kx_231 rfl (p := 231) (b := 0) (v := 0) rfl
  have hF294 := Fr.wI (p := 231) (b := 0) (v := 0) hF0 rfl
  refine r_iload_n rfl ?_
  refine r_iload_n rfl ?_
  refine q_inlS 10 rfl [.int a2, .int a3] [] (Nat.le_of_ble_eq_true rfl) rfl ?_
  refine Ev.mk rfl rfl ⟨Nat.le_of_ble_eq_true rfl, Or.inl rfl⟩ ?_
  show At _ none _ _ (0, [(0, .int a2), (1, .int a3)], [], (_, _)) _
  refine At.enter rfl ?_
  refine r_iload_n rfl ?_
  by_cases c295_0 : a2.toInt = 0
  · refine r_tsw 28 (by rw [c295_0]; rfl) ?_
    refine At.enter rfl ?_
    refine r_iload_n rfl ?_
    refine q_i2l (fun v296 hv296 => ?_)
    refine r_ldc2 (-1) rfl ?_
    refine r_ldc2 11 rfl ?_
    refine q_inlS 39 rfl [.long v296, .long (-1), .long 11] [] (Nat.le_of_ble_eq_true rfl) rfl ?_
    refine Ev.mk rfl rfl ⟨Nat.le_of_ble_eq_true rfl, Or.inl rfl⟩ ?_
    show At _ none _ _ (0, [(0, .long v296), (2, .long (-1)), (4, .long 11)], [], (_, _)) _
    refine At.enter rfl ?_
    refine r_lload_n rfl ?_
    refine r_lload_n rfl ?_
    refine r_lcmp _ rfl ?_
    refine r_ifs 6 rfl (fun c297 => ?_) (fun c297 => ?_)
    · have c297_ : v296.toInt < (-1) := en_j_lt_t c297
      refine At.enter rfl ?_
      refine r_iconst 0 rfl ?_
      refine Ar.fall 18 rfl ?_
      refine At.enter rfl ?_
      refine q_iretz (by decide) ?_
      refine At.enter rfl ?_
      refine q_iretz (by decide) ?_
      refine At.enter rfl ?_
      refine r_iff 13 rfl (by decide) ?_
      refine At.enter rfl ?_
      refine r_aload_n rfl ?_
      refine r_iconst (-1) rfl ?_
      refine r_callV 18 rfl [.ref 231, .int (-1)] [] (Nat.le_of_ble_eq_true rfl) rfl (T_X11_tell_231 _ hI293 (-1) (by decide)) ?_
      rintro _ _ ⟨g298, rfl, hI299, hF300, v301, rfl, hr302⟩
      refine At.sti ?_
      have hF303 := Fr.tr hF294 hF300 rfl rfl
      have zv304 : ((-1) : Int32).toInt = (-1) := rfl
      refine At.enter rfl ?_
      refine r_ireti ?_
      obtain ⟨v305, hv305⟩ : ∃ v, eA g0 233 0 = v := ⟨_, rfl⟩
      have tv305 := congrArg Int32.toInt hv305
      have wv305 := HI.t0 hI0
      rw [hv305] at wv305
      have tv305 := congrArg Int32.toInt hv305
      have x306 := HI.eqA hI0 (p := 233) (j := 0) (hv305)
      have y307 := congrArg Int32.toInt hv305
      have x308 := HI.eqA hI299 (p := 233) (j := 0) ((((eA_c (hF300.2.1 233 (by decide))).trans (eA_c gA_sI)).trans hv305))
      obtain ⟨v309, hv309⟩ : ∃ v, eA g0 233 4 = v := ⟨_, rfl⟩
      have wv309 := HI.t4 hI0
      rw [hv309] at wv309
      have tv309 := congrArg Int32.toInt hv309
      have x310 := HI.eqA hI299 (p := 233) (j := 4) ((((eA_c (hF300.2.1 233 (by decide))).trans (eA_c gA_sI)).trans hv309))
      obtain ⟨v311, hv311⟩ : ∃ v, eA g0 233 5 = v := ⟨_, rfl⟩
      have wv311 := HI.t5 hI0
      rw [hv311] at wv311
      have tv311 := congrArg Int32.toInt hv311
      have x312 := HI.eqA hI299 (p := 233) (j := 5) ((((eA_c (hF300.2.1 233 (by decide))).trans (eA_c gA_sI)).trans hv311))
      obtain ⟨v313, hv313⟩ : ∃ v, eA g0 233 6 = v := ⟨_, rfl⟩
      have wv313 := HI.t6 hI0
      rw [hv313] at wv313
      have tv313 := congrArg Int32.toInt hv313
      have x314 := HI.eqA hI299 (p := 233) (j := 6) ((((eA_c (hF300.2.1 233 (by decide))).trans (eA_c gA_sI)).trans hv313))
      have x315 := HI.eqA hI0 (p := 233) (j := 0) (hv305)
      have x316 := HI.eqA hI0 (p := 233) (j := 4) (hv309)
      have x317 := HI.eqA hI0 (p := 233) (j := 5) (hv311)
      have x318 := HI.eqA hI0 (p := 233) (j := 6) (hv313)
      have x319 := HI.eqA hI0 (p := 233) (j := 0) (hv305)
      exact ⟨_, rfl, hI299, hF303, _, rfl, by omega, ⟨⟨⟨by omega, by omega, by omega, by omega⟩, by omega, by omega, by omega⟩, (by intro i i0 i1; refine Eq.trans ?_ (if_neg (show ¬ ((((a2.toInt = 0 ∧ -1 ≤ a3.toInt ∧ a3.toInt ≤ 11) ∨ (a2.toInt = 1 ∧ 1 ≤ a3.toInt ∧ a3.toInt ≤ 9) ∨ (a2.toInt = 2 ∧ 0 ≤ a3.toInt ∧ a3.toInt ≤ 99)) ∧ 0 ≤ a1.toInt ∧ a1.toInt < (eA g0 233 0).toInt) ∧ i = 10 + 3 * a1.toInt + a2.toInt) from by omega)).symm; refine (eA_ti (((hF300.2.1 233 (by decide)).trans (gA_sI)))).trans ?_; (first | rfl | exact eA_ix (by omega) | omega))⟩⟩
    · have c297_ : v296.toInt ≥ (-1) := en_j_lt_f c297
      refine At.enter rfl ?_
      refine r_lload_n rfl ?_
      refine r_lload rfl ?_
      refine r_lcmp _ rfl ?_
      refine r_ifs 13 rfl (fun c320 => ?_) (fun c320 => ?_)
      · have c320_ : v296.toInt > 11 := en_j_gt_t c320
        refine At.enter rfl ?_
        refine r_iconst 0 rfl ?_
        refine Ar.fall 18 rfl ?_
        refine At.enter rfl ?_
        refine q_iretz (by decide) ?_
        refine At.enter rfl ?_
        refine q_iretz (by decide) ?_
        refine At.enter rfl ?_
        refine r_iff 13 rfl (by decide) ?_
        refine At.enter rfl ?_
        refine r_aload_n rfl ?_
        refine r_iconst (-1) rfl ?_
        refine r_callV 18 rfl [.ref 231, .int (-1)] [] (Nat.le_of_ble_eq_true rfl) rfl (T_X11_tell_231 _ hI293 (-1) (by decide)) ?_
        rintro _ _ ⟨g321, rfl, hI322, hF323, v324, rfl, hr325⟩
        refine At.sti ?_
        have hF326 := Fr.tr hF294 hF323 rfl rfl
        have zv327 : ((-1) : Int32).toInt = (-1) := rfl
        refine At.enter rfl ?_
        refine r_ireti ?_
        obtain ⟨v328, hv328⟩ : ∃ v, eA g0 233 0 = v := ⟨_, rfl⟩
        have tv328 := congrArg Int32.toInt hv328
        have wv328 := HI.t0 hI0
        rw [hv328] at wv328
        have tv328 := congrArg Int32.toInt hv328
        have x329 := HI.eqA hI0 (p := 233) (j := 0) (hv328)
        have y330 := congrArg Int32.toInt hv328
        have x331 := HI.eqA hI322 (p := 233) (j := 0) ((((eA_c (hF323.2.1 233 (by decide))).trans (eA_c gA_sI)).trans hv328))
        obtain ⟨v332, hv332⟩ : ∃ v, eA g0 233 4 = v := ⟨_, rfl⟩
        have wv332 := HI.t4 hI0
        rw [hv332] at wv332
        have tv332 := congrArg Int32.toInt hv332
        have x333 := HI.eqA hI322 (p := 233) (j := 4) ((((eA_c (hF323.2.1 233 (by decide))).trans (eA_c gA_sI)).trans hv332))
        obtain ⟨v334, hv334⟩ : ∃ v, eA g0 233 5 = v := ⟨_, rfl⟩
        have wv334 := HI.t5 hI0
        rw [hv334] at wv334
        have tv334 := congrArg Int32.toInt hv334
        have x335 := HI.eqA hI322 (p := 233) (j := 5) ((((eA_c (hF323.2.1 233 (by decide))).trans (eA_c gA_sI)).trans hv334))
        obtain ⟨v336, hv336⟩ : ∃ v, eA g0 233 6 = v := ⟨_, rfl⟩
        have wv336 := HI.t6 hI0
        rw [hv336] at wv336
        have tv336 := congrArg Int32.toInt hv336
        have x337 := HI.eqA hI322 (p := 233) (j := 6) ((((eA_c (hF323.2.1 233 (by decide))).trans (eA_c gA_sI)).trans hv336))
        have x338 := HI.eqA hI0 (p := 233) (j := 0) (hv328)
        have x339 := HI.eqA hI0 (p := 233) (j := 4) (hv332)
        have x340 := HI.eqA hI0 (p := 233) (j := 5) (hv334)
        have x341 := HI.eqA hI0 (p := 233) (j := 6) (hv336)
        have x342 := HI.eqA hI0 (p := 233) (j := 0) (hv328)
        exact ⟨_, rfl, hI322, hF326, _, rfl, by omega, ⟨⟨⟨by omega, by omega, by omega, by omega⟩, by omega, by omega, by omega⟩, (by intro i i0 i1; refine Eq.trans ?_ (if_neg (show ¬ ((((a2.toInt = 0 ∧ -1 ≤ a3.toInt ∧ a3.toInt ≤ 11) ∨ (a2.toInt = 1 ∧ 1 ≤ a3.toInt ∧ a3.toInt ≤ 9) ∨ (a2.toInt = 2 ∧ 0 ≤ a3.toInt ∧ a3.toInt ≤ 99)) ∧ 0 ≤ a1.toInt ∧ a1.toInt < (eA g0 233 0).toInt) ∧ i = 10 + 3 * a1.toInt + a2.toInt) from by omega)).symm; refine (eA_ti (((hF323.2.1 233 (by decide)).trans (gA_sI)))).trans ?_; (first | rfl | exact eA_ix (by omega) | omega))⟩⟩
      · have c320_ : v296.toInt ≤ 11 := en_j_gt_f c320
        refine At.enter rfl ?_
        refine r_iconst 1 rfl ?_
        refine r_goto ?_
        refine At.enter rfl ?_
        refine q_iretz (by decide) ?_
        refine At.enter rfl ?_
        refine q_iretz (by decide) ?_
        refine At.enter rfl ?_
        refine r_ift (by decide) ?_
        refine At.enter rfl ?_
        refine r_aload_n rfl ?_
        refine r_iload_n rfl ?_
        refine q_inlV 24 rfl [.ref 231, .int a1] [] (Nat.le_of_ble_eq_true rfl) rfl ?_
        refine Ev.mk rfl rfl ⟨Nat.le_of_ble_eq_true rfl, Or.inr (q_rc hI293.1 kx_231 rfl)⟩ ?_
        show At _ none _ _ (0, [(0, .ref 231), (1, .int a1)], [], (_, _)) _
        refine At.enter rfl ?_
        refine r_iload_n rfl ?_
        refine q_i2l (fun v343 hv343 => ?_)
        refine r_lconst 0 rfl ?_
        refine r_aload_n rfl ?_
        refine q_getR (Sh.ref hI293.1 kx_231 rfl) ?_
        refine r_iconst 0 rfl ?_
        obtain ⟨v344, hv344⟩ : ∃ v, eA g0 233 0 = v := ⟨_, rfl⟩
        have tv344 := congrArg Int32.toInt hv344
        have wv344 := HI.t0 hI0
        rw [hv344] at wv344
        refine q_iald (Sh.arr hI293.1 ka_233) 0 rfl (by decide) v344 ((eA_c (gA_sI)).trans hv344) ?_
        refine q_i2l (fun v345 hv345 => ?_)
        refine r_lconst 1 rfl ?_
        refine q_lsub (v345.toInt - 1) rfl (by omega) (fun v346 hv346 => ?_)
        refine q_inlS 15 rfl [.long v343, .long 0, .long v346] [] (Nat.le_of_ble_eq_true rfl) rfl ?_
        refine Ev.mk rfl rfl ⟨Nat.le_of_ble_eq_true rfl, Or.inl rfl⟩ ?_
        show At _ none _ _ (0, [(0, .long v343), (2, .long 0), (4, .long v346)], [], (_, _)) _
        refine At.enter rfl ?_
        refine r_lload_n rfl ?_
        refine r_lload_n rfl ?_
        refine r_lcmp _ rfl ?_
        refine r_ifs 6 rfl (fun c347 => ?_) (fun c347 => ?_)
        · have c347_ : v343.toInt < 0 := en_j_lt_t c347
          refine At.enter rfl ?_
          refine r_iconst 0 rfl ?_
          refine Ar.fall 18 rfl ?_
          refine At.enter rfl ?_
          refine q_iretz (by decide) ?_
          refine At.enter rfl ?_
          refine q_iretz (by decide) ?_
          refine At.enter rfl ?_
          refine r_ift (by decide) ?_
          refine At.enter rfl ?_
          refine r_aload_n rfl ?_
          refine r_bipush (-2) rfl ?_
          refine r_callV 49 rfl [.ref 231, .int (-2)] [] (Nat.le_of_ble_eq_true rfl) rfl (T_X11_tell_231 _ hI293 (-2) (by decide)) ?_
          rintro _ _ ⟨g348, rfl, hI349, hF350, v351, rfl, hr352⟩
          refine At.sti ?_
          have hF353 := Fr.tr hF294 hF350 rfl rfl
          have zv354 : ((-2) : Int32).toInt = (-2) := rfl
          refine At.enter rfl ?_
          refine r_ireti ?_
          have x355 := HI.eqA hI0 (p := 233) (j := 0) (hv344)
          have y356 := congrArg Int32.toInt hv344
          have x357 := HI.eqA hI349 (p := 233) (j := 0) ((((eA_c (hF350.2.1 233 (by decide))).trans (eA_c gA_sI)).trans hv344))
          obtain ⟨v358, hv358⟩ : ∃ v, eA g0 233 4 = v := ⟨_, rfl⟩
          have wv358 := HI.t4 hI0
          rw [hv358] at wv358
          have tv358 := congrArg Int32.toInt hv358
          have x359 := HI.eqA hI349 (p := 233) (j := 4) ((((eA_c (hF350.2.1 233 (by decide))).trans (eA_c gA_sI)).trans hv358))
          obtain ⟨v360, hv360⟩ : ∃ v, eA g0 233 5 = v := ⟨_, rfl⟩
          have wv360 := HI.t5 hI0
          rw [hv360] at wv360
          have tv360 := congrArg Int32.toInt hv360
          have x361 := HI.eqA hI349 (p := 233) (j := 5) ((((eA_c (hF350.2.1 233 (by decide))).trans (eA_c gA_sI)).trans hv360))
          obtain ⟨v362, hv362⟩ : ∃ v, eA g0 233 6 = v := ⟨_, rfl⟩
          have wv362 := HI.t6 hI0
          rw [hv362] at wv362
          have tv362 := congrArg Int32.toInt hv362
          have x363 := HI.eqA hI349 (p := 233) (j := 6) ((((eA_c (hF350.2.1 233 (by decide))).trans (eA_c gA_sI)).trans hv362))
          have x364 := HI.eqA hI0 (p := 233) (j := 0) (hv344)
          have x365 := HI.eqA hI0 (p := 233) (j := 4) (hv358)
          have x366 := HI.eqA hI0 (p := 233) (j := 5) (hv360)
          have x367 := HI.eqA hI0 (p := 233) (j := 6) (hv362)
          have x368 := HI.eqA hI0 (p := 233) (j := 0) (hv344)
          exact ⟨_, rfl, hI349, hF353, _, rfl, by omega, ⟨⟨⟨by omega, by omega, by omega, by omega⟩, by omega, by omega, by omega⟩, (by intro i i0 i1; refine Eq.trans ?_ (if_neg (show ¬ ((((a2.toInt = 0 ∧ -1 ≤ a3.toInt ∧ a3.toInt ≤ 11) ∨ (a2.toInt = 1 ∧ 1 ≤ a3.toInt ∧ a3.toInt ≤ 9) ∨ (a2.toInt = 2 ∧ 0 ≤ a3.toInt ∧ a3.toInt ≤ 99)) ∧ 0 ≤ a1.toInt ∧ a1.toInt < (eA g0 233 0).toInt) ∧ i = 10 + 3 * a1.toInt + a2.toInt) from by omega)).symm; refine (eA_ti (((hF350.2.1 233 (by decide)).trans (gA_sI)))).trans ?_; (first | rfl | exact eA_ix (by omega) | omega))⟩⟩
        · have c347_ : v343.toInt ≥ 0 := en_j_lt_f c347
          refine At.enter rfl ?_
          refine r_lload_n rfl ?_
          refine r_lload rfl ?_
          refine r_lcmp _ rfl ?_
          refine r_ifs 13 rfl (fun c369 => ?_) (fun c369 => ?_)
          · have c369_ : v343.toInt > v346.toInt := en_j_gt_t c369
            refine At.enter rfl ?_
            refine r_iconst 0 rfl ?_
            refine Ar.fall 18 rfl ?_
            refine At.enter rfl ?_
            refine q_iretz (by decide) ?_
            refine At.enter rfl ?_
            refine q_iretz (by decide) ?_
            refine At.enter rfl ?_
            refine r_ift (by decide) ?_
            refine At.enter rfl ?_
            refine r_aload_n rfl ?_
            refine r_bipush (-2) rfl ?_
            refine r_callV 49 rfl [.ref 231, .int (-2)] [] (Nat.le_of_ble_eq_true rfl) rfl (T_X11_tell_231 _ hI293 (-2) (by decide)) ?_
            rintro _ _ ⟨g370, rfl, hI371, hF372, v373, rfl, hr374⟩
            refine At.sti ?_
            have hF375 := Fr.tr hF294 hF372 rfl rfl
            have zv376 : ((-2) : Int32).toInt = (-2) := rfl
            refine At.enter rfl ?_
            refine r_ireti ?_
            have x377 := HI.eqA hI0 (p := 233) (j := 0) (hv344)
            have y378 := congrArg Int32.toInt hv344
            have x379 := HI.eqA hI371 (p := 233) (j := 0) ((((eA_c (hF372.2.1 233 (by decide))).trans (eA_c gA_sI)).trans hv344))
            obtain ⟨v380, hv380⟩ : ∃ v, eA g0 233 4 = v := ⟨_, rfl⟩
            have wv380 := HI.t4 hI0
            rw [hv380] at wv380
            have tv380 := congrArg Int32.toInt hv380
            have x381 := HI.eqA hI371 (p := 233) (j := 4) ((((eA_c (hF372.2.1 233 (by decide))).trans (eA_c gA_sI)).trans hv380))
            obtain ⟨v382, hv382⟩ : ∃ v, eA g0 233 5 = v := ⟨_, rfl⟩
            have wv382 := HI.t5 hI0
            rw [hv382] at wv382
            have tv382 := congrArg Int32.toInt hv382
            have x383 := HI.eqA hI371 (p := 233) (j := 5) ((((eA_c (hF372.2.1 233 (by decide))).trans (eA_c gA_sI)).trans hv382))
            obtain ⟨v384, hv384⟩ : ∃ v, eA g0 233 6 = v := ⟨_, rfl⟩
            have wv384 := HI.t6 hI0
            rw [hv384] at wv384
            have tv384 := congrArg Int32.toInt hv384
            have x385 := HI.eqA hI371 (p := 233) (j := 6) ((((eA_c (hF372.2.1 233 (by decide))).trans (eA_c gA_sI)).trans hv384))
            have x386 := HI.eqA hI0 (p := 233) (j := 0) (hv344)
            have x387 := HI.eqA hI0 (p := 233) (j := 4) (hv380)
            have x388 := HI.eqA hI0 (p := 233) (j := 5) (hv382)
            have x389 := HI.eqA hI0 (p := 233) (j := 6) (hv384)
            have x390 := HI.eqA hI0 (p := 233) (j := 0) (hv344)
            exact ⟨_, rfl, hI371, hF375, _, rfl, by omega, ⟨⟨⟨by omega, by omega, by omega, by omega⟩, by omega, by omega, by omega⟩, (by intro i i0 i1; refine Eq.trans ?_ (if_neg (show ¬ ((((a2.toInt = 0 ∧ -1 ≤ a3.toInt ∧ a3.toInt ≤ 11) ∨ (a2.toInt = 1 ∧ 1 ≤ a3.toInt ∧ a3.toInt ≤ 9) ∨ (a2.toInt = 2 ∧ 0 ≤ a3.toInt ∧ a3.toInt ≤ 99)) ∧ 0 ≤ a1.toInt ∧ a1.toInt < (eA g0 233 0).toInt) ∧ i = 10 + 3 * a1.toInt + a2.toInt) from by omega)).symm; refine (eA_ti (((hF372.2.1 233 (by decide)).trans (gA_sI)))).trans ?_; (first | rfl | exact eA_ix (by omega) | omega))⟩⟩
          · have c369_ : v343.toInt ≤ v346.toInt := en_j_gt_f c369
            refine At.enter rfl ?_
            refine r_iconst 1 rfl ?_
            refine r_goto ?_
            refine At.enter rfl ?_
            refine q_iretz (by decide) ?_
            refine At.enter rfl ?_
            refine q_iretz (by decide) ?_
            refine At.enter rfl ?_
            refine r_iff 27 rfl (by decide) ?_
            refine At.enter rfl ?_
            refine r_aload_n rfl ?_
            refine r_bipush 10 rfl ?_
            refine r_iconst 3 rfl ?_
            refine r_iload_n rfl ?_
            refine q_imul (3 * a1.toInt) rfl (by omega) (fun v391 hv391 => ?_)
            refine q_iadd (10 + v391.toInt) rfl (by omega) (fun v392 hv392 => ?_)
            refine r_iload_n rfl ?_
            refine q_iadd (v392.toInt + a2.toInt) rfl (by omega) (fun v393 hv393 => ?_)
            refine r_iload_n rfl ?_
            refine q_inlV 40 rfl [.ref 231, .int v393, .int a3] [] (Nat.le_of_ble_eq_true rfl) rfl ?_
            refine Ev.mk rfl rfl ⟨Nat.le_of_ble_eq_true rfl, Or.inr (q_rc hI293.1 kx_231 rfl)⟩ ?_
            show At _ none _ _ (0, [(0, .ref 231), (1, .int v393), (2, .int a3)], [], (_, _)) _
            refine At.enter rfl ?_
            refine r_aload_n rfl ?_
            refine q_getR (Sh.ref hI293.1 kx_231 rfl) ?_
            refine r_iload_n rfl ?_
            obtain ⟨v394, hv394⟩ : ∃ v, eA g0 233 (3 * a1.toInt + a2.toInt + 10) = v := ⟨_, rfl⟩
            have wv394 := HI.s0 hI0 (j := (3 * a1.toInt + a2.toInt + 10)) (a1.toInt) (by omega) (by omega)
            rw [hv394] at wv394
            refine q_iald (Sh.arr hI293.1 ka_233) (3 * a1.toInt + a2.toInt + 10) (by omega) (by omega) v394 ((eA_c (gA_sI)).trans hv394) ?_
            refine r_istore_n ([(3, .int v394), (0, .ref 231), (1, .int v393), (2, .int a3)]) rfl ?_
            refine r_aload_n rfl ?_
            refine q_getR (Sh.ref hI293.1 kx_231 rfl) ?_
            refine r_iload_n rfl ?_
            refine r_iload_n rfl ?_
            refine q_iast (Sh.arr hI293.1 ka_233) ((3 * a1.toInt + a2.toInt + 10)) (by omega) (by omega) ?_
            have hI395 := HI.ws hI293 (j := (3 * a1.toInt + a2.toInt + 10)) (v := a3) (a1.toInt) 0 (by omega) (by decide) (by omega) (by omega)
            have hF396 := Fr.wA (p := 233) (j := (3 * a1.toInt + a2.toInt + 10)) (v := a3) hF294 rfl
            refine r_aload_n rfl ?_
            refine r_iload_n rfl ?_
            refine q_inlV 19 rfl [.ref 231, .int v394] [] (Nat.le_of_ble_eq_true rfl) rfl ?_
            refine Ev.mk rfl rfl ⟨Nat.le_of_ble_eq_true rfl, Or.inr (q_rc hI395.1 kx_231 rfl)⟩ ?_
            show At _ none _ _ (0, [(0, .ref 231), (1, .int v394)], [], (_, _)) _
            refine At.enter rfl ?_
            refine r_aload_n rfl ?_
            refine r_iconst 0 rfl ?_
            refine q_putI (Sh.int hI395.1 kx_231 rfl) rfl ?_
            have hI397 := HI.wI0 hI395 kx_231 rfl (p := 231) (b := 1) (v := 0) rfl
            have hF398 := Fr.wI (p := 231) (b := 1) (v := 0) hF396 rfl
            refine r_iload_n rfl ?_
            refine q_ireti ?_
            refine At.enter rfl ?_
            refine q_ireti ?_
            refine At.enter rfl ?_
            refine r_goto ?_
            refine At.enter rfl ?_
            refine r_ireti ?_
            have x399 := HI.eqA hI0 (p := 233) (j := 0) (hv344)
            have y400 := congrArg Int32.toInt hv344
            have y401 := (eA_ix (g := g0) (p := 233) (show 10 + 3 * a1.toInt + a2.toInt = (3 * a1.toInt + a2.toInt + 10) from by omega)).trans (congrArg Int32.toInt hv394)
            have x402 := HI.eqA hI397 (p := 233) (j := 0) ((((eA_c gA_sI).trans ((eA_sA_ne hI293.1 ka_233 (by first | decide | omega) (by first | decide | omega) (by first | decide | omega)).trans (eA_c gA_sI))).trans hv344))
            obtain ⟨v403, hv403⟩ : ∃ v, eA g0 233 4 = v := ⟨_, rfl⟩
            have wv403 := HI.t4 hI0
            rw [hv403] at wv403
            have tv403 := congrArg Int32.toInt hv403
            have x404 := HI.eqA hI397 (p := 233) (j := 4) ((((eA_c gA_sI).trans ((eA_sA_ne hI293.1 ka_233 (by first | decide | omega) (by first | decide | omega) (by first | decide | omega)).trans (eA_c gA_sI))).trans hv403))
            obtain ⟨v405, hv405⟩ : ∃ v, eA g0 233 5 = v := ⟨_, rfl⟩
            have wv405 := HI.t5 hI0
            rw [hv405] at wv405
            have tv405 := congrArg Int32.toInt hv405
            have x406 := HI.eqA hI397 (p := 233) (j := 5) ((((eA_c gA_sI).trans ((eA_sA_ne hI293.1 ka_233 (by first | decide | omega) (by first | decide | omega) (by first | decide | omega)).trans (eA_c gA_sI))).trans hv405))
            obtain ⟨v407, hv407⟩ : ∃ v, eA g0 233 6 = v := ⟨_, rfl⟩
            have wv407 := HI.t6 hI0
            rw [hv407] at wv407
            have tv407 := congrArg Int32.toInt hv407
            have x408 := HI.eqA hI397 (p := 233) (j := 6) ((((eA_c gA_sI).trans ((eA_sA_ne hI293.1 ka_233 (by first | decide | omega) (by first | decide | omega) (by first | decide | omega)).trans (eA_c gA_sI))).trans hv407))
            have x409 := HI.eqA hI0 (p := 233) (j := 0) (hv344)
            have x410 := HI.eqA hI0 (p := 233) (j := 4) (hv403)
            have x411 := HI.eqA hI0 (p := 233) (j := 5) (hv405)
            have x412 := HI.eqA hI0 (p := 233) (j := 6) (hv407)
            have x413 := HI.eqA hI0 (p := 233) (j := 0) (hv344)
            exact ⟨_, rfl, hI397, hF398, _, rfl, by omega, ⟨⟨⟨by omega, by omega, by omega, by omega⟩, by omega, by omega, by omega⟩, (by intro i i0 i1; exact (Decidable.em ((((a2.toInt = 0 ∧ -1 ≤ a3.toInt ∧ a3.toInt ≤ 11) ∨ (a2.toInt = 1 ∧ 1 ≤ a3.toInt ∧ a3.toInt ≤ 9) ∨ (a2.toInt = 2 ∧ 0 ≤ a3.toInt ∧ a3.toInt ≤ 99)) ∧ 0 ≤ a1.toInt ∧ a1.toInt < (eA g0 233 0).toInt) ∧ i = 10 + 3 * a1.toInt + a2.toInt)).elim (fun k100_ => by refine Eq.trans ?_ (if_pos k100_).symm; refine (eA_ti ((gA_sI))).trans ?_; exact (Decidable.em (i = (3 * a1.toInt + a2.toInt + 10))).elim (fun k101_ => by refine (eA_eqT hI293.1 ka_233 k101_ (by first | decide | omega) (by first | decide | omega)).trans ?_; (first | (rfl) | (omega))) (fun k101_ => by refine (eA_neT hI293.1 ka_233 k101_ (by first | decide | omega) (by omega)).trans ?_; refine (eA_ti ((gA_sI))).trans ?_; (first | rfl | exact eA_ix (by omega) | omega))) (fun k100_ => by refine Eq.trans ?_ (if_neg k100_).symm; refine (eA_ti ((gA_sI))).trans ?_; exact (Decidable.em (i = (3 * a1.toInt + a2.toInt + 10))).elim (fun k102_ => by refine (eA_eqT hI293.1 ka_233 k102_ (by first | decide | omega) (by first | decide | omega)).trans ?_; (first | (rfl) | (omega))) (fun k102_ => by refine (eA_neT hI293.1 ka_233 k102_ (by first | decide | omega) (by omega)).trans ?_; refine (eA_ti ((gA_sI))).trans ?_; (first | rfl | exact eA_ix (by omega) | omega))))⟩⟩
  by_cases c295_1 : a2.toInt = 1
  · refine r_tsw 40 (by rw [c295_1]; rfl) ?_
    refine At.enter rfl ?_
    refine r_iload_n rfl ?_
    refine q_i2l (fun v414 hv414 => ?_)
    refine r_lconst 1 rfl ?_
    refine r_ldc2 9 rfl ?_
    refine q_inlS 49 rfl [.long v414, .long 1, .long 9] [] (Nat.le_of_ble_eq_true rfl) rfl ?_
    refine Ev.mk rfl rfl ⟨Nat.le_of_ble_eq_true rfl, Or.inl rfl⟩ ?_
    show At _ none _ _ (0, [(0, .long v414), (2, .long 1), (4, .long 9)], [], (_, _)) _
    refine At.enter rfl ?_
    refine r_lload_n rfl ?_
    refine r_lload_n rfl ?_
    refine r_lcmp _ rfl ?_
    refine r_ifs 6 rfl (fun c415 => ?_) (fun c415 => ?_)
    · have c415_ : v414.toInt < 1 := en_j_lt_t c415
      refine At.enter rfl ?_
      refine r_iconst 0 rfl ?_
      refine Ar.fall 18 rfl ?_
      refine At.enter rfl ?_
      refine q_iretz (by decide) ?_
      refine At.enter rfl ?_
      refine q_iretz (by decide) ?_
      refine At.enter rfl ?_
      refine r_iff 13 rfl (by decide) ?_
      refine At.enter rfl ?_
      refine r_aload_n rfl ?_
      refine r_iconst (-1) rfl ?_
      refine r_callV 18 rfl [.ref 231, .int (-1)] [] (Nat.le_of_ble_eq_true rfl) rfl (T_X11_tell_231 _ hI293 (-1) (by decide)) ?_
      rintro _ _ ⟨g416, rfl, hI417, hF418, v419, rfl, hr420⟩
      refine At.sti ?_
      have hF421 := Fr.tr hF294 hF418 rfl rfl
      have zv422 : ((-1) : Int32).toInt = (-1) := rfl
      refine At.enter rfl ?_
      refine r_ireti ?_
      obtain ⟨v423, hv423⟩ : ∃ v, eA g0 233 0 = v := ⟨_, rfl⟩
      have tv423 := congrArg Int32.toInt hv423
      have wv423 := HI.t0 hI0
      rw [hv423] at wv423
      have tv423 := congrArg Int32.toInt hv423
      have x424 := HI.eqA hI0 (p := 233) (j := 0) (hv423)
      have y425 := congrArg Int32.toInt hv423
      have x426 := HI.eqA hI417 (p := 233) (j := 0) ((((eA_c (hF418.2.1 233 (by decide))).trans (eA_c gA_sI)).trans hv423))
      obtain ⟨v427, hv427⟩ : ∃ v, eA g0 233 4 = v := ⟨_, rfl⟩
      have wv427 := HI.t4 hI0
      rw [hv427] at wv427
      have tv427 := congrArg Int32.toInt hv427
      have x428 := HI.eqA hI417 (p := 233) (j := 4) ((((eA_c (hF418.2.1 233 (by decide))).trans (eA_c gA_sI)).trans hv427))
      obtain ⟨v429, hv429⟩ : ∃ v, eA g0 233 5 = v := ⟨_, rfl⟩
      have wv429 := HI.t5 hI0
      rw [hv429] at wv429
      have tv429 := congrArg Int32.toInt hv429
      have x430 := HI.eqA hI417 (p := 233) (j := 5) ((((eA_c (hF418.2.1 233 (by decide))).trans (eA_c gA_sI)).trans hv429))
      obtain ⟨v431, hv431⟩ : ∃ v, eA g0 233 6 = v := ⟨_, rfl⟩
      have wv431 := HI.t6 hI0
      rw [hv431] at wv431
      have tv431 := congrArg Int32.toInt hv431
      have x432 := HI.eqA hI417 (p := 233) (j := 6) ((((eA_c (hF418.2.1 233 (by decide))).trans (eA_c gA_sI)).trans hv431))
      have x433 := HI.eqA hI0 (p := 233) (j := 0) (hv423)
      have x434 := HI.eqA hI0 (p := 233) (j := 4) (hv427)
      have x435 := HI.eqA hI0 (p := 233) (j := 5) (hv429)
      have x436 := HI.eqA hI0 (p := 233) (j := 6) (hv431)
      have x437 := HI.eqA hI0 (p := 233) (j := 0) (hv423)
      exact ⟨_, rfl, hI417, hF421, _, rfl, by omega, ⟨⟨⟨by omega, by omega, by omega, by omega⟩, by omega, by omega, by omega⟩, (by intro i i0 i1; refine Eq.trans ?_ (if_neg (show ¬ ((((a2.toInt = 0 ∧ -1 ≤ a3.toInt ∧ a3.toInt ≤ 11) ∨ (a2.toInt = 1 ∧ 1 ≤ a3.toInt ∧ a3.toInt ≤ 9) ∨ (a2.toInt = 2 ∧ 0 ≤ a3.toInt ∧ a3.toInt ≤ 99)) ∧ 0 ≤ a1.toInt ∧ a1.toInt < (eA g0 233 0).toInt) ∧ i = 10 + 3 * a1.toInt + a2.toInt) from by omega)).symm; refine (eA_ti (((hF418.2.1 233 (by decide)).trans (gA_sI)))).trans ?_; (first | rfl | exact eA_ix (by omega) | omega))⟩⟩
    · have c415_ : v414.toInt ≥ 1 := en_j_lt_f c415
      refine At.enter rfl ?_
      refine r_lload_n rfl ?_
      refine r_lload rfl ?_
      refine r_lcmp _ rfl ?_
      refine r_ifs 13 rfl (fun c438 => ?_) (fun c438 => ?_)
      · have c438_ : v414.toInt > 9 := en_j_gt_t c438
        refine At.enter rfl ?_
        refine r_iconst 0 rfl ?_
        refine Ar.fall 18 rfl ?_
        refine At.enter rfl ?_
        refine q_iretz (by decide) ?_
        refine At.enter rfl ?_
        refine q_iretz (by decide) ?_
        refine At.enter rfl ?_
        refine r_iff 13 rfl (by decide) ?_
        refine At.enter rfl ?_
        refine r_aload_n rfl ?_
        refine r_iconst (-1) rfl ?_
        refine r_callV 18 rfl [.ref 231, .int (-1)] [] (Nat.le_of_ble_eq_true rfl) rfl (T_X11_tell_231 _ hI293 (-1) (by decide)) ?_
        rintro _ _ ⟨g439, rfl, hI440, hF441, v442, rfl, hr443⟩
        refine At.sti ?_
        have hF444 := Fr.tr hF294 hF441 rfl rfl
        have zv445 : ((-1) : Int32).toInt = (-1) := rfl
        refine At.enter rfl ?_
        refine r_ireti ?_
        obtain ⟨v446, hv446⟩ : ∃ v, eA g0 233 0 = v := ⟨_, rfl⟩
        have tv446 := congrArg Int32.toInt hv446
        have wv446 := HI.t0 hI0
        rw [hv446] at wv446
        have tv446 := congrArg Int32.toInt hv446
        have x447 := HI.eqA hI0 (p := 233) (j := 0) (hv446)
        have y448 := congrArg Int32.toInt hv446
        have x449 := HI.eqA hI440 (p := 233) (j := 0) ((((eA_c (hF441.2.1 233 (by decide))).trans (eA_c gA_sI)).trans hv446))
        obtain ⟨v450, hv450⟩ : ∃ v, eA g0 233 4 = v := ⟨_, rfl⟩
        have wv450 := HI.t4 hI0
        rw [hv450] at wv450
        have tv450 := congrArg Int32.toInt hv450
        have x451 := HI.eqA hI440 (p := 233) (j := 4) ((((eA_c (hF441.2.1 233 (by decide))).trans (eA_c gA_sI)).trans hv450))
        obtain ⟨v452, hv452⟩ : ∃ v, eA g0 233 5 = v := ⟨_, rfl⟩
        have wv452 := HI.t5 hI0
        rw [hv452] at wv452
        have tv452 := congrArg Int32.toInt hv452
        have x453 := HI.eqA hI440 (p := 233) (j := 5) ((((eA_c (hF441.2.1 233 (by decide))).trans (eA_c gA_sI)).trans hv452))
        obtain ⟨v454, hv454⟩ : ∃ v, eA g0 233 6 = v := ⟨_, rfl⟩
        have wv454 := HI.t6 hI0
        rw [hv454] at wv454
        have tv454 := congrArg Int32.toInt hv454
        have x455 := HI.eqA hI440 (p := 233) (j := 6) ((((eA_c (hF441.2.1 233 (by decide))).trans (eA_c gA_sI)).trans hv454))
        have x456 := HI.eqA hI0 (p := 233) (j := 0) (hv446)
        have x457 := HI.eqA hI0 (p := 233) (j := 4) (hv450)
        have x458 := HI.eqA hI0 (p := 233) (j := 5) (hv452)
        have x459 := HI.eqA hI0 (p := 233) (j := 6) (hv454)
        have x460 := HI.eqA hI0 (p := 233) (j := 0) (hv446)
        exact ⟨_, rfl, hI440, hF444, _, rfl, by omega, ⟨⟨⟨by omega, by omega, by omega, by omega⟩, by omega, by omega, by omega⟩, (by intro i i0 i1; refine Eq.trans ?_ (if_neg (show ¬ ((((a2.toInt = 0 ∧ -1 ≤ a3.toInt ∧ a3.toInt ≤ 11) ∨ (a2.toInt = 1 ∧ 1 ≤ a3.toInt ∧ a3.toInt ≤ 9) ∨ (a2.toInt = 2 ∧ 0 ≤ a3.toInt ∧ a3.toInt ≤ 99)) ∧ 0 ≤ a1.toInt ∧ a1.toInt < (eA g0 233 0).toInt) ∧ i = 10 + 3 * a1.toInt + a2.toInt) from by omega)).symm; refine (eA_ti (((hF441.2.1 233 (by decide)).trans (gA_sI)))).trans ?_; (first | rfl | exact eA_ix (by omega) | omega))⟩⟩
      · have c438_ : v414.toInt ≤ 9 := en_j_gt_f c438
        refine At.enter rfl ?_
        refine r_iconst 1 rfl ?_
        refine r_goto ?_
        refine At.enter rfl ?_
        refine q_iretz (by decide) ?_
        refine At.enter rfl ?_
        refine q_iretz (by decide) ?_
        refine At.enter rfl ?_
        refine r_ift (by decide) ?_
        refine At.enter rfl ?_
        refine r_aload_n rfl ?_
        refine r_iload_n rfl ?_
        refine q_inlV 24 rfl [.ref 231, .int a1] [] (Nat.le_of_ble_eq_true rfl) rfl ?_
        refine Ev.mk rfl rfl ⟨Nat.le_of_ble_eq_true rfl, Or.inr (q_rc hI293.1 kx_231 rfl)⟩ ?_
        show At _ none _ _ (0, [(0, .ref 231), (1, .int a1)], [], (_, _)) _
        refine At.enter rfl ?_
        refine r_iload_n rfl ?_
        refine q_i2l (fun v461 hv461 => ?_)
        refine r_lconst 0 rfl ?_
        refine r_aload_n rfl ?_
        refine q_getR (Sh.ref hI293.1 kx_231 rfl) ?_
        refine r_iconst 0 rfl ?_
        obtain ⟨v462, hv462⟩ : ∃ v, eA g0 233 0 = v := ⟨_, rfl⟩
        have tv462 := congrArg Int32.toInt hv462
        have wv462 := HI.t0 hI0
        rw [hv462] at wv462
        refine q_iald (Sh.arr hI293.1 ka_233) 0 rfl (by decide) v462 ((eA_c (gA_sI)).trans hv462) ?_
        refine q_i2l (fun v463 hv463 => ?_)
        refine r_lconst 1 rfl ?_
        refine q_lsub (v463.toInt - 1) rfl (by omega) (fun v464 hv464 => ?_)
        refine q_inlS 15 rfl [.long v461, .long 0, .long v464] [] (Nat.le_of_ble_eq_true rfl) rfl ?_
        refine Ev.mk rfl rfl ⟨Nat.le_of_ble_eq_true rfl, Or.inl rfl⟩ ?_
        show At _ none _ _ (0, [(0, .long v461), (2, .long 0), (4, .long v464)], [], (_, _)) _
        refine At.enter rfl ?_
        refine r_lload_n rfl ?_
        refine r_lload_n rfl ?_
        refine r_lcmp _ rfl ?_
        refine r_ifs 6 rfl (fun c465 => ?_) (fun c465 => ?_)
        · have c465_ : v461.toInt < 0 := en_j_lt_t c465
          refine At.enter rfl ?_
          refine r_iconst 0 rfl ?_
          refine Ar.fall 18 rfl ?_
          refine At.enter rfl ?_
          refine q_iretz (by decide) ?_
          refine At.enter rfl ?_
          refine q_iretz (by decide) ?_
          refine At.enter rfl ?_
          refine r_ift (by decide) ?_
          refine At.enter rfl ?_
          refine r_aload_n rfl ?_
          refine r_bipush (-2) rfl ?_
          refine r_callV 49 rfl [.ref 231, .int (-2)] [] (Nat.le_of_ble_eq_true rfl) rfl (T_X11_tell_231 _ hI293 (-2) (by decide)) ?_
          rintro _ _ ⟨g466, rfl, hI467, hF468, v469, rfl, hr470⟩
          refine At.sti ?_
          have hF471 := Fr.tr hF294 hF468 rfl rfl
          have zv472 : ((-2) : Int32).toInt = (-2) := rfl
          refine At.enter rfl ?_
          refine r_ireti ?_
          have x473 := HI.eqA hI0 (p := 233) (j := 0) (hv462)
          have y474 := congrArg Int32.toInt hv462
          have x475 := HI.eqA hI467 (p := 233) (j := 0) ((((eA_c (hF468.2.1 233 (by decide))).trans (eA_c gA_sI)).trans hv462))
          obtain ⟨v476, hv476⟩ : ∃ v, eA g0 233 4 = v := ⟨_, rfl⟩
          have wv476 := HI.t4 hI0
          rw [hv476] at wv476
          have tv476 := congrArg Int32.toInt hv476
          have x477 := HI.eqA hI467 (p := 233) (j := 4) ((((eA_c (hF468.2.1 233 (by decide))).trans (eA_c gA_sI)).trans hv476))
          obtain ⟨v478, hv478⟩ : ∃ v, eA g0 233 5 = v := ⟨_, rfl⟩
          have wv478 := HI.t5 hI0
          rw [hv478] at wv478
          have tv478 := congrArg Int32.toInt hv478
          have x479 := HI.eqA hI467 (p := 233) (j := 5) ((((eA_c (hF468.2.1 233 (by decide))).trans (eA_c gA_sI)).trans hv478))
          obtain ⟨v480, hv480⟩ : ∃ v, eA g0 233 6 = v := ⟨_, rfl⟩
          have wv480 := HI.t6 hI0
          rw [hv480] at wv480
          have tv480 := congrArg Int32.toInt hv480
          have x481 := HI.eqA hI467 (p := 233) (j := 6) ((((eA_c (hF468.2.1 233 (by decide))).trans (eA_c gA_sI)).trans hv480))
          have x482 := HI.eqA hI0 (p := 233) (j := 0) (hv462)
          have x483 := HI.eqA hI0 (p := 233) (j := 4) (hv476)
          have x484 := HI.eqA hI0 (p := 233) (j := 5) (hv478)
          have x485 := HI.eqA hI0 (p := 233) (j := 6) (hv480)
          have x486 := HI.eqA hI0 (p := 233) (j := 0) (hv462)
          exact ⟨_, rfl, hI467, hF471, _, rfl, by omega, ⟨⟨⟨by omega, by omega, by omega, by omega⟩, by omega, by omega, by omega⟩, (by intro i i0 i1; refine Eq.trans ?_ (if_neg (show ¬ ((((a2.toInt = 0 ∧ -1 ≤ a3.toInt ∧ a3.toInt ≤ 11) ∨ (a2.toInt = 1 ∧ 1 ≤ a3.toInt ∧ a3.toInt ≤ 9) ∨ (a2.toInt = 2 ∧ 0 ≤ a3.toInt ∧ a3.toInt ≤ 99)) ∧ 0 ≤ a1.toInt ∧ a1.toInt < (eA g0 233 0).toInt) ∧ i = 10 + 3 * a1.toInt + a2.toInt) from by omega)).symm; refine (eA_ti (((hF468.2.1 233 (by decide)).trans (gA_sI)))).trans ?_; (first | rfl | exact eA_ix (by omega) | omega))⟩⟩
        · have c465_ : v461.toInt ≥ 0 := en_j_lt_f c465
          refine At.enter rfl ?_
          refine r_lload_n rfl ?_
          refine r_lload rfl ?_
          refine r_lcmp _ rfl ?_
          refine r_ifs 13 rfl (fun c487 => ?_) (fun c487 => ?_)
          · have c487_ : v461.toInt > v464.toInt := en_j_gt_t c487
            refine At.enter rfl ?_
            refine r_iconst 0 rfl ?_
            refine Ar.fall 18 rfl ?_
            refine At.enter rfl ?_
            refine q_iretz (by decide) ?_
            refine At.enter rfl ?_
            refine q_iretz (by decide) ?_
            refine At.enter rfl ?_
            refine r_ift (by decide) ?_
            refine At.enter rfl ?_
            refine r_aload_n rfl ?_
            refine r_bipush (-2) rfl ?_
            refine r_callV 49 rfl [.ref 231, .int (-2)] [] (Nat.le_of_ble_eq_true rfl) rfl (T_X11_tell_231 _ hI293 (-2) (by decide)) ?_
            rintro _ _ ⟨g488, rfl, hI489, hF490, v491, rfl, hr492⟩
            refine At.sti ?_
            have hF493 := Fr.tr hF294 hF490 rfl rfl
            have zv494 : ((-2) : Int32).toInt = (-2) := rfl
            refine At.enter rfl ?_
            refine r_ireti ?_
            have x495 := HI.eqA hI0 (p := 233) (j := 0) (hv462)
            have y496 := congrArg Int32.toInt hv462
            have x497 := HI.eqA hI489 (p := 233) (j := 0) ((((eA_c (hF490.2.1 233 (by decide))).trans (eA_c gA_sI)).trans hv462))
            obtain ⟨v498, hv498⟩ : ∃ v, eA g0 233 4 = v := ⟨_, rfl⟩
            have wv498 := HI.t4 hI0
            rw [hv498] at wv498
            have tv498 := congrArg Int32.toInt hv498
            have x499 := HI.eqA hI489 (p := 233) (j := 4) ((((eA_c (hF490.2.1 233 (by decide))).trans (eA_c gA_sI)).trans hv498))
            obtain ⟨v500, hv500⟩ : ∃ v, eA g0 233 5 = v := ⟨_, rfl⟩
            have wv500 := HI.t5 hI0
            rw [hv500] at wv500
            have tv500 := congrArg Int32.toInt hv500
            have x501 := HI.eqA hI489 (p := 233) (j := 5) ((((eA_c (hF490.2.1 233 (by decide))).trans (eA_c gA_sI)).trans hv500))
            obtain ⟨v502, hv502⟩ : ∃ v, eA g0 233 6 = v := ⟨_, rfl⟩
            have wv502 := HI.t6 hI0
            rw [hv502] at wv502
            have tv502 := congrArg Int32.toInt hv502
            have x503 := HI.eqA hI489 (p := 233) (j := 6) ((((eA_c (hF490.2.1 233 (by decide))).trans (eA_c gA_sI)).trans hv502))
            have x504 := HI.eqA hI0 (p := 233) (j := 0) (hv462)
            have x505 := HI.eqA hI0 (p := 233) (j := 4) (hv498)
            have x506 := HI.eqA hI0 (p := 233) (j := 5) (hv500)
            have x507 := HI.eqA hI0 (p := 233) (j := 6) (hv502)
            have x508 := HI.eqA hI0 (p := 233) (j := 0) (hv462)
            exact ⟨_, rfl, hI489, hF493, _, rfl, by omega, ⟨⟨⟨by omega, by omega, by omega, by omega⟩, by omega, by omega, by omega⟩, (by intro i i0 i1; refine Eq.trans ?_ (if_neg (show ¬ ((((a2.toInt = 0 ∧ -1 ≤ a3.toInt ∧ a3.toInt ≤ 11) ∨ (a2.toInt = 1 ∧ 1 ≤ a3.toInt ∧ a3.toInt ≤ 9) ∨ (a2.toInt = 2 ∧ 0 ≤ a3.toInt ∧ a3.toInt ≤ 99)) ∧ 0 ≤ a1.toInt ∧ a1.toInt < (eA g0 233 0).toInt) ∧ i = 10 + 3 * a1.toInt + a2.toInt) from by omega)).symm; refine (eA_ti (((hF490.2.1 233 (by decide)).trans (gA_sI)))).trans ?_; (first | rfl | exact eA_ix (by omega) | omega))⟩⟩
          · have c487_ : v461.toInt ≤ v464.toInt := en_j_gt_f c487
            refine At.enter rfl ?_
            refine r_iconst 1 rfl ?_
            refine r_goto ?_
            refine At.enter rfl ?_
            refine q_iretz (by decide) ?_
            refine At.enter rfl ?_
            refine q_iretz (by decide) ?_
            refine At.enter rfl ?_
            refine r_iff 27 rfl (by decide) ?_
            refine At.enter rfl ?_
            refine r_aload_n rfl ?_
            refine r_bipush 10 rfl ?_
            refine r_iconst 3 rfl ?_
            refine r_iload_n rfl ?_
            refine q_imul (3 * a1.toInt) rfl (by omega) (fun v509 hv509 => ?_)
            refine q_iadd (10 + v509.toInt) rfl (by omega) (fun v510 hv510 => ?_)
            refine r_iload_n rfl ?_
            refine q_iadd (v510.toInt + a2.toInt) rfl (by omega) (fun v511 hv511 => ?_)
            refine r_iload_n rfl ?_
            refine q_inlV 40 rfl [.ref 231, .int v511, .int a3] [] (Nat.le_of_ble_eq_true rfl) rfl ?_
            refine Ev.mk rfl rfl ⟨Nat.le_of_ble_eq_true rfl, Or.inr (q_rc hI293.1 kx_231 rfl)⟩ ?_
            show At _ none _ _ (0, [(0, .ref 231), (1, .int v511), (2, .int a3)], [], (_, _)) _
            refine At.enter rfl ?_
            refine r_aload_n rfl ?_
            refine q_getR (Sh.ref hI293.1 kx_231 rfl) ?_
            refine r_iload_n rfl ?_
            obtain ⟨v512, hv512⟩ : ∃ v, eA g0 233 (3 * a1.toInt + a2.toInt + 10) = v := ⟨_, rfl⟩
            have wv512 := HI.s1 hI0 (j := (3 * a1.toInt + a2.toInt + 10)) (a1.toInt) (by omega) (by omega)
            rw [hv512] at wv512
            refine q_iald (Sh.arr hI293.1 ka_233) (3 * a1.toInt + a2.toInt + 10) (by omega) (by omega) v512 ((eA_c (gA_sI)).trans hv512) ?_
            refine r_istore_n ([(3, .int v512), (0, .ref 231), (1, .int v511), (2, .int a3)]) rfl ?_
            refine r_aload_n rfl ?_
            refine q_getR (Sh.ref hI293.1 kx_231 rfl) ?_
            refine r_iload_n rfl ?_
            refine r_iload_n rfl ?_
            refine q_iast (Sh.arr hI293.1 ka_233) ((3 * a1.toInt + a2.toInt + 10)) (by omega) (by omega) ?_
            have hI513 := HI.ws hI293 (j := (3 * a1.toInt + a2.toInt + 10)) (v := a3) (a1.toInt) 1 (by omega) (by decide) (by omega) (by omega)
            have hF514 := Fr.wA (p := 233) (j := (3 * a1.toInt + a2.toInt + 10)) (v := a3) hF294 rfl
            refine r_aload_n rfl ?_
            refine r_iload_n rfl ?_
            refine q_inlV 19 rfl [.ref 231, .int v512] [] (Nat.le_of_ble_eq_true rfl) rfl ?_
            refine Ev.mk rfl rfl ⟨Nat.le_of_ble_eq_true rfl, Or.inr (q_rc hI513.1 kx_231 rfl)⟩ ?_
            show At _ none _ _ (0, [(0, .ref 231), (1, .int v512)], [], (_, _)) _
            refine At.enter rfl ?_
            refine r_aload_n rfl ?_
            refine r_iconst 0 rfl ?_
            refine q_putI (Sh.int hI513.1 kx_231 rfl) rfl ?_
            have hI515 := HI.wI0 hI513 kx_231 rfl (p := 231) (b := 1) (v := 0) rfl
            have hF516 := Fr.wI (p := 231) (b := 1) (v := 0) hF514 rfl
            refine r_iload_n rfl ?_
            refine q_ireti ?_
            refine At.enter rfl ?_
            refine q_ireti ?_
            refine At.enter rfl ?_
            refine r_goto ?_
            refine At.enter rfl ?_
            refine r_ireti ?_
            have x517 := HI.eqA hI0 (p := 233) (j := 0) (hv462)
            have y518 := congrArg Int32.toInt hv462
            have y519 := (eA_ix (g := g0) (p := 233) (show 10 + 3 * a1.toInt + a2.toInt = (3 * a1.toInt + a2.toInt + 10) from by omega)).trans (congrArg Int32.toInt hv512)
            have x520 := HI.eqA hI515 (p := 233) (j := 0) ((((eA_c gA_sI).trans ((eA_sA_ne hI293.1 ka_233 (by first | decide | omega) (by first | decide | omega) (by first | decide | omega)).trans (eA_c gA_sI))).trans hv462))
            obtain ⟨v521, hv521⟩ : ∃ v, eA g0 233 4 = v := ⟨_, rfl⟩
            have wv521 := HI.t4 hI0
            rw [hv521] at wv521
            have tv521 := congrArg Int32.toInt hv521
            have x522 := HI.eqA hI515 (p := 233) (j := 4) ((((eA_c gA_sI).trans ((eA_sA_ne hI293.1 ka_233 (by first | decide | omega) (by first | decide | omega) (by first | decide | omega)).trans (eA_c gA_sI))).trans hv521))
            obtain ⟨v523, hv523⟩ : ∃ v, eA g0 233 5 = v := ⟨_, rfl⟩
            have wv523 := HI.t5 hI0
            rw [hv523] at wv523
            have tv523 := congrArg Int32.toInt hv523
            have x524 := HI.eqA hI515 (p := 233) (j := 5) ((((eA_c gA_sI).trans ((eA_sA_ne hI293.1 ka_233 (by first | decide | omega) (by first | decide | omega) (by first | decide | omega)).trans (eA_c gA_sI))).trans hv523))
            obtain ⟨v525, hv525⟩ : ∃ v, eA g0 233 6 = v := ⟨_, rfl⟩
            have wv525 := HI.t6 hI0
            rw [hv525] at wv525
            have tv525 := congrArg Int32.toInt hv525
            have x526 := HI.eqA hI515 (p := 233) (j := 6) ((((eA_c gA_sI).trans ((eA_sA_ne hI293.1 ka_233 (by first | decide | omega) (by first | decide | omega) (by first | decide | omega)).trans (eA_c gA_sI))).trans hv525))
            have x527 := HI.eqA hI0 (p := 233) (j := 0) (hv462)
            have x528 := HI.eqA hI0 (p := 233) (j := 4) (hv521)
            have x529 := HI.eqA hI0 (p := 233) (j := 5) (hv523)
            have x530 := HI.eqA hI0 (p := 233) (j := 6) (hv525)
            have x531 := HI.eqA hI0 (p := 233) (j := 0) (hv462)
            exact ⟨_, rfl, hI515, hF516, _, rfl, by omega, ⟨⟨⟨by omega, by omega, by omega, by omega⟩, by omega, by omega, by omega⟩, (by intro i i0 i1; exact (Decidable.em ((((a2.toInt = 0 ∧ -1 ≤ a3.toInt ∧ a3.toInt ≤ 11) ∨ (a2.toInt = 1 ∧ 1 ≤ a3.toInt ∧ a3.toInt ≤ 9) ∨ (a2.toInt = 2 ∧ 0 ≤ a3.toInt ∧ a3.toInt ≤ 99)) ∧ 0 ≤ a1.toInt ∧ a1.toInt < (eA g0 233 0).toInt) ∧ i = 10 + 3 * a1.toInt + a2.toInt)).elim (fun k103_ => by refine Eq.trans ?_ (if_pos k103_).symm; refine (eA_ti ((gA_sI))).trans ?_; exact (Decidable.em (i = (3 * a1.toInt + a2.toInt + 10))).elim (fun k104_ => by refine (eA_eqT hI293.1 ka_233 k104_ (by first | decide | omega) (by first | decide | omega)).trans ?_; (first | (rfl) | (omega))) (fun k104_ => by refine (eA_neT hI293.1 ka_233 k104_ (by first | decide | omega) (by omega)).trans ?_; refine (eA_ti ((gA_sI))).trans ?_; (first | rfl | exact eA_ix (by omega) | omega))) (fun k103_ => by refine Eq.trans ?_ (if_neg k103_).symm; refine (eA_ti ((gA_sI))).trans ?_; exact (Decidable.em (i = (3 * a1.toInt + a2.toInt + 10))).elim (fun k105_ => by refine (eA_eqT hI293.1 ka_233 k105_ (by first | decide | omega) (by first | decide | omega)).trans ?_; (first | (rfl) | (omega))) (fun k105_ => by refine (eA_neT hI293.1 ka_233 k105_ (by first | decide | omega) (by omega)).trans ?_; refine (eA_ti ((gA_sI))).trans ?_; (first | rfl | exact eA_ix (by omega) | omega))))⟩⟩
  by_cases c295_2 : a2.toInt = 2
  · refine r_tsw 50 (by rw [c295_2]; rfl) ?_
    refine At.enter rfl ?_
    refine r_iload_n rfl ?_
    refine q_i2l (fun v532 hv532 => ?_)
    refine r_lconst 0 rfl ?_
    refine r_ldc2 99 rfl ?_
    refine q_inlS 59 rfl [.long v532, .long 0, .long 99] [] (Nat.le_of_ble_eq_true rfl) rfl ?_
    refine Ev.mk rfl rfl ⟨Nat.le_of_ble_eq_true rfl, Or.inl rfl⟩ ?_
    show At _ none _ _ (0, [(0, .long v532), (2, .long 0), (4, .long 99)], [], (_, _)) _
    refine At.enter rfl ?_
    refine r_lload_n rfl ?_
    refine r_lload_n rfl ?_
    refine r_lcmp _ rfl ?_
    refine r_ifs 6 rfl (fun c533 => ?_) (fun c533 => ?_)
    · have c533_ : v532.toInt < 0 := en_j_lt_t c533
      refine At.enter rfl ?_
      refine r_iconst 0 rfl ?_
      refine Ar.fall 18 rfl ?_
      refine At.enter rfl ?_
      refine q_iretz (by decide) ?_
      refine At.enter rfl ?_
      refine q_iretz (by decide) ?_
      refine At.enter rfl ?_
      refine r_iff 13 rfl (by decide) ?_
      refine At.enter rfl ?_
      refine r_aload_n rfl ?_
      refine r_iconst (-1) rfl ?_
      refine r_callV 18 rfl [.ref 231, .int (-1)] [] (Nat.le_of_ble_eq_true rfl) rfl (T_X11_tell_231 _ hI293 (-1) (by decide)) ?_
      rintro _ _ ⟨g534, rfl, hI535, hF536, v537, rfl, hr538⟩
      refine At.sti ?_
      have hF539 := Fr.tr hF294 hF536 rfl rfl
      have zv540 : ((-1) : Int32).toInt = (-1) := rfl
      refine At.enter rfl ?_
      refine r_ireti ?_
      obtain ⟨v541, hv541⟩ : ∃ v, eA g0 233 0 = v := ⟨_, rfl⟩
      have tv541 := congrArg Int32.toInt hv541
      have wv541 := HI.t0 hI0
      rw [hv541] at wv541
      have tv541 := congrArg Int32.toInt hv541
      have x542 := HI.eqA hI0 (p := 233) (j := 0) (hv541)
      have y543 := congrArg Int32.toInt hv541
      have x544 := HI.eqA hI535 (p := 233) (j := 0) ((((eA_c (hF536.2.1 233 (by decide))).trans (eA_c gA_sI)).trans hv541))
      obtain ⟨v545, hv545⟩ : ∃ v, eA g0 233 4 = v := ⟨_, rfl⟩
      have wv545 := HI.t4 hI0
      rw [hv545] at wv545
      have tv545 := congrArg Int32.toInt hv545
      have x546 := HI.eqA hI535 (p := 233) (j := 4) ((((eA_c (hF536.2.1 233 (by decide))).trans (eA_c gA_sI)).trans hv545))
      obtain ⟨v547, hv547⟩ : ∃ v, eA g0 233 5 = v := ⟨_, rfl⟩
      have wv547 := HI.t5 hI0
      rw [hv547] at wv547
      have tv547 := congrArg Int32.toInt hv547
      have x548 := HI.eqA hI535 (p := 233) (j := 5) ((((eA_c (hF536.2.1 233 (by decide))).trans (eA_c gA_sI)).trans hv547))
      obtain ⟨v549, hv549⟩ : ∃ v, eA g0 233 6 = v := ⟨_, rfl⟩
      have wv549 := HI.t6 hI0
      rw [hv549] at wv549
      have tv549 := congrArg Int32.toInt hv549
      have x550 := HI.eqA hI535 (p := 233) (j := 6) ((((eA_c (hF536.2.1 233 (by decide))).trans (eA_c gA_sI)).trans hv549))
      have x551 := HI.eqA hI0 (p := 233) (j := 0) (hv541)
      have x552 := HI.eqA hI0 (p := 233) (j := 4) (hv545)
      have x553 := HI.eqA hI0 (p := 233) (j := 5) (hv547)
      have x554 := HI.eqA hI0 (p := 233) (j := 6) (hv549)
      have x555 := HI.eqA hI0 (p := 233) (j := 0) (hv541)
      exact ⟨_, rfl, hI535, hF539, _, rfl, by omega, ⟨⟨⟨by omega, by omega, by omega, by omega⟩, by omega, by omega, by omega⟩, (by intro i i0 i1; refine Eq.trans ?_ (if_neg (show ¬ ((((a2.toInt = 0 ∧ -1 ≤ a3.toInt ∧ a3.toInt ≤ 11) ∨ (a2.toInt = 1 ∧ 1 ≤ a3.toInt ∧ a3.toInt ≤ 9) ∨ (a2.toInt = 2 ∧ 0 ≤ a3.toInt ∧ a3.toInt ≤ 99)) ∧ 0 ≤ a1.toInt ∧ a1.toInt < (eA g0 233 0).toInt) ∧ i = 10 + 3 * a1.toInt + a2.toInt) from by omega)).symm; refine (eA_ti (((hF536.2.1 233 (by decide)).trans (gA_sI)))).trans ?_; (first | rfl | exact eA_ix (by omega) | omega))⟩⟩
    · have c533_ : v532.toInt ≥ 0 := en_j_lt_f c533
      refine At.enter rfl ?_
      refine r_lload_n rfl ?_
      refine r_lload rfl ?_
      refine r_lcmp _ rfl ?_
      refine r_ifs 13 rfl (fun c556 => ?_) (fun c556 => ?_)
      · have c556_ : v532.toInt > 99 := en_j_gt_t c556
        refine At.enter rfl ?_
        refine r_iconst 0 rfl ?_
        refine Ar.fall 18 rfl ?_
        refine At.enter rfl ?_
        refine q_iretz (by decide) ?_
        refine At.enter rfl ?_
        refine q_iretz (by decide) ?_
        refine At.enter rfl ?_
        refine r_iff 13 rfl (by decide) ?_
        refine At.enter rfl ?_
        refine r_aload_n rfl ?_
        refine r_iconst (-1) rfl ?_
        refine r_callV 18 rfl [.ref 231, .int (-1)] [] (Nat.le_of_ble_eq_true rfl) rfl (T_X11_tell_231 _ hI293 (-1) (by decide)) ?_
        rintro _ _ ⟨g557, rfl, hI558, hF559, v560, rfl, hr561⟩
        refine At.sti ?_
        have hF562 := Fr.tr hF294 hF559 rfl rfl
        have zv563 : ((-1) : Int32).toInt = (-1) := rfl
        refine At.enter rfl ?_
        refine r_ireti ?_
        obtain ⟨v564, hv564⟩ : ∃ v, eA g0 233 0 = v := ⟨_, rfl⟩
        have tv564 := congrArg Int32.toInt hv564
        have wv564 := HI.t0 hI0
        rw [hv564] at wv564
        have tv564 := congrArg Int32.toInt hv564
        have x565 := HI.eqA hI0 (p := 233) (j := 0) (hv564)
        have y566 := congrArg Int32.toInt hv564
        have x567 := HI.eqA hI558 (p := 233) (j := 0) ((((eA_c (hF559.2.1 233 (by decide))).trans (eA_c gA_sI)).trans hv564))
        obtain ⟨v568, hv568⟩ : ∃ v, eA g0 233 4 = v := ⟨_, rfl⟩
        have wv568 := HI.t4 hI0
        rw [hv568] at wv568
        have tv568 := congrArg Int32.toInt hv568
        have x569 := HI.eqA hI558 (p := 233) (j := 4) ((((eA_c (hF559.2.1 233 (by decide))).trans (eA_c gA_sI)).trans hv568))
        obtain ⟨v570, hv570⟩ : ∃ v, eA g0 233 5 = v := ⟨_, rfl⟩
        have wv570 := HI.t5 hI0
        rw [hv570] at wv570
        have tv570 := congrArg Int32.toInt hv570
        have x571 := HI.eqA hI558 (p := 233) (j := 5) ((((eA_c (hF559.2.1 233 (by decide))).trans (eA_c gA_sI)).trans hv570))
        obtain ⟨v572, hv572⟩ : ∃ v, eA g0 233 6 = v := ⟨_, rfl⟩
        have wv572 := HI.t6 hI0
        rw [hv572] at wv572
        have tv572 := congrArg Int32.toInt hv572
        have x573 := HI.eqA hI558 (p := 233) (j := 6) ((((eA_c (hF559.2.1 233 (by decide))).trans (eA_c gA_sI)).trans hv572))
        have x574 := HI.eqA hI0 (p := 233) (j := 0) (hv564)
        have x575 := HI.eqA hI0 (p := 233) (j := 4) (hv568)
        have x576 := HI.eqA hI0 (p := 233) (j := 5) (hv570)
        have x577 := HI.eqA hI0 (p := 233) (j := 6) (hv572)
        have x578 := HI.eqA hI0 (p := 233) (j := 0) (hv564)
        exact ⟨_, rfl, hI558, hF562, _, rfl, by omega, ⟨⟨⟨by omega, by omega, by omega, by omega⟩, by omega, by omega, by omega⟩, (by intro i i0 i1; refine Eq.trans ?_ (if_neg (show ¬ ((((a2.toInt = 0 ∧ -1 ≤ a3.toInt ∧ a3.toInt ≤ 11) ∨ (a2.toInt = 1 ∧ 1 ≤ a3.toInt ∧ a3.toInt ≤ 9) ∨ (a2.toInt = 2 ∧ 0 ≤ a3.toInt ∧ a3.toInt ≤ 99)) ∧ 0 ≤ a1.toInt ∧ a1.toInt < (eA g0 233 0).toInt) ∧ i = 10 + 3 * a1.toInt + a2.toInt) from by omega)).symm; refine (eA_ti (((hF559.2.1 233 (by decide)).trans (gA_sI)))).trans ?_; (first | rfl | exact eA_ix (by omega) | omega))⟩⟩
      · have c556_ : v532.toInt ≤ 99 := en_j_gt_f c556
        refine At.enter rfl ?_
        refine r_iconst 1 rfl ?_
        refine r_goto ?_
        refine At.enter rfl ?_
        refine q_iretz (by decide) ?_
        refine At.enter rfl ?_
        refine q_iretz (by decide) ?_
        refine At.enter rfl ?_
        refine r_ift (by decide) ?_
        refine At.enter rfl ?_
        refine r_aload_n rfl ?_
        refine r_iload_n rfl ?_
        refine q_inlV 24 rfl [.ref 231, .int a1] [] (Nat.le_of_ble_eq_true rfl) rfl ?_
        refine Ev.mk rfl rfl ⟨Nat.le_of_ble_eq_true rfl, Or.inr (q_rc hI293.1 kx_231 rfl)⟩ ?_
        show At _ none _ _ (0, [(0, .ref 231), (1, .int a1)], [], (_, _)) _
        refine At.enter rfl ?_
        refine r_iload_n rfl ?_
        refine q_i2l (fun v579 hv579 => ?_)
        refine r_lconst 0 rfl ?_
        refine r_aload_n rfl ?_
        refine q_getR (Sh.ref hI293.1 kx_231 rfl) ?_
        refine r_iconst 0 rfl ?_
        obtain ⟨v580, hv580⟩ : ∃ v, eA g0 233 0 = v := ⟨_, rfl⟩
        have tv580 := congrArg Int32.toInt hv580
        have wv580 := HI.t0 hI0
        rw [hv580] at wv580
        refine q_iald (Sh.arr hI293.1 ka_233) 0 rfl (by decide) v580 ((eA_c (gA_sI)).trans hv580) ?_
        refine q_i2l (fun v581 hv581 => ?_)
        refine r_lconst 1 rfl ?_
        refine q_lsub (v581.toInt - 1) rfl (by omega) (fun v582 hv582 => ?_)
        refine q_inlS 15 rfl [.long v579, .long 0, .long v582] [] (Nat.le_of_ble_eq_true rfl) rfl ?_
        refine Ev.mk rfl rfl ⟨Nat.le_of_ble_eq_true rfl, Or.inl rfl⟩ ?_
        show At _ none _ _ (0, [(0, .long v579), (2, .long 0), (4, .long v582)], [], (_, _)) _
        refine At.enter rfl ?_
        refine r_lload_n rfl ?_
        refine r_lload_n rfl ?_
        refine r_lcmp _ rfl ?_
        refine r_ifs 6 rfl (fun c583 => ?_) (fun c583 => ?_)
        · have c583_ : v579.toInt < 0 := en_j_lt_t c583
          refine At.enter rfl ?_
          refine r_iconst 0 rfl ?_
          refine Ar.fall 18 rfl ?_
          refine At.enter rfl ?_
          refine q_iretz (by decide) ?_
          refine At.enter rfl ?_
          refine q_iretz (by decide) ?_
          refine At.enter rfl ?_
          refine r_ift (by decide) ?_
          refine At.enter rfl ?_
          refine r_aload_n rfl ?_
          refine r_bipush (-2) rfl ?_
          refine r_callV 49 rfl [.ref 231, .int (-2)] [] (Nat.le_of_ble_eq_true rfl) rfl (T_X11_tell_231 _ hI293 (-2) (by decide)) ?_
          rintro _ _ ⟨g584, rfl, hI585, hF586, v587, rfl, hr588⟩
          refine At.sti ?_
          have hF589 := Fr.tr hF294 hF586 rfl rfl
          have zv590 : ((-2) : Int32).toInt = (-2) := rfl
          refine At.enter rfl ?_
          refine r_ireti ?_
          have x591 := HI.eqA hI0 (p := 233) (j := 0) (hv580)
          have y592 := congrArg Int32.toInt hv580
          have x593 := HI.eqA hI585 (p := 233) (j := 0) ((((eA_c (hF586.2.1 233 (by decide))).trans (eA_c gA_sI)).trans hv580))
          obtain ⟨v594, hv594⟩ : ∃ v, eA g0 233 4 = v := ⟨_, rfl⟩
          have wv594 := HI.t4 hI0
          rw [hv594] at wv594
          have tv594 := congrArg Int32.toInt hv594
          have x595 := HI.eqA hI585 (p := 233) (j := 4) ((((eA_c (hF586.2.1 233 (by decide))).trans (eA_c gA_sI)).trans hv594))
          obtain ⟨v596, hv596⟩ : ∃ v, eA g0 233 5 = v := ⟨_, rfl⟩
          have wv596 := HI.t5 hI0
          rw [hv596] at wv596
          have tv596 := congrArg Int32.toInt hv596
          have x597 := HI.eqA hI585 (p := 233) (j := 5) ((((eA_c (hF586.2.1 233 (by decide))).trans (eA_c gA_sI)).trans hv596))
          obtain ⟨v598, hv598⟩ : ∃ v, eA g0 233 6 = v := ⟨_, rfl⟩
          have wv598 := HI.t6 hI0
          rw [hv598] at wv598
          have tv598 := congrArg Int32.toInt hv598
          have x599 := HI.eqA hI585 (p := 233) (j := 6) ((((eA_c (hF586.2.1 233 (by decide))).trans (eA_c gA_sI)).trans hv598))
          have x600 := HI.eqA hI0 (p := 233) (j := 0) (hv580)
          have x601 := HI.eqA hI0 (p := 233) (j := 4) (hv594)
          have x602 := HI.eqA hI0 (p := 233) (j := 5) (hv596)
          have x603 := HI.eqA hI0 (p := 233) (j := 6) (hv598)
          have x604 := HI.eqA hI0 (p := 233) (j := 0) (hv580)
          exact ⟨_, rfl, hI585, hF589, _, rfl, by omega, ⟨⟨⟨by omega, by omega, by omega, by omega⟩, by omega, by omega, by omega⟩, (by intro i i0 i1; refine Eq.trans ?_ (if_neg (show ¬ ((((a2.toInt = 0 ∧ -1 ≤ a3.toInt ∧ a3.toInt ≤ 11) ∨ (a2.toInt = 1 ∧ 1 ≤ a3.toInt ∧ a3.toInt ≤ 9) ∨ (a2.toInt = 2 ∧ 0 ≤ a3.toInt ∧ a3.toInt ≤ 99)) ∧ 0 ≤ a1.toInt ∧ a1.toInt < (eA g0 233 0).toInt) ∧ i = 10 + 3 * a1.toInt + a2.toInt) from by omega)).symm; refine (eA_ti (((hF586.2.1 233 (by decide)).trans (gA_sI)))).trans ?_; (first | rfl | exact eA_ix (by omega) | omega))⟩⟩
        · have c583_ : v579.toInt ≥ 0 := en_j_lt_f c583
          refine At.enter rfl ?_
          refine r_lload_n rfl ?_
          refine r_lload rfl ?_
          refine r_lcmp _ rfl ?_
          refine r_ifs 13 rfl (fun c605 => ?_) (fun c605 => ?_)
          · have c605_ : v579.toInt > v582.toInt := en_j_gt_t c605
            refine At.enter rfl ?_
            refine r_iconst 0 rfl ?_
            refine Ar.fall 18 rfl ?_
            refine At.enter rfl ?_
            refine q_iretz (by decide) ?_
            refine At.enter rfl ?_
            refine q_iretz (by decide) ?_
            refine At.enter rfl ?_
            refine r_ift (by decide) ?_
            refine At.enter rfl ?_
            refine r_aload_n rfl ?_
            refine r_bipush (-2) rfl ?_
            refine r_callV 49 rfl [.ref 231, .int (-2)] [] (Nat.le_of_ble_eq_true rfl) rfl (T_X11_tell_231 _ hI293 (-2) (by decide)) ?_
            rintro _ _ ⟨g606, rfl, hI607, hF608, v609, rfl, hr610⟩
            refine At.sti ?_
            have hF611 := Fr.tr hF294 hF608 rfl rfl
            have zv612 : ((-2) : Int32).toInt = (-2) := rfl
            refine At.enter rfl ?_
            refine r_ireti ?_
            have x613 := HI.eqA hI0 (p := 233) (j := 0) (hv580)
            have y614 := congrArg Int32.toInt hv580
            have x615 := HI.eqA hI607 (p := 233) (j := 0) ((((eA_c (hF608.2.1 233 (by decide))).trans (eA_c gA_sI)).trans hv580))
            obtain ⟨v616, hv616⟩ : ∃ v, eA g0 233 4 = v := ⟨_, rfl⟩
            have wv616 := HI.t4 hI0
            rw [hv616] at wv616
            have tv616 := congrArg Int32.toInt hv616
            have x617 := HI.eqA hI607 (p := 233) (j := 4) ((((eA_c (hF608.2.1 233 (by decide))).trans (eA_c gA_sI)).trans hv616))
            obtain ⟨v618, hv618⟩ : ∃ v, eA g0 233 5 = v := ⟨_, rfl⟩
            have wv618 := HI.t5 hI0
            rw [hv618] at wv618
            have tv618 := congrArg Int32.toInt hv618
            have x619 := HI.eqA hI607 (p := 233) (j := 5) ((((eA_c (hF608.2.1 233 (by decide))).trans (eA_c gA_sI)).trans hv618))
            obtain ⟨v620, hv620⟩ : ∃ v, eA g0 233 6 = v := ⟨_, rfl⟩
            have wv620 := HI.t6 hI0
            rw [hv620] at wv620
            have tv620 := congrArg Int32.toInt hv620
            have x621 := HI.eqA hI607 (p := 233) (j := 6) ((((eA_c (hF608.2.1 233 (by decide))).trans (eA_c gA_sI)).trans hv620))
            have x622 := HI.eqA hI0 (p := 233) (j := 0) (hv580)
            have x623 := HI.eqA hI0 (p := 233) (j := 4) (hv616)
            have x624 := HI.eqA hI0 (p := 233) (j := 5) (hv618)
            have x625 := HI.eqA hI0 (p := 233) (j := 6) (hv620)
            have x626 := HI.eqA hI0 (p := 233) (j := 0) (hv580)
            exact ⟨_, rfl, hI607, hF611, _, rfl, by omega, ⟨⟨⟨by omega, by omega, by omega, by omega⟩, by omega, by omega, by omega⟩, (by intro i i0 i1; refine Eq.trans ?_ (if_neg (show ¬ ((((a2.toInt = 0 ∧ -1 ≤ a3.toInt ∧ a3.toInt ≤ 11) ∨ (a2.toInt = 1 ∧ 1 ≤ a3.toInt ∧ a3.toInt ≤ 9) ∨ (a2.toInt = 2 ∧ 0 ≤ a3.toInt ∧ a3.toInt ≤ 99)) ∧ 0 ≤ a1.toInt ∧ a1.toInt < (eA g0 233 0).toInt) ∧ i = 10 + 3 * a1.toInt + a2.toInt) from by omega)).symm; refine (eA_ti (((hF608.2.1 233 (by decide)).trans (gA_sI)))).trans ?_; (first | rfl | exact eA_ix (by omega) | omega))⟩⟩
          · have c605_ : v579.toInt ≤ v582.toInt := en_j_gt_f c605
            refine At.enter rfl ?_
            refine r_iconst 1 rfl ?_
            refine r_goto ?_
            refine At.enter rfl ?_
            refine q_iretz (by decide) ?_
            refine At.enter rfl ?_
            refine q_iretz (by decide) ?_
            refine At.enter rfl ?_
            refine r_iff 27 rfl (by decide) ?_
            refine At.enter rfl ?_
            refine r_aload_n rfl ?_
            refine r_bipush 10 rfl ?_
            refine r_iconst 3 rfl ?_
            refine r_iload_n rfl ?_
            refine q_imul (3 * a1.toInt) rfl (by omega) (fun v627 hv627 => ?_)
            refine q_iadd (10 + v627.toInt) rfl (by omega) (fun v628 hv628 => ?_)
            refine r_iload_n rfl ?_
            refine q_iadd (v628.toInt + a2.toInt) rfl (by omega) (fun v629 hv629 => ?_)
            refine r_iload_n rfl ?_
            refine q_inlV 40 rfl [.ref 231, .int v629, .int a3] [] (Nat.le_of_ble_eq_true rfl) rfl ?_
            refine Ev.mk rfl rfl ⟨Nat.le_of_ble_eq_true rfl, Or.inr (q_rc hI293.1 kx_231 rfl)⟩ ?_
            show At _ none _ _ (0, [(0, .ref 231), (1, .int v629), (2, .int a3)], [], (_, _)) _
            refine At.enter rfl ?_
            refine r_aload_n rfl ?_
            refine q_getR (Sh.ref hI293.1 kx_231 rfl) ?_
            refine r_iload_n rfl ?_
            obtain ⟨v630, hv630⟩ : ∃ v, eA g0 233 (3 * a1.toInt + a2.toInt + 10) = v := ⟨_, rfl⟩
            have wv630 := HI.s2 hI0 (j := (3 * a1.toInt + a2.toInt + 10)) (a1.toInt) (by omega) (by omega)
            rw [hv630] at wv630
            refine q_iald (Sh.arr hI293.1 ka_233) (3 * a1.toInt + a2.toInt + 10) (by omega) (by omega) v630 ((eA_c (gA_sI)).trans hv630) ?_
            refine r_istore_n ([(3, .int v630), (0, .ref 231), (1, .int v629), (2, .int a3)]) rfl ?_
            refine r_aload_n rfl ?_
            refine q_getR (Sh.ref hI293.1 kx_231 rfl) ?_
            refine r_iload_n rfl ?_
            refine r_iload_n rfl ?_
            refine q_iast (Sh.arr hI293.1 ka_233) ((3 * a1.toInt + a2.toInt + 10)) (by omega) (by omega) ?_
            have hI631 := HI.ws hI293 (j := (3 * a1.toInt + a2.toInt + 10)) (v := a3) (a1.toInt) 2 (by omega) (by decide) (by omega) (by omega)
            have hF632 := Fr.wA (p := 233) (j := (3 * a1.toInt + a2.toInt + 10)) (v := a3) hF294 rfl
            refine r_aload_n rfl ?_
            refine r_iload_n rfl ?_
            refine q_inlV 19 rfl [.ref 231, .int v630] [] (Nat.le_of_ble_eq_true rfl) rfl ?_
            refine Ev.mk rfl rfl ⟨Nat.le_of_ble_eq_true rfl, Or.inr (q_rc hI631.1 kx_231 rfl)⟩ ?_
            show At _ none _ _ (0, [(0, .ref 231), (1, .int v630)], [], (_, _)) _
            refine At.enter rfl ?_
            refine r_aload_n rfl ?_
            refine r_iconst 0 rfl ?_
            refine q_putI (Sh.int hI631.1 kx_231 rfl) rfl ?_
            have hI633 := HI.wI0 hI631 kx_231 rfl (p := 231) (b := 1) (v := 0) rfl
            have hF634 := Fr.wI (p := 231) (b := 1) (v := 0) hF632 rfl
            refine r_iload_n rfl ?_
            refine q_ireti ?_
            refine At.enter rfl ?_
            refine q_ireti ?_
            refine At.enter rfl ?_
            refine r_goto ?_
            refine At.enter rfl ?_
            refine r_ireti ?_
            have x635 := HI.eqA hI0 (p := 233) (j := 0) (hv580)
            have y636 := congrArg Int32.toInt hv580
            have y637 := (eA_ix (g := g0) (p := 233) (show 10 + 3 * a1.toInt + a2.toInt = (3 * a1.toInt + a2.toInt + 10) from by omega)).trans (congrArg Int32.toInt hv630)
            have x638 := HI.eqA hI633 (p := 233) (j := 0) ((((eA_c gA_sI).trans ((eA_sA_ne hI293.1 ka_233 (by first | decide | omega) (by first | decide | omega) (by first | decide | omega)).trans (eA_c gA_sI))).trans hv580))
            obtain ⟨v639, hv639⟩ : ∃ v, eA g0 233 4 = v := ⟨_, rfl⟩
            have wv639 := HI.t4 hI0
            rw [hv639] at wv639
            have tv639 := congrArg Int32.toInt hv639
            have x640 := HI.eqA hI633 (p := 233) (j := 4) ((((eA_c gA_sI).trans ((eA_sA_ne hI293.1 ka_233 (by first | decide | omega) (by first | decide | omega) (by first | decide | omega)).trans (eA_c gA_sI))).trans hv639))
            obtain ⟨v641, hv641⟩ : ∃ v, eA g0 233 5 = v := ⟨_, rfl⟩
            have wv641 := HI.t5 hI0
            rw [hv641] at wv641
            have tv641 := congrArg Int32.toInt hv641
            have x642 := HI.eqA hI633 (p := 233) (j := 5) ((((eA_c gA_sI).trans ((eA_sA_ne hI293.1 ka_233 (by first | decide | omega) (by first | decide | omega) (by first | decide | omega)).trans (eA_c gA_sI))).trans hv641))
            obtain ⟨v643, hv643⟩ : ∃ v, eA g0 233 6 = v := ⟨_, rfl⟩
            have wv643 := HI.t6 hI0
            rw [hv643] at wv643
            have tv643 := congrArg Int32.toInt hv643
            have x644 := HI.eqA hI633 (p := 233) (j := 6) ((((eA_c gA_sI).trans ((eA_sA_ne hI293.1 ka_233 (by first | decide | omega) (by first | decide | omega) (by first | decide | omega)).trans (eA_c gA_sI))).trans hv643))
            have x645 := HI.eqA hI0 (p := 233) (j := 0) (hv580)
            have x646 := HI.eqA hI0 (p := 233) (j := 4) (hv639)
            have x647 := HI.eqA hI0 (p := 233) (j := 5) (hv641)
            have x648 := HI.eqA hI0 (p := 233) (j := 6) (hv643)
            have x649 := HI.eqA hI0 (p := 233) (j := 0) (hv580)
            exact ⟨_, rfl, hI633, hF634, _, rfl, by omega, ⟨⟨⟨by omega, by omega, by omega, by omega⟩, by omega, by omega, by omega⟩, (by intro i i0 i1; exact (Decidable.em ((((a2.toInt = 0 ∧ -1 ≤ a3.toInt ∧ a3.toInt ≤ 11) ∨ (a2.toInt = 1 ∧ 1 ≤ a3.toInt ∧ a3.toInt ≤ 9) ∨ (a2.toInt = 2 ∧ 0 ≤ a3.toInt ∧ a3.toInt ≤ 99)) ∧ 0 ≤ a1.toInt ∧ a1.toInt < (eA g0 233 0).toInt) ∧ i = 10 + 3 * a1.toInt + a2.toInt)).elim (fun k106_ => by refine Eq.trans ?_ (if_pos k106_).symm; refine (eA_ti ((gA_sI))).trans ?_; exact (Decidable.em (i = (3 * a1.toInt + a2.toInt + 10))).elim (fun k107_ => by refine (eA_eqT hI293.1 ka_233 k107_ (by first | decide | omega) (by first | decide | omega)).trans ?_; (first | (rfl) | (omega))) (fun k107_ => by refine (eA_neT hI293.1 ka_233 k107_ (by first | decide | omega) (by omega)).trans ?_; refine (eA_ti ((gA_sI))).trans ?_; (first | rfl | exact eA_ix (by omega) | omega))) (fun k106_ => by refine Eq.trans ?_ (if_neg k106_).symm; refine (eA_ti ((gA_sI))).trans ?_; exact (Decidable.em (i = (3 * a1.toInt + a2.toInt + 10))).elim (fun k108_ => by refine (eA_eqT hI293.1 ka_233 k108_ (by first | decide | omega) (by first | decide | omega)).trans ?_; (first | (rfl) | (omega))) (fun k108_ => by refine (eA_neT hI293.1 ka_233 k108_ (by first | decide | omega) (by omega)).trans ?_; refine (eA_ti ((gA_sI))).trans ?_; (first | rfl | exact eA_ix (by omega) | omega))))⟩⟩
  have c650 : a2.toInt < 0 ∨ 2 < a2.toInt := by omega
  refine r_tsw 60 (by unfold en_sw; rw [if_pos c650]; rfl) ?_
  refine At.enter rfl ?_
  refine r_iconst 0 rfl ?_
  refine q_iretz (by decide) ?_
  refine At.enter rfl ?_
  refine r_iff 13 rfl (by decide) ?_
  refine At.enter rfl ?_
  refine r_aload_n rfl ?_
  refine r_iconst (-1) rfl ?_
  refine r_callV 18 rfl [.ref 231, .int (-1)] [] (Nat.le_of_ble_eq_true rfl) rfl (T_X11_tell_231 _ hI293 (-1) (by decide)) ?_
  rintro _ _ ⟨g651, rfl, hI652, hF653, v654, rfl, hr655⟩
  refine At.sti ?_
  have hF656 := Fr.tr hF294 hF653 rfl rfl
  have zv657 : ((-1) : Int32).toInt = (-1) := rfl
  refine At.enter rfl ?_
  refine r_ireti ?_
  obtain ⟨v658, hv658⟩ : ∃ v, eA g0 233 0 = v := ⟨_, rfl⟩
  have tv658 := congrArg Int32.toInt hv658
  have wv658 := HI.t0 hI0
  rw [hv658] at wv658
  have tv658 := congrArg Int32.toInt hv658
  have x659 := HI.eqA hI0 (p := 233) (j := 0) (hv658)
  have y660 := congrArg Int32.toInt hv658
  have x661 := HI.eqA hI652 (p := 233) (j := 0) ((((eA_c (hF653.2.1 233 (by decide))).trans (eA_c gA_sI)).trans hv658))
  obtain ⟨v662, hv662⟩ : ∃ v, eA g0 233 4 = v := ⟨_, rfl⟩
  have wv662 := HI.t4 hI0
  rw [hv662] at wv662
  have tv662 := congrArg Int32.toInt hv662
  have x663 := HI.eqA hI652 (p := 233) (j := 4) ((((eA_c (hF653.2.1 233 (by decide))).trans (eA_c gA_sI)).trans hv662))
  obtain ⟨v664, hv664⟩ : ∃ v, eA g0 233 5 = v := ⟨_, rfl⟩
  have wv664 := HI.t5 hI0
  rw [hv664] at wv664
  have tv664 := congrArg Int32.toInt hv664
  have x665 := HI.eqA hI652 (p := 233) (j := 5) ((((eA_c (hF653.2.1 233 (by decide))).trans (eA_c gA_sI)).trans hv664))
  obtain ⟨v666, hv666⟩ : ∃ v, eA g0 233 6 = v := ⟨_, rfl⟩
  have wv666 := HI.t6 hI0
  rw [hv666] at wv666
  have tv666 := congrArg Int32.toInt hv666
  have x667 := HI.eqA hI652 (p := 233) (j := 6) ((((eA_c (hF653.2.1 233 (by decide))).trans (eA_c gA_sI)).trans hv666))
  have x668 := HI.eqA hI0 (p := 233) (j := 0) (hv658)
  have x669 := HI.eqA hI0 (p := 233) (j := 4) (hv662)
  have x670 := HI.eqA hI0 (p := 233) (j := 5) (hv664)
  have x671 := HI.eqA hI0 (p := 233) (j := 6) (hv666)
  have x672 := HI.eqA hI0 (p := 233) (j := 0) (hv658)
  exact ⟨_, rfl, hI652, hF656, _, rfl, by omega, ⟨⟨⟨by omega, by omega, by omega, by omega⟩, by omega, by omega, by omega⟩, (by intro i i0 i1; refine Eq.trans ?_ (if_neg (show ¬ ((((a2.toInt = 0 ∧ -1 ≤ a3.toInt ∧ a3.toInt ≤ 11) ∨ (a2.toInt = 1 ∧ 1 ≤ a3.toInt ∧ a3.toInt ≤ 9) ∨ (a2.toInt = 2 ∧ 0 ≤ a3.toInt ∧ a3.toInt ≤ 99)) ∧ 0 ≤ a1.toInt ∧ a1.toInt < (eA g0 233 0).toInt) ∧ i = 10 + 3 * a1.toInt + a2.toInt) from by omega)).symm; refine (eA_ti (((hF653.2.1 233 (by decide)).trans (gA_sI)))).trans ?_; (first | rfl | exact eA_ix (by omega) | omega))⟩⟩
