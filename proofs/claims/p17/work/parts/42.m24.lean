def F_X11_put_231 : List (Nat × Nat) := [(231, 0), (231, 1)]
def A_X11_put_231 : List Nat := [232, 233]
set_option maxRecDepth 100000 in
set_option maxHeartbeats 4000000 in
theorem T_X11_put_231 (d : Nat) {N : Nat} {g0 : List en_E} (hI0 : HI g0) (a1 : Int32) (a2 : Int32) (a3 : Int32) : Ev (d + 3) 173 [.ref 231, .int a1, .int a2, .int a3] (g0, N) (fun w h' => ∃ g', h' = (g', N) ∧ HI g' ∧ Fr F_X11_put_231 A_X11_put_231 g0 g' ∧ ∃ r : Int32, w = some (.int r) ∧ ((-2) ≤ r.toInt ∧ r.toInt ≤ 99) ∧ ((((eA g' 233 0).toInt = (eA g0 233 0).toInt ∧ (eA g' 233 4).toInt = (eA g0 233 4).toInt ∧ (eA g' 233 5).toInt = (eA g0 233 5).toInt ∧ (eA g' 233 6).toInt = (eA g0 233 6).toInt ∧ (eA g' 233 1).toInt = (eA g0 233 1).toInt) ∧ (¬ ((a2.toInt = 0 ∧ -1 ≤ a3.toInt ∧ a3.toInt ≤ 11) ∨ (a2.toInt = 1 ∧ 1 ≤ a3.toInt ∧ a3.toInt ≤ 9) ∨ (a2.toInt = 2 ∧ 0 ≤ a3.toInt ∧ a3.toInt ≤ 99)) → r.toInt = -1) ∧ (((a2.toInt = 0 ∧ -1 ≤ a3.toInt ∧ a3.toInt ≤ 11) ∨ (a2.toInt = 1 ∧ 1 ≤ a3.toInt ∧ a3.toInt ≤ 9) ∨ (a2.toInt = 2 ∧ 0 ≤ a3.toInt ∧ a3.toInt ≤ 99)) ∧ ¬ (0 ≤ a1.toInt ∧ a1.toInt < (eA g0 233 0).toInt) → r.toInt = -2) ∧ (((a2.toInt = 0 ∧ -1 ≤ a3.toInt ∧ a3.toInt ≤ 11) ∨ (a2.toInt = 1 ∧ 1 ≤ a3.toInt ∧ a3.toInt ≤ 9) ∨ (a2.toInt = 2 ∧ 0 ≤ a3.toInt ∧ a3.toInt ≤ 99)) ∧ 0 ≤ a1.toInt ∧ a1.toInt < (eA g0 233 0).toInt → r.toInt = (eA g0 233 (10 + 3 * a1.toInt + a2.toInt)).toInt)) ∧ (∀ i : Int, 10 ≤ i → i < 110 → (eA g' 233 (i)).toInt = if (((a2.toInt = 0 ∧ -1 ≤ a3.toInt ∧ a3.toInt ≤ 11) ∨ (a2.toInt = 1 ∧ 1 ≤ a3.toInt ∧ a3.toInt ≤ 9) ∨ (a2.toInt = 2 ∧ 0 ≤ a3.toInt ∧ a3.toInt ≤ 99)) ∧ 0 ≤ a1.toInt ∧ a1.toInt < (eA g0 233 0).toInt) ∧ i = 10 + 3 * a1.toInt + a2.toInt then a3.toInt else (eA g0 233 (i)).toInt))) := by
  have hF0 : Fr F_X11_put_231 A_X11_put_231 g0 g0 := Fr.rf
  refine Ev.mk rfl rfl ⟨Nat.le_of_ble_eq_true rfl, Or.inr (q_rc hI0.1 kx_231 rfl)⟩ ?_
  show At _ none _ _ (0, [(0, .ref 231), (1, .int a1), (2, .int a2), (3, .int a3)], [], (_, _)) _
  refine At.enter rfl ?_
  refine r_aload_n rfl ?_
  refine r_iconst 0 rfl ?_
  refine q_putI (Sh.int hI0.1 kx_231 rfl) rfl ?_
  have hI293 := HI.wI0 hI0 kx_231 rfl (p := 231) (b := 0) (v := 0) rfl
  have hF294 := Fr.wI (p := 231) (b := 0) (v := 0) hF0 rfl
  refine r_iload_n rfl ?_
  refine r_iload_n rfl ?_
  refine q_inlS 10 rfl [.int a2, .int a3] [] (Nat.le_of_ble_eq_true rfl) rfl ?_
  refine Ev.mk rfl rfl ⟨Nat.le_of_ble_eq_true rfl, Or.inl rfl⟩ ?_
  show At _ none _ _ (0, [(0, .int a2), (1, .int a3)], [], (_, _)) _
  refine At.enter rfl ?_
  refine r_iload_n rfl ?_
  by_cases c295_0 : a2.toInt = 0
  · refine r_tsw 28 (by rw [c295_0]; rfl) ?_
    refine At.enter rfl ?_
    refine r_iload_n rfl ?_
    refine q_i2l (fun v296 hv296 => ?_)
    refine r_ldc2 (-1) rfl ?_
    refine r_ldc2 11 rfl ?_
    refine q_inlS 39 rfl [.long v296, .long (-1), .long 11] [] (Nat.le_of_ble_eq_true rfl) rfl ?_
    refine Ev.mk rfl rfl ⟨Nat.le_of_ble_eq_true rfl, Or.inl rfl⟩ ?_
    show At _ none _ _ (0, [(0, .long v296), (2, .long (-1)), (4, .long 11)], [], (_, _)) _
    refine At.enter rfl ?_
    refine r_lload_n rfl ?_
    refine r_lload_n rfl ?_
    refine r_lcmp _ rfl ?_
    refine r_ifs 6 rfl (fun c297 => ?_) (fun c297 => ?_)
    · have c297_ : v296.toInt < (-1) := en_j_lt_t c297
      refine At.enter rfl ?_
      refine r_iconst 0 rfl ?_
      refine Ar.fall 18 rfl ?_
      refine At.enter rfl ?_
      refine q_iretz (by decide) ?_
      refine At.enter rfl ?_
      refine q_iretz (by decide) ?_
      refine At.enter rfl ?_
      refine r_iff 13 rfl (by decide) ?_
      refine At.enter rfl ?_
      refine r_aload_n rfl ?_
      refine r_iconst (-1) rfl ?_
      refine r_callV 18 rfl [.ref 231, .int (-1)] [] (Nat.le_of_ble_eq_true rfl) rfl (T_X11_tell_231 _ hI293 (-1) (by decide)) ?_
      rintro _ _ ⟨g298, rfl, hI299, hF300, v301, rfl, hr302⟩
      refine At.sti ?_
      have hF303 := Fr.tr hF294 hF300 rfl rfl
      have zv304 : ((-1) : Int32).toInt = (-1) := rfl
      refine At.enter rfl ?_
      refine r_ireti ?_
      obtain ⟨v305, hv305⟩ : ∃ v, eA g0 233 0 = v := ⟨_, rfl⟩
      have tv305 := congrArg Int32.toInt hv305
      have wv305 := HI.t0 hI0
      rw [hv305] at wv305
      have tv305 := congrArg Int32.toInt hv305
      have x306 := HI.eqA hI0 (p := 233) (j := 0) (hv305)
      have y307 := congrArg Int32.toInt hv305
      have x308 := HI.eqA hI299 (p := 233) (j := 0) ((((eA_c (hF300.2.1 233 (by decide))).trans (eA_c gA_sI)).trans hv305))
      obtain ⟨v309, hv309⟩ : ∃ v, eA g0 233 4 = v := ⟨_, rfl⟩
      have wv309 := HI.t4 hI0
      rw [hv309] at wv309
      have tv309 := congrArg Int32.toInt hv309
      have x310 := HI.eqA hI299 (p := 233) (j := 4) ((((eA_c (hF300.2.1 233 (by decide))).trans (eA_c gA_sI)).trans hv309))
      obtain ⟨v311, hv311⟩ : ∃ v, eA g0 233 5 = v := ⟨_, rfl⟩
      have wv311 := HI.t5 hI0
      rw [hv311] at wv311
      have tv311 := congrArg Int32.toInt hv311
      have x312 := HI.eqA hI299 (p := 233) (j := 5) ((((eA_c (hF300.2.1 233 (by decide))).trans (eA_c gA_sI)).trans hv311))
      obtain ⟨v313, hv313⟩ : ∃ v, eA g0 233 6 = v := ⟨_, rfl⟩
      have wv313 := HI.t6 hI0
      rw [hv313] at wv313
      have tv313 := congrArg Int32.toInt hv313
      have x314 := HI.eqA hI299 (p := 233) (j := 6) ((((eA_c (hF300.2.1 233 (by decide))).trans (eA_c gA_sI)).trans hv313))
      obtain ⟨v315, hv315⟩ : ∃ v, eA g0 233 1 = v := ⟨_, rfl⟩
      have tv315 := congrArg Int32.toInt hv315
      have wv315 := HI.t1 hI0
      rw [hv315] at wv315
      have tv315 := congrArg Int32.toInt hv315
      have x316 := HI.eqA hI299 (p := 233) (j := 1) ((((eA_c (hF300.2.1 233 (by decide))).trans (eA_c gA_sI)).trans hv315))
      have x317 := HI.eqA hI0 (p := 233) (j := 0) (hv305)
      have x318 := HI.eqA hI0 (p := 233) (j := 4) (hv309)
      have x319 := HI.eqA hI0 (p := 233) (j := 5) (hv311)
      have x320 := HI.eqA hI0 (p := 233) (j := 6) (hv313)
      have x321 := HI.eqA hI0 (p := 233) (j := 1) (hv315)
      have x322 := HI.eqA hI0 (p := 233) (j := 0) (hv305)
      exact ⟨_, rfl, hI299, hF303, _, rfl, by omega, ⟨⟨⟨by omega, by omega, by omega, by omega, by omega⟩, by omega, by omega, by omega⟩, (by intro i i0 i1; refine Eq.trans ?_ (if_neg (show ¬ ((((a2.toInt = 0 ∧ -1 ≤ a3.toInt ∧ a3.toInt ≤ 11) ∨ (a2.toInt = 1 ∧ 1 ≤ a3.toInt ∧ a3.toInt ≤ 9) ∨ (a2.toInt = 2 ∧ 0 ≤ a3.toInt ∧ a3.toInt ≤ 99)) ∧ 0 ≤ a1.toInt ∧ a1.toInt < (eA g0 233 0).toInt) ∧ i = 10 + 3 * a1.toInt + a2.toInt) from by omega)).symm; refine (eA_ti (((hF300.2.1 233 (by decide)).trans (gA_sI)))).trans ?_; (first | rfl | exact eA_ix (by omega) | omega))⟩⟩
    · have c297_ : v296.toInt ≥ (-1) := en_j_lt_f c297
      refine At.enter rfl ?_
      refine r_lload_n rfl ?_
      refine r_lload rfl ?_
      refine r_lcmp _ rfl ?_
      refine r_ifs 13 rfl (fun c323 => ?_) (fun c323 => ?_)
      · have c323_ : v296.toInt > 11 := en_j_gt_t c323
        refine At.enter rfl ?_
        refine r_iconst 0 rfl ?_
        refine Ar.fall 18 rfl ?_
        refine At.enter rfl ?_
        refine q_iretz (by decide) ?_
        refine At.enter rfl ?_
        refine q_iretz (by decide) ?_
        refine At.enter rfl ?_
        refine r_iff 13 rfl (by decide) ?_
        refine At.enter rfl ?_
        refine r_aload_n rfl ?_
        refine r_iconst (-1) rfl ?_
        refine r_callV 18 rfl [.ref 231, .int (-1)] [] (Nat.le_of_ble_eq_true rfl) rfl (T_X11_tell_231 _ hI293 (-1) (by decide)) ?_
        rintro _ _ ⟨g324, rfl, hI325, hF326, v327, rfl, hr328⟩
        refine At.sti ?_
        have hF329 := Fr.tr hF294 hF326 rfl rfl
        have zv330 : ((-1) : Int32).toInt = (-1) := rfl
        refine At.enter rfl ?_
        refine r_ireti ?_
        obtain ⟨v331, hv331⟩ : ∃ v, eA g0 233 0 = v := ⟨_, rfl⟩
        have tv331 := congrArg Int32.toInt hv331
        have wv331 := HI.t0 hI0
        rw [hv331] at wv331
        have tv331 := congrArg Int32.toInt hv331
        have x332 := HI.eqA hI0 (p := 233) (j := 0) (hv331)
        have y333 := congrArg Int32.toInt hv331
        have x334 := HI.eqA hI325 (p := 233) (j := 0) ((((eA_c (hF326.2.1 233 (by decide))).trans (eA_c gA_sI)).trans hv331))
        obtain ⟨v335, hv335⟩ : ∃ v, eA g0 233 4 = v := ⟨_, rfl⟩
        have wv335 := HI.t4 hI0
        rw [hv335] at wv335
        have tv335 := congrArg Int32.toInt hv335
        have x336 := HI.eqA hI325 (p := 233) (j := 4) ((((eA_c (hF326.2.1 233 (by decide))).trans (eA_c gA_sI)).trans hv335))
        obtain ⟨v337, hv337⟩ : ∃ v, eA g0 233 5 = v := ⟨_, rfl⟩
        have wv337 := HI.t5 hI0
        rw [hv337] at wv337
        have tv337 := congrArg Int32.toInt hv337
        have x338 := HI.eqA hI325 (p := 233) (j := 5) ((((eA_c (hF326.2.1 233 (by decide))).trans (eA_c gA_sI)).trans hv337))
        obtain ⟨v339, hv339⟩ : ∃ v, eA g0 233 6 = v := ⟨_, rfl⟩
        have wv339 := HI.t6 hI0
        rw [hv339] at wv339
        have tv339 := congrArg Int32.toInt hv339
        have x340 := HI.eqA hI325 (p := 233) (j := 6) ((((eA_c (hF326.2.1 233 (by decide))).trans (eA_c gA_sI)).trans hv339))
        obtain ⟨v341, hv341⟩ : ∃ v, eA g0 233 1 = v := ⟨_, rfl⟩
        have tv341 := congrArg Int32.toInt hv341
        have wv341 := HI.t1 hI0
        rw [hv341] at wv341
        have tv341 := congrArg Int32.toInt hv341
        have x342 := HI.eqA hI325 (p := 233) (j := 1) ((((eA_c (hF326.2.1 233 (by decide))).trans (eA_c gA_sI)).trans hv341))
        have x343 := HI.eqA hI0 (p := 233) (j := 0) (hv331)
        have x344 := HI.eqA hI0 (p := 233) (j := 4) (hv335)
        have x345 := HI.eqA hI0 (p := 233) (j := 5) (hv337)
        have x346 := HI.eqA hI0 (p := 233) (j := 6) (hv339)
        have x347 := HI.eqA hI0 (p := 233) (j := 1) (hv341)
        have x348 := HI.eqA hI0 (p := 233) (j := 0) (hv331)
        exact ⟨_, rfl, hI325, hF329, _, rfl, by omega, ⟨⟨⟨by omega, by omega, by omega, by omega, by omega⟩, by omega, by omega, by omega⟩, (by intro i i0 i1; refine Eq.trans ?_ (if_neg (show ¬ ((((a2.toInt = 0 ∧ -1 ≤ a3.toInt ∧ a3.toInt ≤ 11) ∨ (a2.toInt = 1 ∧ 1 ≤ a3.toInt ∧ a3.toInt ≤ 9) ∨ (a2.toInt = 2 ∧ 0 ≤ a3.toInt ∧ a3.toInt ≤ 99)) ∧ 0 ≤ a1.toInt ∧ a1.toInt < (eA g0 233 0).toInt) ∧ i = 10 + 3 * a1.toInt + a2.toInt) from by omega)).symm; refine (eA_ti (((hF326.2.1 233 (by decide)).trans (gA_sI)))).trans ?_; (first | rfl | exact eA_ix (by omega) | omega))⟩⟩
      · have c323_ : v296.toInt ≤ 11 := en_j_gt_f c323
        refine At.enter rfl ?_
        refine r_iconst 1 rfl ?_
        refine r_goto ?_
        refine At.enter rfl ?_
        refine q_iretz (by decide) ?_
        refine At.enter rfl ?_
        refine q_iretz (by decide) ?_
        refine At.enter rfl ?_
        refine r_ift (by decide) ?_
        refine At.enter rfl ?_
        refine r_aload_n rfl ?_
        refine r_iload_n rfl ?_
        refine q_inlV 24 rfl [.ref 231, .int a1] [] (Nat.le_of_ble_eq_true rfl) rfl ?_
        refine Ev.mk rfl rfl ⟨Nat.le_of_ble_eq_true rfl, Or.inr (q_rc hI293.1 kx_231 rfl)⟩ ?_
        show At _ none _ _ (0, [(0, .ref 231), (1, .int a1)], [], (_, _)) _
        refine At.enter rfl ?_
        refine r_iload_n rfl ?_
        refine q_i2l (fun v349 hv349 => ?_)
        refine r_lconst 0 rfl ?_
        refine r_aload_n rfl ?_
        refine q_getR (Sh.ref hI293.1 kx_231 rfl) ?_
        refine r_iconst 0 rfl ?_
        obtain ⟨v350, hv350⟩ : ∃ v, eA g0 233 0 = v := ⟨_, rfl⟩
        have tv350 := congrArg Int32.toInt hv350
        have wv350 := HI.t0 hI0
        rw [hv350] at wv350
        refine q_iald (Sh.arr hI293.1 ka_233) 0 rfl (by decide) v350 ((eA_c (gA_sI)).trans hv350) ?_
        refine q_i2l (fun v351 hv351 => ?_)
        refine r_lconst 1 rfl ?_
        refine q_lsub (v351.toInt - 1) rfl (by omega) (fun v352 hv352 => ?_)
        refine q_inlS 15 rfl [.long v349, .long 0, .long v352] [] (Nat.le_of_ble_eq_true rfl) rfl ?_
        refine Ev.mk rfl rfl ⟨Nat.le_of_ble_eq_true rfl, Or.inl rfl⟩ ?_
        show At _ none _ _ (0, [(0, .long v349), (2, .long 0), (4, .long v352)], [], (_, _)) _
        refine At.enter rfl ?_
        refine r_lload_n rfl ?_
        refine r_lload_n rfl ?_
        refine r_lcmp _ rfl ?_
        refine r_ifs 6 rfl (fun c353 => ?_) (fun c353 => ?_)
        · have c353_ : v349.toInt < 0 := en_j_lt_t c353
          refine At.enter rfl ?_
          refine r_iconst 0 rfl ?_
          refine Ar.fall 18 rfl ?_
          refine At.enter rfl ?_
          refine q_iretz (by decide) ?_
          refine At.enter rfl ?_
          refine q_iretz (by decide) ?_
          refine At.enter rfl ?_
          refine r_ift (by decide) ?_
          refine At.enter rfl ?_
          refine r_aload_n rfl ?_
          refine r_bipush (-2) rfl ?_
          refine r_callV 49 rfl [.ref 231, .int (-2)] [] (Nat.le_of_ble_eq_true rfl) rfl (T_X11_tell_231 _ hI293 (-2) (by decide)) ?_
          rintro _ _ ⟨g354, rfl, hI355, hF356, v357, rfl, hr358⟩
          refine At.sti ?_
          have hF359 := Fr.tr hF294 hF356 rfl rfl
          have zv360 : ((-2) : Int32).toInt = (-2) := rfl
          refine At.enter rfl ?_
          refine r_ireti ?_
          have x361 := HI.eqA hI0 (p := 233) (j := 0) (hv350)
          have y362 := congrArg Int32.toInt hv350
          have x363 := HI.eqA hI355 (p := 233) (j := 0) ((((eA_c (hF356.2.1 233 (by decide))).trans (eA_c gA_sI)).trans hv350))
          obtain ⟨v364, hv364⟩ : ∃ v, eA g0 233 4 = v := ⟨_, rfl⟩
          have wv364 := HI.t4 hI0
          rw [hv364] at wv364
          have tv364 := congrArg Int32.toInt hv364
          have x365 := HI.eqA hI355 (p := 233) (j := 4) ((((eA_c (hF356.2.1 233 (by decide))).trans (eA_c gA_sI)).trans hv364))
          obtain ⟨v366, hv366⟩ : ∃ v, eA g0 233 5 = v := ⟨_, rfl⟩
          have wv366 := HI.t5 hI0
          rw [hv366] at wv366
          have tv366 := congrArg Int32.toInt hv366
          have x367 := HI.eqA hI355 (p := 233) (j := 5) ((((eA_c (hF356.2.1 233 (by decide))).trans (eA_c gA_sI)).trans hv366))
          obtain ⟨v368, hv368⟩ : ∃ v, eA g0 233 6 = v := ⟨_, rfl⟩
          have wv368 := HI.t6 hI0
          rw [hv368] at wv368
          have tv368 := congrArg Int32.toInt hv368
          have x369 := HI.eqA hI355 (p := 233) (j := 6) ((((eA_c (hF356.2.1 233 (by decide))).trans (eA_c gA_sI)).trans hv368))
          obtain ⟨v370, hv370⟩ : ∃ v, eA g0 233 1 = v := ⟨_, rfl⟩
          have tv370 := congrArg Int32.toInt hv370
          have wv370 := HI.t1 hI0
          rw [hv370] at wv370
          have tv370 := congrArg Int32.toInt hv370
          have x371 := HI.eqA hI355 (p := 233) (j := 1) ((((eA_c (hF356.2.1 233 (by decide))).trans (eA_c gA_sI)).trans hv370))
          have x372 := HI.eqA hI0 (p := 233) (j := 0) (hv350)
          have x373 := HI.eqA hI0 (p := 233) (j := 4) (hv364)
          have x374 := HI.eqA hI0 (p := 233) (j := 5) (hv366)
          have x375 := HI.eqA hI0 (p := 233) (j := 6) (hv368)
          have x376 := HI.eqA hI0 (p := 233) (j := 1) (hv370)
          have x377 := HI.eqA hI0 (p := 233) (j := 0) (hv350)
          exact ⟨_, rfl, hI355, hF359, _, rfl, by omega, ⟨⟨⟨by omega, by omega, by omega, by omega, by omega⟩, by omega, by omega, by omega⟩, (by intro i i0 i1; refine Eq.trans ?_ (if_neg (show ¬ ((((a2.toInt = 0 ∧ -1 ≤ a3.toInt ∧ a3.toInt ≤ 11) ∨ (a2.toInt = 1 ∧ 1 ≤ a3.toInt ∧ a3.toInt ≤ 9) ∨ (a2.toInt = 2 ∧ 0 ≤ a3.toInt ∧ a3.toInt ≤ 99)) ∧ 0 ≤ a1.toInt ∧ a1.toInt < (eA g0 233 0).toInt) ∧ i = 10 + 3 * a1.toInt + a2.toInt) from by omega)).symm; refine (eA_ti (((hF356.2.1 233 (by decide)).trans (gA_sI)))).trans ?_; (first | rfl | exact eA_ix (by omega) | omega))⟩⟩
        · have c353_ : v349.toInt ≥ 0 := en_j_lt_f c353
          refine At.enter rfl ?_
          refine r_lload_n rfl ?_
          refine r_lload rfl ?_
          refine r_lcmp _ rfl ?_
          refine r_ifs 13 rfl (fun c378 => ?_) (fun c378 => ?_)
          · have c378_ : v349.toInt > v352.toInt := en_j_gt_t c378
            refine At.enter rfl ?_
            refine r_iconst 0 rfl ?_
            refine Ar.fall 18 rfl ?_
            refine At.enter rfl ?_
            refine q_iretz (by decide) ?_
            refine At.enter rfl ?_
            refine q_iretz (by decide) ?_
            refine At.enter rfl ?_
            refine r_ift (by decide) ?_
            refine At.enter rfl ?_
            refine r_aload_n rfl ?_
            refine r_bipush (-2) rfl ?_
            refine r_callV 49 rfl [.ref 231, .int (-2)] [] (Nat.le_of_ble_eq_true rfl) rfl (T_X11_tell_231 _ hI293 (-2) (by decide)) ?_
            rintro _ _ ⟨g379, rfl, hI380, hF381, v382, rfl, hr383⟩
            refine At.sti ?_
            have hF384 := Fr.tr hF294 hF381 rfl rfl
            have zv385 : ((-2) : Int32).toInt = (-2) := rfl
            refine At.enter rfl ?_
            refine r_ireti ?_
            have x386 := HI.eqA hI0 (p := 233) (j := 0) (hv350)
            have y387 := congrArg Int32.toInt hv350
            have x388 := HI.eqA hI380 (p := 233) (j := 0) ((((eA_c (hF381.2.1 233 (by decide))).trans (eA_c gA_sI)).trans hv350))
            obtain ⟨v389, hv389⟩ : ∃ v, eA g0 233 4 = v := ⟨_, rfl⟩
            have wv389 := HI.t4 hI0
            rw [hv389] at wv389
            have tv389 := congrArg Int32.toInt hv389
            have x390 := HI.eqA hI380 (p := 233) (j := 4) ((((eA_c (hF381.2.1 233 (by decide))).trans (eA_c gA_sI)).trans hv389))
            obtain ⟨v391, hv391⟩ : ∃ v, eA g0 233 5 = v := ⟨_, rfl⟩
            have wv391 := HI.t5 hI0
            rw [hv391] at wv391
            have tv391 := congrArg Int32.toInt hv391
            have x392 := HI.eqA hI380 (p := 233) (j := 5) ((((eA_c (hF381.2.1 233 (by decide))).trans (eA_c gA_sI)).trans hv391))
            obtain ⟨v393, hv393⟩ : ∃ v, eA g0 233 6 = v := ⟨_, rfl⟩
            have wv393 := HI.t6 hI0
            rw [hv393] at wv393
            have tv393 := congrArg Int32.toInt hv393
            have x394 := HI.eqA hI380 (p := 233) (j := 6) ((((eA_c (hF381.2.1 233 (by decide))).trans (eA_c gA_sI)).trans hv393))
            obtain ⟨v395, hv395⟩ : ∃ v, eA g0 233 1 = v := ⟨_, rfl⟩
            have tv395 := congrArg Int32.toInt hv395
            have wv395 := HI.t1 hI0
            rw [hv395] at wv395
            have tv395 := congrArg Int32.toInt hv395
            have x396 := HI.eqA hI380 (p := 233) (j := 1) ((((eA_c (hF381.2.1 233 (by decide))).trans (eA_c gA_sI)).trans hv395))
            have x397 := HI.eqA hI0 (p := 233) (j := 0) (hv350)
            have x398 := HI.eqA hI0 (p := 233) (j := 4) (hv389)
            have x399 := HI.eqA hI0 (p := 233) (j := 5) (hv391)
            have x400 := HI.eqA hI0 (p := 233) (j := 6) (hv393)
            have x401 := HI.eqA hI0 (p := 233) (j := 1) (hv395)
            have x402 := HI.eqA hI0 (p := 233) (j := 0) (hv350)
            exact ⟨_, rfl, hI380, hF384, _, rfl, by omega, ⟨⟨⟨by omega, by omega, by omega, by omega, by omega⟩, by omega, by omega, by omega⟩, (by intro i i0 i1; refine Eq.trans ?_ (if_neg (show ¬ ((((a2.toInt = 0 ∧ -1 ≤ a3.toInt ∧ a3.toInt ≤ 11) ∨ (a2.toInt = 1 ∧ 1 ≤ a3.toInt ∧ a3.toInt ≤ 9) ∨ (a2.toInt = 2 ∧ 0 ≤ a3.toInt ∧ a3.toInt ≤ 99)) ∧ 0 ≤ a1.toInt ∧ a1.toInt < (eA g0 233 0).toInt) ∧ i = 10 + 3 * a1.toInt + a2.toInt) from by omega)).symm; refine (eA_ti (((hF381.2.1 233 (by decide)).trans (gA_sI)))).trans ?_; (first | rfl | exact eA_ix (by omega) | omega))⟩⟩
          · have c378_ : v349.toInt ≤ v352.toInt := en_j_gt_f c378
            refine At.enter rfl ?_
            refine r_iconst 1 rfl ?_
            refine r_goto ?_
            refine At.enter rfl ?_
            refine q_iretz (by decide) ?_
            refine At.enter rfl ?_
            refine q_iretz (by decide) ?_
            refine At.enter rfl ?_
            refine r_iff 27 rfl (by decide) ?_
            refine At.enter rfl ?_
            refine r_aload_n rfl ?_
            refine r_bipush 10 rfl ?_
            refine r_iconst 3 rfl ?_
            refine r_iload_n rfl ?_
            refine q_imul (3 * a1.toInt) rfl (by omega) (fun v403 hv403 => ?_)
            refine q_iadd (10 + v403.toInt) rfl (by omega) (fun v404 hv404 => ?_)
            refine r_iload_n rfl ?_
            refine q_iadd (v404.toInt + a2.toInt) rfl (by omega) (fun v405 hv405 => ?_)
            refine r_iload_n rfl ?_
            refine q_inlV 40 rfl [.ref 231, .int v405, .int a3] [] (Nat.le_of_ble_eq_true rfl) rfl ?_
            refine Ev.mk rfl rfl ⟨Nat.le_of_ble_eq_true rfl, Or.inr (q_rc hI293.1 kx_231 rfl)⟩ ?_
            show At _ none _ _ (0, [(0, .ref 231), (1, .int v405), (2, .int a3)], [], (_, _)) _
            refine At.enter rfl ?_
            refine r_aload_n rfl ?_
            refine q_getR (Sh.ref hI293.1 kx_231 rfl) ?_
            refine r_iload_n rfl ?_
            obtain ⟨v406, hv406⟩ : ∃ v, eA g0 233 (3 * a1.toInt + a2.toInt + 10) = v := ⟨_, rfl⟩
            have wv406 := HI.s0 hI0 (j := (3 * a1.toInt + a2.toInt + 10)) (a1.toInt) (by omega) (by omega)
            rw [hv406] at wv406
            refine q_iald (Sh.arr hI293.1 ka_233) (3 * a1.toInt + a2.toInt + 10) (by omega) (by omega) v406 ((eA_c (gA_sI)).trans hv406) ?_
            refine r_istore_n ([(3, .int v406), (0, .ref 231), (1, .int v405), (2, .int a3)]) rfl ?_
            refine r_aload_n rfl ?_
            refine q_getR (Sh.ref hI293.1 kx_231 rfl) ?_
            refine r_iload_n rfl ?_
            refine r_iload_n rfl ?_
            refine q_iast (Sh.arr hI293.1 ka_233) ((3 * a1.toInt + a2.toInt + 10)) (by omega) (by omega) ?_
            have hI407 := HI.ws hI293 (j := (3 * a1.toInt + a2.toInt + 10)) (v := a3) (a1.toInt) 0 (by omega) (by decide) (by omega) (by omega)
            have hF408 := Fr.wA (p := 233) (j := (3 * a1.toInt + a2.toInt + 10)) (v := a3) hF294 rfl
            refine r_aload_n rfl ?_
            refine r_iload_n rfl ?_
            refine q_inlV 19 rfl [.ref 231, .int v406] [] (Nat.le_of_ble_eq_true rfl) rfl ?_
            refine Ev.mk rfl rfl ⟨Nat.le_of_ble_eq_true rfl, Or.inr (q_rc hI407.1 kx_231 rfl)⟩ ?_
            show At _ none _ _ (0, [(0, .ref 231), (1, .int v406)], [], (_, _)) _
            refine At.enter rfl ?_
            refine r_aload_n rfl ?_
            refine r_iconst 0 rfl ?_
            refine q_putI (Sh.int hI407.1 kx_231 rfl) rfl ?_
            have hI409 := HI.wI0 hI407 kx_231 rfl (p := 231) (b := 1) (v := 0) rfl
            have hF410 := Fr.wI (p := 231) (b := 1) (v := 0) hF408 rfl
            refine r_iload_n rfl ?_
            refine q_ireti ?_
            refine At.enter rfl ?_
            refine q_ireti ?_
            refine At.enter rfl ?_
            refine r_goto ?_
            refine At.enter rfl ?_
            refine r_ireti ?_
            have x411 := HI.eqA hI0 (p := 233) (j := 0) (hv350)
            have y412 := congrArg Int32.toInt hv350
            have y413 := (eA_ix (g := g0) (p := 233) (show 10 + 3 * a1.toInt + a2.toInt = (3 * a1.toInt + a2.toInt + 10) from by omega)).trans (congrArg Int32.toInt hv406)
            have x414 := HI.eqA hI409 (p := 233) (j := 0) ((((eA_c gA_sI).trans ((eA_sA_ne hI293.1 ka_233 (by first | decide | omega) (by first | decide | omega) (by first | decide | omega)).trans (eA_c gA_sI))).trans hv350))
            obtain ⟨v415, hv415⟩ : ∃ v, eA g0 233 4 = v := ⟨_, rfl⟩
            have wv415 := HI.t4 hI0
            rw [hv415] at wv415
            have tv415 := congrArg Int32.toInt hv415
            have x416 := HI.eqA hI409 (p := 233) (j := 4) ((((eA_c gA_sI).trans ((eA_sA_ne hI293.1 ka_233 (by first | decide | omega) (by first | decide | omega) (by first | decide | omega)).trans (eA_c gA_sI))).trans hv415))
            obtain ⟨v417, hv417⟩ : ∃ v, eA g0 233 5 = v := ⟨_, rfl⟩
            have wv417 := HI.t5 hI0
            rw [hv417] at wv417
            have tv417 := congrArg Int32.toInt hv417
            have x418 := HI.eqA hI409 (p := 233) (j := 5) ((((eA_c gA_sI).trans ((eA_sA_ne hI293.1 ka_233 (by first | decide | omega) (by first | decide | omega) (by first | decide | omega)).trans (eA_c gA_sI))).trans hv417))
            obtain ⟨v419, hv419⟩ : ∃ v, eA g0 233 6 = v := ⟨_, rfl⟩
            have wv419 := HI.t6 hI0
            rw [hv419] at wv419
            have tv419 := congrArg Int32.toInt hv419
            have x420 := HI.eqA hI409 (p := 233) (j := 6) ((((eA_c gA_sI).trans ((eA_sA_ne hI293.1 ka_233 (by first | decide | omega) (by first | decide | omega) (by first | decide | omega)).trans (eA_c gA_sI))).trans hv419))
            obtain ⟨v421, hv421⟩ : ∃ v, eA g0 233 1 = v := ⟨_, rfl⟩
            have tv421 := congrArg Int32.toInt hv421
            have wv421 := HI.t1 hI0
            rw [hv421] at wv421
            have tv421 := congrArg Int32.toInt hv421
            have x422 := HI.eqA hI409 (p := 233) (j := 1) ((((eA_c gA_sI).trans ((eA_sA_ne hI293.1 ka_233 (by first | decide | omega) (by first | decide | omega) (by first | decide | omega)).trans (eA_c gA_sI))).trans hv421))
            have x423 := HI.eqA hI0 (p := 233) (j := 0) (hv350)
            have x424 := HI.eqA hI0 (p := 233) (j := 4) (hv415)
            have x425 := HI.eqA hI0 (p := 233) (j := 5) (hv417)
            have x426 := HI.eqA hI0 (p := 233) (j := 6) (hv419)
            have x427 := HI.eqA hI0 (p := 233) (j := 1) (hv421)
            have x428 := HI.eqA hI0 (p := 233) (j := 0) (hv350)
            exact ⟨_, rfl, hI409, hF410, _, rfl, by omega, ⟨⟨⟨by omega, by omega, by omega, by omega, by omega⟩, by omega, by omega, by omega⟩, (by intro i i0 i1; exact (Decidable.em ((((a2.toInt = 0 ∧ -1 ≤ a3.toInt ∧ a3.toInt ≤ 11) ∨ (a2.toInt = 1 ∧ 1 ≤ a3.toInt ∧ a3.toInt ≤ 9) ∨ (a2.toInt = 2 ∧ 0 ≤ a3.toInt ∧ a3.toInt ≤ 99)) ∧ 0 ≤ a1.toInt ∧ a1.toInt < (eA g0 233 0).toInt) ∧ i = 10 + 3 * a1.toInt + a2.toInt)).elim (fun k188_ => by refine Eq.trans ?_ (if_pos k188_).symm; refine (eA_ti ((gA_sI))).trans ?_; exact (Decidable.em (i = (3 * a1.toInt + a2.toInt + 10))).elim (fun k189_ => by refine (eA_eqT hI293.1 ka_233 k189_ (by first | decide | omega) (by first | decide | omega)).trans ?_; (first | (rfl) | (omega))) (fun k189_ => by refine (eA_neT hI293.1 ka_233 k189_ (by first | decide | omega) (by omega)).trans ?_; refine (eA_ti ((gA_sI))).trans ?_; (first | rfl | exact eA_ix (by omega) | omega))) (fun k188_ => by refine Eq.trans ?_ (if_neg k188_).symm; refine (eA_ti ((gA_sI))).trans ?_; exact (Decidable.em (i = (3 * a1.toInt + a2.toInt + 10))).elim (fun k190_ => by refine (eA_eqT hI293.1 ka_233 k190_ (by first | decide | omega) (by first | decide | omega)).trans ?_; (first | (rfl) | (omega))) (fun k190_ => by refine (eA_neT hI293.1 ka_233 k190_ (by first | decide | omega) (by omega)).trans ?_; refine (eA_ti ((gA_sI))).trans ?_; (first | rfl | exact eA_ix (by omega) | omega))))⟩⟩
  by_cases c295_1 : a2.toInt = 1
  · refine r_tsw 40 (by rw [c295_1]; rfl) ?_
    refine At.enter rfl ?_
    refine r_iload_n rfl ?_
    refine q_i2l (fun v429 hv429 => ?_)
    refine r_lconst 1 rfl ?_
    refine r_ldc2 9 rfl ?_
    refine q_inlS 49 rfl [.long v429, .long 1, .long 9] [] (Nat.le_of_ble_eq_true rfl) rfl ?_
    refine Ev.mk rfl rfl ⟨Nat.le_of_ble_eq_true rfl, Or.inl rfl⟩ ?_
    show At _ none _ _ (0, [(0, .long v429), (2, .long 1), (4, .long 9)], [], (_, _)) _
    refine At.enter rfl ?_
    refine r_lload_n rfl ?_
    refine r_lload_n rfl ?_
    refine r_lcmp _ rfl ?_
    refine r_ifs 6 rfl (fun c430 => ?_) (fun c430 => ?_)
    · have c430_ : v429.toInt < 1 := en_j_lt_t c430
      refine At.enter rfl ?_
      refine r_iconst 0 rfl ?_
      refine Ar.fall 18 rfl ?_
      refine At.enter rfl ?_
      refine q_iretz (by decide) ?_
      refine At.enter rfl ?_
      refine q_iretz (by decide) ?_
      refine At.enter rfl ?_
      refine r_iff 13 rfl (by decide) ?_
      refine At.enter rfl ?_
      refine r_aload_n rfl ?_
      refine r_iconst (-1) rfl ?_
      refine r_callV 18 rfl [.ref 231, .int (-1)] [] (Nat.le_of_ble_eq_true rfl) rfl (T_X11_tell_231 _ hI293 (-1) (by decide)) ?_
      rintro _ _ ⟨g431, rfl, hI432, hF433, v434, rfl, hr435⟩
      refine At.sti ?_
      have hF436 := Fr.tr hF294 hF433 rfl rfl
      have zv437 : ((-1) : Int32).toInt = (-1) := rfl
      refine At.enter rfl ?_
      refine r_ireti ?_
      obtain ⟨v438, hv438⟩ : ∃ v, eA g0 233 0 = v := ⟨_, rfl⟩
      have tv438 := congrArg Int32.toInt hv438
      have wv438 := HI.t0 hI0
      rw [hv438] at wv438
      have tv438 := congrArg Int32.toInt hv438
      have x439 := HI.eqA hI0 (p := 233) (j := 0) (hv438)
      have y440 := congrArg Int32.toInt hv438
      have x441 := HI.eqA hI432 (p := 233) (j := 0) ((((eA_c (hF433.2.1 233 (by decide))).trans (eA_c gA_sI)).trans hv438))
      obtain ⟨v442, hv442⟩ : ∃ v, eA g0 233 4 = v := ⟨_, rfl⟩
      have wv442 := HI.t4 hI0
      rw [hv442] at wv442
      have tv442 := congrArg Int32.toInt hv442
      have x443 := HI.eqA hI432 (p := 233) (j := 4) ((((eA_c (hF433.2.1 233 (by decide))).trans (eA_c gA_sI)).trans hv442))
      obtain ⟨v444, hv444⟩ : ∃ v, eA g0 233 5 = v := ⟨_, rfl⟩
      have wv444 := HI.t5 hI0
      rw [hv444] at wv444
      have tv444 := congrArg Int32.toInt hv444
      have x445 := HI.eqA hI432 (p := 233) (j := 5) ((((eA_c (hF433.2.1 233 (by decide))).trans (eA_c gA_sI)).trans hv444))
      obtain ⟨v446, hv446⟩ : ∃ v, eA g0 233 6 = v := ⟨_, rfl⟩
      have wv446 := HI.t6 hI0
      rw [hv446] at wv446
      have tv446 := congrArg Int32.toInt hv446
      have x447 := HI.eqA hI432 (p := 233) (j := 6) ((((eA_c (hF433.2.1 233 (by decide))).trans (eA_c gA_sI)).trans hv446))
      obtain ⟨v448, hv448⟩ : ∃ v, eA g0 233 1 = v := ⟨_, rfl⟩
      have tv448 := congrArg Int32.toInt hv448
      have wv448 := HI.t1 hI0
      rw [hv448] at wv448
      have tv448 := congrArg Int32.toInt hv448
      have x449 := HI.eqA hI432 (p := 233) (j := 1) ((((eA_c (hF433.2.1 233 (by decide))).trans (eA_c gA_sI)).trans hv448))
      have x450 := HI.eqA hI0 (p := 233) (j := 0) (hv438)
      have x451 := HI.eqA hI0 (p := 233) (j := 4) (hv442)
      have x452 := HI.eqA hI0 (p := 233) (j := 5) (hv444)
      have x453 := HI.eqA hI0 (p := 233) (j := 6) (hv446)
      have x454 := HI.eqA hI0 (p := 233) (j := 1) (hv448)
      have x455 := HI.eqA hI0 (p := 233) (j := 0) (hv438)
      exact ⟨_, rfl, hI432, hF436, _, rfl, by omega, ⟨⟨⟨by omega, by omega, by omega, by omega, by omega⟩, by omega, by omega, by omega⟩, (by intro i i0 i1; refine Eq.trans ?_ (if_neg (show ¬ ((((a2.toInt = 0 ∧ -1 ≤ a3.toInt ∧ a3.toInt ≤ 11) ∨ (a2.toInt = 1 ∧ 1 ≤ a3.toInt ∧ a3.toInt ≤ 9) ∨ (a2.toInt = 2 ∧ 0 ≤ a3.toInt ∧ a3.toInt ≤ 99)) ∧ 0 ≤ a1.toInt ∧ a1.toInt < (eA g0 233 0).toInt) ∧ i = 10 + 3 * a1.toInt + a2.toInt) from by omega)).symm; refine (eA_ti (((hF433.2.1 233 (by decide)).trans (gA_sI)))).trans ?_; (first | rfl | exact eA_ix (by omega) | omega))⟩⟩
    · have c430_ : v429.toInt ≥ 1 := en_j_lt_f c430
      refine At.enter rfl ?_
      refine r_lload_n rfl ?_
      refine r_lload rfl ?_
      refine r_lcmp _ rfl ?_
      refine r_ifs 13 rfl (fun c456 => ?_) (fun c456 => ?_)
      · have c456_ : v429.toInt > 9 := en_j_gt_t c456
        refine At.enter rfl ?_
        refine r_iconst 0 rfl ?_
        refine Ar.fall 18 rfl ?_
        refine At.enter rfl ?_
        refine q_iretz (by decide) ?_
        refine At.enter rfl ?_
        refine q_iretz (by decide) ?_
        refine At.enter rfl ?_
        refine r_iff 13 rfl (by decide) ?_
        refine At.enter rfl ?_
        refine r_aload_n rfl ?_
        refine r_iconst (-1) rfl ?_
        refine r_callV 18 rfl [.ref 231, .int (-1)] [] (Nat.le_of_ble_eq_true rfl) rfl (T_X11_tell_231 _ hI293 (-1) (by decide)) ?_
        rintro _ _ ⟨g457, rfl, hI458, hF459, v460, rfl, hr461⟩
        refine At.sti ?_
        have hF462 := Fr.tr hF294 hF459 rfl rfl
        have zv463 : ((-1) : Int32).toInt = (-1) := rfl
        refine At.enter rfl ?_
        refine r_ireti ?_
        obtain ⟨v464, hv464⟩ : ∃ v, eA g0 233 0 = v := ⟨_, rfl⟩
        have tv464 := congrArg Int32.toInt hv464
        have wv464 := HI.t0 hI0
        rw [hv464] at wv464
        have tv464 := congrArg Int32.toInt hv464
        have x465 := HI.eqA hI0 (p := 233) (j := 0) (hv464)
        have y466 := congrArg Int32.toInt hv464
        have x467 := HI.eqA hI458 (p := 233) (j := 0) ((((eA_c (hF459.2.1 233 (by decide))).trans (eA_c gA_sI)).trans hv464))
        obtain ⟨v468, hv468⟩ : ∃ v, eA g0 233 4 = v := ⟨_, rfl⟩
        have wv468 := HI.t4 hI0
        rw [hv468] at wv468
        have tv468 := congrArg Int32.toInt hv468
        have x469 := HI.eqA hI458 (p := 233) (j := 4) ((((eA_c (hF459.2.1 233 (by decide))).trans (eA_c gA_sI)).trans hv468))
        obtain ⟨v470, hv470⟩ : ∃ v, eA g0 233 5 = v := ⟨_, rfl⟩
        have wv470 := HI.t5 hI0
        rw [hv470] at wv470
        have tv470 := congrArg Int32.toInt hv470
        have x471 := HI.eqA hI458 (p := 233) (j := 5) ((((eA_c (hF459.2.1 233 (by decide))).trans (eA_c gA_sI)).trans hv470))
        obtain ⟨v472, hv472⟩ : ∃ v, eA g0 233 6 = v := ⟨_, rfl⟩
        have wv472 := HI.t6 hI0
        rw [hv472] at wv472
        have tv472 := congrArg Int32.toInt hv472
        have x473 := HI.eqA hI458 (p := 233) (j := 6) ((((eA_c (hF459.2.1 233 (by decide))).trans (eA_c gA_sI)).trans hv472))
        obtain ⟨v474, hv474⟩ : ∃ v, eA g0 233 1 = v := ⟨_, rfl⟩
        have tv474 := congrArg Int32.toInt hv474
        have wv474 := HI.t1 hI0
        rw [hv474] at wv474
        have tv474 := congrArg Int32.toInt hv474
        have x475 := HI.eqA hI458 (p := 233) (j := 1) ((((eA_c (hF459.2.1 233 (by decide))).trans (eA_c gA_sI)).trans hv474))
        have x476 := HI.eqA hI0 (p := 233) (j := 0) (hv464)
        have x477 := HI.eqA hI0 (p := 233) (j := 4) (hv468)
        have x478 := HI.eqA hI0 (p := 233) (j := 5) (hv470)
        have x479 := HI.eqA hI0 (p := 233) (j := 6) (hv472)
        have x480 := HI.eqA hI0 (p := 233) (j := 1) (hv474)
        have x481 := HI.eqA hI0 (p := 233) (j := 0) (hv464)
        exact ⟨_, rfl, hI458, hF462, _, rfl, by omega, ⟨⟨⟨by omega, by omega, by omega, by omega, by omega⟩, by omega, by omega, by omega⟩, (by intro i i0 i1; refine Eq.trans ?_ (if_neg (show ¬ ((((a2.toInt = 0 ∧ -1 ≤ a3.toInt ∧ a3.toInt ≤ 11) ∨ (a2.toInt = 1 ∧ 1 ≤ a3.toInt ∧ a3.toInt ≤ 9) ∨ (a2.toInt = 2 ∧ 0 ≤ a3.toInt ∧ a3.toInt ≤ 99)) ∧ 0 ≤ a1.toInt ∧ a1.toInt < (eA g0 233 0).toInt) ∧ i = 10 + 3 * a1.toInt + a2.toInt) from by omega)).symm; refine (eA_ti (((hF459.2.1 233 (by decide)).trans (gA_sI)))).trans ?_; (first | rfl | exact eA_ix (by omega) | omega))⟩⟩
      · have c456_ : v429.toInt ≤ 9 := en_j_gt_f c456
        refine At.enter rfl ?_
        refine r_iconst 1 rfl ?_
        refine r_goto ?_
        refine At.enter rfl ?_
        refine q_iretz (by decide) ?_
        refine At.enter rfl ?_
        refine q_iretz (by decide) ?_
        refine At.enter rfl ?_
        refine r_ift (by decide) ?_
        refine At.enter rfl ?_
        refine r_aload_n rfl ?_
        refine r_iload_n rfl ?_
        refine q_inlV 24 rfl [.ref 231, .int a1] [] (Nat.le_of_ble_eq_true rfl) rfl ?_
        refine Ev.mk rfl rfl ⟨Nat.le_of_ble_eq_true rfl, Or.inr (q_rc hI293.1 kx_231 rfl)⟩ ?_
        show At _ none _ _ (0, [(0, .ref 231), (1, .int a1)], [], (_, _)) _
        refine At.enter rfl ?_
        refine r_iload_n rfl ?_
        refine q_i2l (fun v482 hv482 => ?_)
        refine r_lconst 0 rfl ?_
        refine r_aload_n rfl ?_
        refine q_getR (Sh.ref hI293.1 kx_231 rfl) ?_
        refine r_iconst 0 rfl ?_
        obtain ⟨v483, hv483⟩ : ∃ v, eA g0 233 0 = v := ⟨_, rfl⟩
        have tv483 := congrArg Int32.toInt hv483
        have wv483 := HI.t0 hI0
        rw [hv483] at wv483
        refine q_iald (Sh.arr hI293.1 ka_233) 0 rfl (by decide) v483 ((eA_c (gA_sI)).trans hv483) ?_
        refine q_i2l (fun v484 hv484 => ?_)
        refine r_lconst 1 rfl ?_
        refine q_lsub (v484.toInt - 1) rfl (by omega) (fun v485 hv485 => ?_)
        refine q_inlS 15 rfl [.long v482, .long 0, .long v485] [] (Nat.le_of_ble_eq_true rfl) rfl ?_
        refine Ev.mk rfl rfl ⟨Nat.le_of_ble_eq_true rfl, Or.inl rfl⟩ ?_
        show At _ none _ _ (0, [(0, .long v482), (2, .long 0), (4, .long v485)], [], (_, _)) _
        refine At.enter rfl ?_
        refine r_lload_n rfl ?_
        refine r_lload_n rfl ?_
        refine r_lcmp _ rfl ?_
        refine r_ifs 6 rfl (fun c486 => ?_) (fun c486 => ?_)
        · have c486_ : v482.toInt < 0 := en_j_lt_t c486
          refine At.enter rfl ?_
          refine r_iconst 0 rfl ?_
          refine Ar.fall 18 rfl ?_
          refine At.enter rfl ?_
          refine q_iretz (by decide) ?_
          refine At.enter rfl ?_
          refine q_iretz (by decide) ?_
          refine At.enter rfl ?_
          refine r_ift (by decide) ?_
          refine At.enter rfl ?_
          refine r_aload_n rfl ?_
          refine r_bipush (-2) rfl ?_
          refine r_callV 49 rfl [.ref 231, .int (-2)] [] (Nat.le_of_ble_eq_true rfl) rfl (T_X11_tell_231 _ hI293 (-2) (by decide)) ?_
          rintro _ _ ⟨g487, rfl, hI488, hF489, v490, rfl, hr491⟩
          refine At.sti ?_
          have hF492 := Fr.tr hF294 hF489 rfl rfl
          have zv493 : ((-2) : Int32).toInt = (-2) := rfl
          refine At.enter rfl ?_
          refine r_ireti ?_
          have x494 := HI.eqA hI0 (p := 233) (j := 0) (hv483)
          have y495 := congrArg Int32.toInt hv483
          have x496 := HI.eqA hI488 (p := 233) (j := 0) ((((eA_c (hF489.2.1 233 (by decide))).trans (eA_c gA_sI)).trans hv483))
          obtain ⟨v497, hv497⟩ : ∃ v, eA g0 233 4 = v := ⟨_, rfl⟩
          have wv497 := HI.t4 hI0
          rw [hv497] at wv497
          have tv497 := congrArg Int32.toInt hv497
          have x498 := HI.eqA hI488 (p := 233) (j := 4) ((((eA_c (hF489.2.1 233 (by decide))).trans (eA_c gA_sI)).trans hv497))
          obtain ⟨v499, hv499⟩ : ∃ v, eA g0 233 5 = v := ⟨_, rfl⟩
          have wv499 := HI.t5 hI0
          rw [hv499] at wv499
          have tv499 := congrArg Int32.toInt hv499
          have x500 := HI.eqA hI488 (p := 233) (j := 5) ((((eA_c (hF489.2.1 233 (by decide))).trans (eA_c gA_sI)).trans hv499))
          obtain ⟨v501, hv501⟩ : ∃ v, eA g0 233 6 = v := ⟨_, rfl⟩
          have wv501 := HI.t6 hI0
          rw [hv501] at wv501
          have tv501 := congrArg Int32.toInt hv501
          have x502 := HI.eqA hI488 (p := 233) (j := 6) ((((eA_c (hF489.2.1 233 (by decide))).trans (eA_c gA_sI)).trans hv501))
          obtain ⟨v503, hv503⟩ : ∃ v, eA g0 233 1 = v := ⟨_, rfl⟩
          have tv503 := congrArg Int32.toInt hv503
          have wv503 := HI.t1 hI0
          rw [hv503] at wv503
          have tv503 := congrArg Int32.toInt hv503
          have x504 := HI.eqA hI488 (p := 233) (j := 1) ((((eA_c (hF489.2.1 233 (by decide))).trans (eA_c gA_sI)).trans hv503))
          have x505 := HI.eqA hI0 (p := 233) (j := 0) (hv483)
          have x506 := HI.eqA hI0 (p := 233) (j := 4) (hv497)
          have x507 := HI.eqA hI0 (p := 233) (j := 5) (hv499)
          have x508 := HI.eqA hI0 (p := 233) (j := 6) (hv501)
          have x509 := HI.eqA hI0 (p := 233) (j := 1) (hv503)
          have x510 := HI.eqA hI0 (p := 233) (j := 0) (hv483)
          exact ⟨_, rfl, hI488, hF492, _, rfl, by omega, ⟨⟨⟨by omega, by omega, by omega, by omega, by omega⟩, by omega, by omega, by omega⟩, (by intro i i0 i1; refine Eq.trans ?_ (if_neg (show ¬ ((((a2.toInt = 0 ∧ -1 ≤ a3.toInt ∧ a3.toInt ≤ 11) ∨ (a2.toInt = 1 ∧ 1 ≤ a3.toInt ∧ a3.toInt ≤ 9) ∨ (a2.toInt = 2 ∧ 0 ≤ a3.toInt ∧ a3.toInt ≤ 99)) ∧ 0 ≤ a1.toInt ∧ a1.toInt < (eA g0 233 0).toInt) ∧ i = 10 + 3 * a1.toInt + a2.toInt) from by omega)).symm; refine (eA_ti (((hF489.2.1 233 (by decide)).trans (gA_sI)))).trans ?_; (first | rfl | exact eA_ix (by omega) | omega))⟩⟩
        · have c486_ : v482.toInt ≥ 0 := en_j_lt_f c486
          refine At.enter rfl ?_
          refine r_lload_n rfl ?_
          refine r_lload rfl ?_
          refine r_lcmp _ rfl ?_
          refine r_ifs 13 rfl (fun c511 => ?_) (fun c511 => ?_)
          · have c511_ : v482.toInt > v485.toInt := en_j_gt_t c511
            refine At.enter rfl ?_
            refine r_iconst 0 rfl ?_
            refine Ar.fall 18 rfl ?_
            refine At.enter rfl ?_
            refine q_iretz (by decide) ?_
            refine At.enter rfl ?_
            refine q_iretz (by decide) ?_
            refine At.enter rfl ?_
            refine r_ift (by decide) ?_
            refine At.enter rfl ?_
            refine r_aload_n rfl ?_
            refine r_bipush (-2) rfl ?_
            refine r_callV 49 rfl [.ref 231, .int (-2)] [] (Nat.le_of_ble_eq_true rfl) rfl (T_X11_tell_231 _ hI293 (-2) (by decide)) ?_
            rintro _ _ ⟨g512, rfl, hI513, hF514, v515, rfl, hr516⟩
            refine At.sti ?_
            have hF517 := Fr.tr hF294 hF514 rfl rfl
            have zv518 : ((-2) : Int32).toInt = (-2) := rfl
            refine At.enter rfl ?_
            refine r_ireti ?_
            have x519 := HI.eqA hI0 (p := 233) (j := 0) (hv483)
            have y520 := congrArg Int32.toInt hv483
            have x521 := HI.eqA hI513 (p := 233) (j := 0) ((((eA_c (hF514.2.1 233 (by decide))).trans (eA_c gA_sI)).trans hv483))
            obtain ⟨v522, hv522⟩ : ∃ v, eA g0 233 4 = v := ⟨_, rfl⟩
            have wv522 := HI.t4 hI0
            rw [hv522] at wv522
            have tv522 := congrArg Int32.toInt hv522
            have x523 := HI.eqA hI513 (p := 233) (j := 4) ((((eA_c (hF514.2.1 233 (by decide))).trans (eA_c gA_sI)).trans hv522))
            obtain ⟨v524, hv524⟩ : ∃ v, eA g0 233 5 = v := ⟨_, rfl⟩
            have wv524 := HI.t5 hI0
            rw [hv524] at wv524
            have tv524 := congrArg Int32.toInt hv524
            have x525 := HI.eqA hI513 (p := 233) (j := 5) ((((eA_c (hF514.2.1 233 (by decide))).trans (eA_c gA_sI)).trans hv524))
            obtain ⟨v526, hv526⟩ : ∃ v, eA g0 233 6 = v := ⟨_, rfl⟩
            have wv526 := HI.t6 hI0
            rw [hv526] at wv526
            have tv526 := congrArg Int32.toInt hv526
            have x527 := HI.eqA hI513 (p := 233) (j := 6) ((((eA_c (hF514.2.1 233 (by decide))).trans (eA_c gA_sI)).trans hv526))
            obtain ⟨v528, hv528⟩ : ∃ v, eA g0 233 1 = v := ⟨_, rfl⟩
            have tv528 := congrArg Int32.toInt hv528
            have wv528 := HI.t1 hI0
            rw [hv528] at wv528
            have tv528 := congrArg Int32.toInt hv528
            have x529 := HI.eqA hI513 (p := 233) (j := 1) ((((eA_c (hF514.2.1 233 (by decide))).trans (eA_c gA_sI)).trans hv528))
            have x530 := HI.eqA hI0 (p := 233) (j := 0) (hv483)
            have x531 := HI.eqA hI0 (p := 233) (j := 4) (hv522)
            have x532 := HI.eqA hI0 (p := 233) (j := 5) (hv524)
            have x533 := HI.eqA hI0 (p := 233) (j := 6) (hv526)
            have x534 := HI.eqA hI0 (p := 233) (j := 1) (hv528)
            have x535 := HI.eqA hI0 (p := 233) (j := 0) (hv483)
            exact ⟨_, rfl, hI513, hF517, _, rfl, by omega, ⟨⟨⟨by omega, by omega, by omega, by omega, by omega⟩, by omega, by omega, by omega⟩, (by intro i i0 i1; refine Eq.trans ?_ (if_neg (show ¬ ((((a2.toInt = 0 ∧ -1 ≤ a3.toInt ∧ a3.toInt ≤ 11) ∨ (a2.toInt = 1 ∧ 1 ≤ a3.toInt ∧ a3.toInt ≤ 9) ∨ (a2.toInt = 2 ∧ 0 ≤ a3.toInt ∧ a3.toInt ≤ 99)) ∧ 0 ≤ a1.toInt ∧ a1.toInt < (eA g0 233 0).toInt) ∧ i = 10 + 3 * a1.toInt + a2.toInt) from by omega)).symm; refine (eA_ti (((hF514.2.1 233 (by decide)).trans (gA_sI)))).trans ?_; (first | rfl | exact eA_ix (by omega) | omega))⟩⟩
          · have c511_ : v482.toInt ≤ v485.toInt := en_j_gt_f c511
            refine At.enter rfl ?_
            refine r_iconst 1 rfl ?_
            refine r_goto ?_
            refine At.enter rfl ?_
            refine q_iretz (by decide) ?_
            refine At.enter rfl ?_
            refine q_iretz (by decide) ?_
            refine At.enter rfl ?_
            refine r_iff 27 rfl (by decide) ?_
            refine At.enter rfl ?_
            refine r_aload_n rfl ?_
            refine r_bipush 10 rfl ?_
            refine r_iconst 3 rfl ?_
            refine r_iload_n rfl ?_
            refine q_imul (3 * a1.toInt) rfl (by omega) (fun v536 hv536 => ?_)
            refine q_iadd (10 + v536.toInt) rfl (by omega) (fun v537 hv537 => ?_)
            refine r_iload_n rfl ?_
            refine q_iadd (v537.toInt + a2.toInt) rfl (by omega) (fun v538 hv538 => ?_)
            refine r_iload_n rfl ?_
            refine q_inlV 40 rfl [.ref 231, .int v538, .int a3] [] (Nat.le_of_ble_eq_true rfl) rfl ?_
            refine Ev.mk rfl rfl ⟨Nat.le_of_ble_eq_true rfl, Or.inr (q_rc hI293.1 kx_231 rfl)⟩ ?_
            show At _ none _ _ (0, [(0, .ref 231), (1, .int v538), (2, .int a3)], [], (_, _)) _
            refine At.enter rfl ?_
            refine r_aload_n rfl ?_
            refine q_getR (Sh.ref hI293.1 kx_231 rfl) ?_
            refine r_iload_n rfl ?_
            obtain ⟨v539, hv539⟩ : ∃ v, eA g0 233 (3 * a1.toInt + a2.toInt + 10) = v := ⟨_, rfl⟩
            have wv539 := HI.s1 hI0 (j := (3 * a1.toInt + a2.toInt + 10)) (a1.toInt) (by omega) (by omega)
            rw [hv539] at wv539
            refine q_iald (Sh.arr hI293.1 ka_233) (3 * a1.toInt + a2.toInt + 10) (by omega) (by omega) v539 ((eA_c (gA_sI)).trans hv539) ?_
            refine r_istore_n ([(3, .int v539), (0, .ref 231), (1, .int v538), (2, .int a3)]) rfl ?_
            refine r_aload_n rfl ?_
            refine q_getR (Sh.ref hI293.1 kx_231 rfl) ?_
            refine r_iload_n rfl ?_
            refine r_iload_n rfl ?_
            refine q_iast (Sh.arr hI293.1 ka_233) ((3 * a1.toInt + a2.toInt + 10)) (by omega) (by omega) ?_
            have hI540 := HI.ws hI293 (j := (3 * a1.toInt + a2.toInt + 10)) (v := a3) (a1.toInt) 1 (by omega) (by decide) (by omega) (by omega)
            have hF541 := Fr.wA (p := 233) (j := (3 * a1.toInt + a2.toInt + 10)) (v := a3) hF294 rfl
            refine r_aload_n rfl ?_
            refine r_iload_n rfl ?_
            refine q_inlV 19 rfl [.ref 231, .int v539] [] (Nat.le_of_ble_eq_true rfl) rfl ?_
            refine Ev.mk rfl rfl ⟨Nat.le_of_ble_eq_true rfl, Or.inr (q_rc hI540.1 kx_231 rfl)⟩ ?_
            show At _ none _ _ (0, [(0, .ref 231), (1, .int v539)], [], (_, _)) _
            refine At.enter rfl ?_
            refine r_aload_n rfl ?_
            refine r_iconst 0 rfl ?_
            refine q_putI (Sh.int hI540.1 kx_231 rfl) rfl ?_
            have hI542 := HI.wI0 hI540 kx_231 rfl (p := 231) (b := 1) (v := 0) rfl
            have hF543 := Fr.wI (p := 231) (b := 1) (v := 0) hF541 rfl
            refine r_iload_n rfl ?_
            refine q_ireti ?_
            refine At.enter rfl ?_
            refine q_ireti ?_
            refine At.enter rfl ?_
            refine r_goto ?_
            refine At.enter rfl ?_
            refine r_ireti ?_
            have x544 := HI.eqA hI0 (p := 233) (j := 0) (hv483)
            have y545 := congrArg Int32.toInt hv483
            have y546 := (eA_ix (g := g0) (p := 233) (show 10 + 3 * a1.toInt + a2.toInt = (3 * a1.toInt + a2.toInt + 10) from by omega)).trans (congrArg Int32.toInt hv539)
            have x547 := HI.eqA hI542 (p := 233) (j := 0) ((((eA_c gA_sI).trans ((eA_sA_ne hI293.1 ka_233 (by first | decide | omega) (by first | decide | omega) (by first | decide | omega)).trans (eA_c gA_sI))).trans hv483))
            obtain ⟨v548, hv548⟩ : ∃ v, eA g0 233 4 = v := ⟨_, rfl⟩
            have wv548 := HI.t4 hI0
            rw [hv548] at wv548
            have tv548 := congrArg Int32.toInt hv548
            have x549 := HI.eqA hI542 (p := 233) (j := 4) ((((eA_c gA_sI).trans ((eA_sA_ne hI293.1 ka_233 (by first | decide | omega) (by first | decide | omega) (by first | decide | omega)).trans (eA_c gA_sI))).trans hv548))
            obtain ⟨v550, hv550⟩ : ∃ v, eA g0 233 5 = v := ⟨_, rfl⟩
            have wv550 := HI.t5 hI0
            rw [hv550] at wv550
            have tv550 := congrArg Int32.toInt hv550
            have x551 := HI.eqA hI542 (p := 233) (j := 5) ((((eA_c gA_sI).trans ((eA_sA_ne hI293.1 ka_233 (by first | decide | omega) (by first | decide | omega) (by first | decide | omega)).trans (eA_c gA_sI))).trans hv550))
            obtain ⟨v552, hv552⟩ : ∃ v, eA g0 233 6 = v := ⟨_, rfl⟩
            have wv552 := HI.t6 hI0
            rw [hv552] at wv552
            have tv552 := congrArg Int32.toInt hv552
            have x553 := HI.eqA hI542 (p := 233) (j := 6) ((((eA_c gA_sI).trans ((eA_sA_ne hI293.1 ka_233 (by first | decide | omega) (by first | decide | omega) (by first | decide | omega)).trans (eA_c gA_sI))).trans hv552))
            obtain ⟨v554, hv554⟩ : ∃ v, eA g0 233 1 = v := ⟨_, rfl⟩
            have tv554 := congrArg Int32.toInt hv554
            have wv554 := HI.t1 hI0
            rw [hv554] at wv554
            have tv554 := congrArg Int32.toInt hv554
            have x555 := HI.eqA hI542 (p := 233) (j := 1) ((((eA_c gA_sI).trans ((eA_sA_ne hI293.1 ka_233 (by first | decide | omega) (by first | decide | omega) (by first | decide | omega)).trans (eA_c gA_sI))).trans hv554))
            have x556 := HI.eqA hI0 (p := 233) (j := 0) (hv483)
            have x557 := HI.eqA hI0 (p := 233) (j := 4) (hv548)
            have x558 := HI.eqA hI0 (p := 233) (j := 5) (hv550)
            have x559 := HI.eqA hI0 (p := 233) (j := 6) (hv552)
            have x560 := HI.eqA hI0 (p := 233) (j := 1) (hv554)
            have x561 := HI.eqA hI0 (p := 233) (j := 0) (hv483)
            exact ⟨_, rfl, hI542, hF543, _, rfl, by omega, ⟨⟨⟨by omega, by omega, by omega, by omega, by omega⟩, by omega, by omega, by omega⟩, (by intro i i0 i1; exact (Decidable.em ((((a2.toInt = 0 ∧ -1 ≤ a3.toInt ∧ a3.toInt ≤ 11) ∨ (a2.toInt = 1 ∧ 1 ≤ a3.toInt ∧ a3.toInt ≤ 9) ∨ (a2.toInt = 2 ∧ 0 ≤ a3.toInt ∧ a3.toInt ≤ 99)) ∧ 0 ≤ a1.toInt ∧ a1.toInt < (eA g0 233 0).toInt) ∧ i = 10 + 3 * a1.toInt + a2.toInt)).elim (fun k191_ => by refine Eq.trans ?_ (if_pos k191_).symm; refine (eA_ti ((gA_sI))).trans ?_; exact (Decidable.em (i = (3 * a1.toInt + a2.toInt + 10))).elim (fun k192_ => by refine (eA_eqT hI293.1 ka_233 k192_ (by first | decide | omega) (by first | decide | omega)).trans ?_; (first | (rfl) | (omega))) (fun k192_ => by refine (eA_neT hI293.1 ka_233 k192_ (by first | decide | omega) (by omega)).trans ?_; refine (eA_ti ((gA_sI))).trans ?_; (first | rfl | exact eA_ix (by omega) | omega))) (fun k191_ => by refine Eq.trans ?_ (if_neg k191_).symm; refine (eA_ti ((gA_sI))).trans ?_; exact (Decidable.em (i = (3 * a1.toInt + a2.toInt + 10))).elim (fun k193_ => by refine (eA_eqT hI293.1 ka_233 k193_ (by first | decide | omega) (by first | decide | omega)).trans ?_; (first | (rfl) | (omega))) (fun k193_ => by refine (eA_neT hI293.1 ka_233 k193_ (by first | decide | omega) (by omega)).trans ?_; refine (eA_ti ((gA_sI))).trans ?_; (first | rfl | exact eA_ix (by omega) | omega))))⟩⟩
  by_cases c295_2 : a2.toInt = 2
  · refine r_tsw 50 (by rw [c295_2]; rfl) ?_
    refine At.enter rfl ?_
    refine r_iload_n rfl ?_
    refine q_i2l (fun v562 hv562 => ?_)
    refine r_lconst 0 rfl ?_
    refine r_ldc2 99 rfl ?_
    refine q_inlS 59 rfl [.long v562, .long 0, .long 99] [] (Nat.le_of_ble_eq_true rfl) rfl ?_
    refine Ev.mk rfl rfl ⟨Nat.le_of_ble_eq_true rfl, Or.inl rfl⟩ ?_
    show At _ none _ _ (0, [(0, .long v562), (2, .long 0), (4, .long 99)], [], (_, _)) _
    refine At.enter rfl ?_
    refine r_lload_n rfl ?_
    refine r_lload_n rfl ?_
    refine r_lcmp _ rfl ?_
    refine r_ifs 6 rfl (fun c563 => ?_) (fun c563 => ?_)
    · have c563_ : v562.toInt < 0 := en_j_lt_t c563
      refine At.enter rfl ?_
      refine r_iconst 0 rfl ?_
      refine Ar.fall 18 rfl ?_
      refine At.enter rfl ?_
      refine q_iretz (by decide) ?_
      refine At.enter rfl ?_
      refine q_iretz (by decide) ?_
      refine At.enter rfl ?_
      refine r_iff 13 rfl (by decide) ?_
      refine At.enter rfl ?_
      refine r_aload_n rfl ?_
      refine r_iconst (-1) rfl ?_
      refine r_callV 18 rfl [.ref 231, .int (-1)] [] (Nat.le_of_ble_eq_true rfl) rfl (T_X11_tell_231 _ hI293 (-1) (by decide)) ?_
      rintro _ _ ⟨g564, rfl, hI565, hF566, v567, rfl, hr568⟩
      refine At.sti ?_
      have hF569 := Fr.tr hF294 hF566 rfl rfl
      have zv570 : ((-1) : Int32).toInt = (-1) := rfl
      refine At.enter rfl ?_
      refine r_ireti ?_
      obtain ⟨v571, hv571⟩ : ∃ v, eA g0 233 0 = v := ⟨_, rfl⟩
      have tv571 := congrArg Int32.toInt hv571
      have wv571 := HI.t0 hI0
      rw [hv571] at wv571
      have tv571 := congrArg Int32.toInt hv571
      have x572 := HI.eqA hI0 (p := 233) (j := 0) (hv571)
      have y573 := congrArg Int32.toInt hv571
      have x574 := HI.eqA hI565 (p := 233) (j := 0) ((((eA_c (hF566.2.1 233 (by decide))).trans (eA_c gA_sI)).trans hv571))
      obtain ⟨v575, hv575⟩ : ∃ v, eA g0 233 4 = v := ⟨_, rfl⟩
      have wv575 := HI.t4 hI0
      rw [hv575] at wv575
      have tv575 := congrArg Int32.toInt hv575
      have x576 := HI.eqA hI565 (p := 233) (j := 4) ((((eA_c (hF566.2.1 233 (by decide))).trans (eA_c gA_sI)).trans hv575))
      obtain ⟨v577, hv577⟩ : ∃ v, eA g0 233 5 = v := ⟨_, rfl⟩
      have wv577 := HI.t5 hI0
      rw [hv577] at wv577
      have tv577 := congrArg Int32.toInt hv577
      have x578 := HI.eqA hI565 (p := 233) (j := 5) ((((eA_c (hF566.2.1 233 (by decide))).trans (eA_c gA_sI)).trans hv577))
      obtain ⟨v579, hv579⟩ : ∃ v, eA g0 233 6 = v := ⟨_, rfl⟩
      have wv579 := HI.t6 hI0
      rw [hv579] at wv579
      have tv579 := congrArg Int32.toInt hv579
      have x580 := HI.eqA hI565 (p := 233) (j := 6) ((((eA_c (hF566.2.1 233 (by decide))).trans (eA_c gA_sI)).trans hv579))
      obtain ⟨v581, hv581⟩ : ∃ v, eA g0 233 1 = v := ⟨_, rfl⟩
      have tv581 := congrArg Int32.toInt hv581
      have wv581 := HI.t1 hI0
      rw [hv581] at wv581
      have tv581 := congrArg Int32.toInt hv581
      have x582 := HI.eqA hI565 (p := 233) (j := 1) ((((eA_c (hF566.2.1 233 (by decide))).trans (eA_c gA_sI)).trans hv581))
      have x583 := HI.eqA hI0 (p := 233) (j := 0) (hv571)
      have x584 := HI.eqA hI0 (p := 233) (j := 4) (hv575)
      have x585 := HI.eqA hI0 (p := 233) (j := 5) (hv577)
      have x586 := HI.eqA hI0 (p := 233) (j := 6) (hv579)
      have x587 := HI.eqA hI0 (p := 233) (j := 1) (hv581)
      have x588 := HI.eqA hI0 (p := 233) (j := 0) (hv571)
      exact ⟨_, rfl, hI565, hF569, _, rfl, by omega, ⟨⟨⟨by omega, by omega, by omega, by omega, by omega⟩, by omega, by omega, by omega⟩, (by intro i i0 i1; refine Eq.trans ?_ (if_neg (show ¬ ((((a2.toInt = 0 ∧ -1 ≤ a3.toInt ∧ a3.toInt ≤ 11) ∨ (a2.toInt = 1 ∧ 1 ≤ a3.toInt ∧ a3.toInt ≤ 9) ∨ (a2.toInt = 2 ∧ 0 ≤ a3.toInt ∧ a3.toInt ≤ 99)) ∧ 0 ≤ a1.toInt ∧ a1.toInt < (eA g0 233 0).toInt) ∧ i = 10 + 3 * a1.toInt + a2.toInt) from by omega)).symm; refine (eA_ti (((hF566.2.1 233 (by decide)).trans (gA_sI)))).trans ?_; (first | rfl | exact eA_ix (by omega) | omega))⟩⟩
    · have c563_ : v562.toInt ≥ 0 := en_j_lt_f c563
      refine At.enter rfl ?_
      refine r_lload_n rfl ?_
      refine r_lload rfl ?_
      refine r_lcmp _ rfl ?_
      refine r_ifs 13 rfl (fun c589 => ?_) (fun c589 => ?_)
      · have c589_ : v562.toInt > 99 := en_j_gt_t c589
        refine At.enter rfl ?_
        refine r_iconst 0 rfl ?_
        refine Ar.fall 18 rfl ?_
        refine At.enter rfl ?_
        refine q_iretz (by decide) ?_
        refine At.enter rfl ?_
        refine q_iretz (by decide) ?_
        refine At.enter rfl ?_
        refine r_iff 13 rfl (by decide) ?_
        refine At.enter rfl ?_
        refine r_aload_n rfl ?_
        refine r_iconst (-1) rfl ?_
        refine r_callV 18 rfl [.ref 231, .int (-1)] [] (Nat.le_of_ble_eq_true rfl) rfl (T_X11_tell_231 _ hI293 (-1) (by decide)) ?_
        rintro _ _ ⟨g590, rfl, hI591, hF592, v593, rfl, hr594⟩
        refine At.sti ?_
        have hF595 := Fr.tr hF294 hF592 rfl rfl
        have zv596 : ((-1) : Int32).toInt = (-1) := rfl
        refine At.enter rfl ?_
        refine r_ireti ?_
        obtain ⟨v597, hv597⟩ : ∃ v, eA g0 233 0 = v := ⟨_, rfl⟩
        have tv597 := congrArg Int32.toInt hv597
        have wv597 := HI.t0 hI0
        rw [hv597] at wv597
        have tv597 := congrArg Int32.toInt hv597
        have x598 := HI.eqA hI0 (p := 233) (j := 0) (hv597)
        have y599 := congrArg Int32.toInt hv597
        have x600 := HI.eqA hI591 (p := 233) (j := 0) ((((eA_c (hF592.2.1 233 (by decide))).trans (eA_c gA_sI)).trans hv597))
        obtain ⟨v601, hv601⟩ : ∃ v, eA g0 233 4 = v := ⟨_, rfl⟩
        have wv601 := HI.t4 hI0
        rw [hv601] at wv601
        have tv601 := congrArg Int32.toInt hv601
        have x602 := HI.eqA hI591 (p := 233) (j := 4) ((((eA_c (hF592.2.1 233 (by decide))).trans (eA_c gA_sI)).trans hv601))
        obtain ⟨v603, hv603⟩ : ∃ v, eA g0 233 5 = v := ⟨_, rfl⟩
        have wv603 := HI.t5 hI0
        rw [hv603] at wv603
        have tv603 := congrArg Int32.toInt hv603
        have x604 := HI.eqA hI591 (p := 233) (j := 5) ((((eA_c (hF592.2.1 233 (by decide))).trans (eA_c gA_sI)).trans hv603))
        obtain ⟨v605, hv605⟩ : ∃ v, eA g0 233 6 = v := ⟨_, rfl⟩
        have wv605 := HI.t6 hI0
        rw [hv605] at wv605
        have tv605 := congrArg Int32.toInt hv605
        have x606 := HI.eqA hI591 (p := 233) (j := 6) ((((eA_c (hF592.2.1 233 (by decide))).trans (eA_c gA_sI)).trans hv605))
        obtain ⟨v607, hv607⟩ : ∃ v, eA g0 233 1 = v := ⟨_, rfl⟩
        have tv607 := congrArg Int32.toInt hv607
        have wv607 := HI.t1 hI0
        rw [hv607] at wv607
        have tv607 := congrArg Int32.toInt hv607
        have x608 := HI.eqA hI591 (p := 233) (j := 1) ((((eA_c (hF592.2.1 233 (by decide))).trans (eA_c gA_sI)).trans hv607))
        have x609 := HI.eqA hI0 (p := 233) (j := 0) (hv597)
        have x610 := HI.eqA hI0 (p := 233) (j := 4) (hv601)
        have x611 := HI.eqA hI0 (p := 233) (j := 5) (hv603)
        have x612 := HI.eqA hI0 (p := 233) (j := 6) (hv605)
        have x613 := HI.eqA hI0 (p := 233) (j := 1) (hv607)
        have x614 := HI.eqA hI0 (p := 233) (j := 0) (hv597)
        exact ⟨_, rfl, hI591, hF595, _, rfl, by omega, ⟨⟨⟨by omega, by omega, by omega, by omega, by omega⟩, by omega, by omega, by omega⟩, (by intro i i0 i1; refine Eq.trans ?_ (if_neg (show ¬ ((((a2.toInt = 0 ∧ -1 ≤ a3.toInt ∧ a3.toInt ≤ 11) ∨ (a2.toInt = 1 ∧ 1 ≤ a3.toInt ∧ a3.toInt ≤ 9) ∨ (a2.toInt = 2 ∧ 0 ≤ a3.toInt ∧ a3.toInt ≤ 99)) ∧ 0 ≤ a1.toInt ∧ a1.toInt < (eA g0 233 0).toInt) ∧ i = 10 + 3 * a1.toInt + a2.toInt) from by omega)).symm; refine (eA_ti (((hF592.2.1 233 (by decide)).trans (gA_sI)))).trans ?_; (first | rfl | exact eA_ix (by omega) | omega))⟩⟩
      · have c589_ : v562.toInt ≤ 99 := en_j_gt_f c589
        refine At.enter rfl ?_
        refine r_iconst 1 rfl ?_
        refine r_goto ?_
        refine At.enter rfl ?_
        refine q_iretz (by decide) ?_
        refine At.enter rfl ?_
        refine q_iretz (by decide) ?_
        refine At.enter rfl ?_
        refine r_ift (by decide) ?_
        refine At.enter rfl ?_
        refine r_aload_n rfl ?_
        refine r_iload_n rfl ?_
        refine q_inlV 24 rfl [.ref 231, .int a1] [] (Nat.le_of_ble_eq_true rfl) rfl ?_
        refine Ev.mk rfl rfl ⟨Nat.le_of_ble_eq_true rfl, Or.inr (q_rc hI293.1 kx_231 rfl)⟩ ?_
        show At _ none _ _ (0, [(0, .ref 231), (1, .int a1)], [], (_, _)) _
        refine At.enter rfl ?_
        refine r_iload_n rfl ?_
        refine q_i2l (fun v615 hv615 => ?_)
        refine r_lconst 0 rfl ?_
        refine r_aload_n rfl ?_
        refine q_getR (Sh.ref hI293.1 kx_231 rfl) ?_
        refine r_iconst 0 rfl ?_
        obtain ⟨v616, hv616⟩ : ∃ v, eA g0 233 0 = v := ⟨_, rfl⟩
        have tv616 := congrArg Int32.toInt hv616
        have wv616 := HI.t0 hI0
        rw [hv616] at wv616
        refine q_iald (Sh.arr hI293.1 ka_233) 0 rfl (by decide) v616 ((eA_c (gA_sI)).trans hv616) ?_
        refine q_i2l (fun v617 hv617 => ?_)
        refine r_lconst 1 rfl ?_
        refine q_lsub (v617.toInt - 1) rfl (by omega) (fun v618 hv618 => ?_)
        refine q_inlS 15 rfl [.long v615, .long 0, .long v618] [] (Nat.le_of_ble_eq_true rfl) rfl ?_
        refine Ev.mk rfl rfl ⟨Nat.le_of_ble_eq_true rfl, Or.inl rfl⟩ ?_
        show At _ none _ _ (0, [(0, .long v615), (2, .long 0), (4, .long v618)], [], (_, _)) _
        refine At.enter rfl ?_
        refine r_lload_n rfl ?_
        refine r_lload_n rfl ?_
        refine r_lcmp _ rfl ?_
        refine r_ifs 6 rfl (fun c619 => ?_) (fun c619 => ?_)
        · have c619_ : v615.toInt < 0 := en_j_lt_t c619
          refine At.enter rfl ?_
          refine r_iconst 0 rfl ?_
          refine Ar.fall 18 rfl ?_
          refine At.enter rfl ?_
          refine q_iretz (by decide) ?_
          refine At.enter rfl ?_
          refine q_iretz (by decide) ?_
          refine At.enter rfl ?_
          refine r_ift (by decide) ?_
          refine At.enter rfl ?_
          refine r_aload_n rfl ?_
          refine r_bipush (-2) rfl ?_
          refine r_callV 49 rfl [.ref 231, .int (-2)] [] (Nat.le_of_ble_eq_true rfl) rfl (T_X11_tell_231 _ hI293 (-2) (by decide)) ?_
          rintro _ _ ⟨g620, rfl, hI621, hF622, v623, rfl, hr624⟩
          refine At.sti ?_
          have hF625 := Fr.tr hF294 hF622 rfl rfl
          have zv626 : ((-2) : Int32).toInt = (-2) := rfl
          refine At.enter rfl ?_
          refine r_ireti ?_
          have x627 := HI.eqA hI0 (p := 233) (j := 0) (hv616)
          have y628 := congrArg Int32.toInt hv616
          have x629 := HI.eqA hI621 (p := 233) (j := 0) ((((eA_c (hF622.2.1 233 (by decide))).trans (eA_c gA_sI)).trans hv616))
          obtain ⟨v630, hv630⟩ : ∃ v, eA g0 233 4 = v := ⟨_, rfl⟩
          have wv630 := HI.t4 hI0
          rw [hv630] at wv630
          have tv630 := congrArg Int32.toInt hv630
          have x631 := HI.eqA hI621 (p := 233) (j := 4) ((((eA_c (hF622.2.1 233 (by decide))).trans (eA_c gA_sI)).trans hv630))
          obtain ⟨v632, hv632⟩ : ∃ v, eA g0 233 5 = v := ⟨_, rfl⟩
          have wv632 := HI.t5 hI0
          rw [hv632] at wv632
          have tv632 := congrArg Int32.toInt hv632
          have x633 := HI.eqA hI621 (p := 233) (j := 5) ((((eA_c (hF622.2.1 233 (by decide))).trans (eA_c gA_sI)).trans hv632))
          obtain ⟨v634, hv634⟩ : ∃ v, eA g0 233 6 = v := ⟨_, rfl⟩
          have wv634 := HI.t6 hI0
          rw [hv634] at wv634
          have tv634 := congrArg Int32.toInt hv634
          have x635 := HI.eqA hI621 (p := 233) (j := 6) ((((eA_c (hF622.2.1 233 (by decide))).trans (eA_c gA_sI)).trans hv634))
          obtain ⟨v636, hv636⟩ : ∃ v, eA g0 233 1 = v := ⟨_, rfl⟩
          have tv636 := congrArg Int32.toInt hv636
          have wv636 := HI.t1 hI0
          rw [hv636] at wv636
          have tv636 := congrArg Int32.toInt hv636
          have x637 := HI.eqA hI621 (p := 233) (j := 1) ((((eA_c (hF622.2.1 233 (by decide))).trans (eA_c gA_sI)).trans hv636))
          have x638 := HI.eqA hI0 (p := 233) (j := 0) (hv616)
          have x639 := HI.eqA hI0 (p := 233) (j := 4) (hv630)
          have x640 := HI.eqA hI0 (p := 233) (j := 5) (hv632)
          have x641 := HI.eqA hI0 (p := 233) (j := 6) (hv634)
          have x642 := HI.eqA hI0 (p := 233) (j := 1) (hv636)
          have x643 := HI.eqA hI0 (p := 233) (j := 0) (hv616)
          exact ⟨_, rfl, hI621, hF625, _, rfl, by omega, ⟨⟨⟨by omega, by omega, by omega, by omega, by omega⟩, by omega, by omega, by omega⟩, (by intro i i0 i1; refine Eq.trans ?_ (if_neg (show ¬ ((((a2.toInt = 0 ∧ -1 ≤ a3.toInt ∧ a3.toInt ≤ 11) ∨ (a2.toInt = 1 ∧ 1 ≤ a3.toInt ∧ a3.toInt ≤ 9) ∨ (a2.toInt = 2 ∧ 0 ≤ a3.toInt ∧ a3.toInt ≤ 99)) ∧ 0 ≤ a1.toInt ∧ a1.toInt < (eA g0 233 0).toInt) ∧ i = 10 + 3 * a1.toInt + a2.toInt) from by omega)).symm; refine (eA_ti (((hF622.2.1 233 (by decide)).trans (gA_sI)))).trans ?_; (first | rfl | exact eA_ix (by omega) | omega))⟩⟩
        · have c619_ : v615.toInt ≥ 0 := en_j_lt_f c619
          refine At.enter rfl ?_
          refine r_lload_n rfl ?_
          refine r_lload rfl ?_
          refine r_lcmp _ rfl ?_
          refine r_ifs 13 rfl (fun c644 => ?_) (fun c644 => ?_)
          · have c644_ : v615.toInt > v618.toInt := en_j_gt_t c644
            refine At.enter rfl ?_
            refine r_iconst 0 rfl ?_
            refine Ar.fall 18 rfl ?_
            refine At.enter rfl ?_
            refine q_iretz (by decide) ?_
            refine At.enter rfl ?_
            refine q_iretz (by decide) ?_
            refine At.enter rfl ?_
            refine r_ift (by decide) ?_
            refine At.enter rfl ?_
            refine r_aload_n rfl ?_
            refine r_bipush (-2) rfl ?_
            refine r_callV 49 rfl [.ref 231, .int (-2)] [] (Nat.le_of_ble_eq_true rfl) rfl (T_X11_tell_231 _ hI293 (-2) (by decide)) ?_
            rintro _ _ ⟨g645, rfl, hI646, hF647, v648, rfl, hr649⟩
            refine At.sti ?_
            have hF650 := Fr.tr hF294 hF647 rfl rfl
            have zv651 : ((-2) : Int32).toInt = (-2) := rfl
            refine At.enter rfl ?_
            refine r_ireti ?_
            have x652 := HI.eqA hI0 (p := 233) (j := 0) (hv616)
            have y653 := congrArg Int32.toInt hv616
            have x654 := HI.eqA hI646 (p := 233) (j := 0) ((((eA_c (hF647.2.1 233 (by decide))).trans (eA_c gA_sI)).trans hv616))
            obtain ⟨v655, hv655⟩ : ∃ v, eA g0 233 4 = v := ⟨_, rfl⟩
            have wv655 := HI.t4 hI0
            rw [hv655] at wv655
            have tv655 := congrArg Int32.toInt hv655
            have x656 := HI.eqA hI646 (p := 233) (j := 4) ((((eA_c (hF647.2.1 233 (by decide))).trans (eA_c gA_sI)).trans hv655))
            obtain ⟨v657, hv657⟩ : ∃ v, eA g0 233 5 = v := ⟨_, rfl⟩
            have wv657 := HI.t5 hI0
            rw [hv657] at wv657
            have tv657 := congrArg Int32.toInt hv657
            have x658 := HI.eqA hI646 (p := 233) (j := 5) ((((eA_c (hF647.2.1 233 (by decide))).trans (eA_c gA_sI)).trans hv657))
            obtain ⟨v659, hv659⟩ : ∃ v, eA g0 233 6 = v := ⟨_, rfl⟩
            have wv659 := HI.t6 hI0
            rw [hv659] at wv659
            have tv659 := congrArg Int32.toInt hv659
            have x660 := HI.eqA hI646 (p := 233) (j := 6) ((((eA_c (hF647.2.1 233 (by decide))).trans (eA_c gA_sI)).trans hv659))
            obtain ⟨v661, hv661⟩ : ∃ v, eA g0 233 1 = v := ⟨_, rfl⟩
            have tv661 := congrArg Int32.toInt hv661
            have wv661 := HI.t1 hI0
            rw [hv661] at wv661
            have tv661 := congrArg Int32.toInt hv661
            have x662 := HI.eqA hI646 (p := 233) (j := 1) ((((eA_c (hF647.2.1 233 (by decide))).trans (eA_c gA_sI)).trans hv661))
            have x663 := HI.eqA hI0 (p := 233) (j := 0) (hv616)
            have x664 := HI.eqA hI0 (p := 233) (j := 4) (hv655)
            have x665 := HI.eqA hI0 (p := 233) (j := 5) (hv657)
            have x666 := HI.eqA hI0 (p := 233) (j := 6) (hv659)
            have x667 := HI.eqA hI0 (p := 233) (j := 1) (hv661)
            have x668 := HI.eqA hI0 (p := 233) (j := 0) (hv616)
            exact ⟨_, rfl, hI646, hF650, _, rfl, by omega, ⟨⟨⟨by omega, by omega, by omega, by omega, by omega⟩, by omega, by omega, by omega⟩, (by intro i i0 i1; refine Eq.trans ?_ (if_neg (show ¬ ((((a2.toInt = 0 ∧ -1 ≤ a3.toInt ∧ a3.toInt ≤ 11) ∨ (a2.toInt = 1 ∧ 1 ≤ a3.toInt ∧ a3.toInt ≤ 9) ∨ (a2.toInt = 2 ∧ 0 ≤ a3.toInt ∧ a3.toInt ≤ 99)) ∧ 0 ≤ a1.toInt ∧ a1.toInt < (eA g0 233 0).toInt) ∧ i = 10 + 3 * a1.toInt + a2.toInt) from by omega)).symm; refine (eA_ti (((hF647.2.1 233 (by decide)).trans (gA_sI)))).trans ?_; (first | rfl | exact eA_ix (by omega) | omega))⟩⟩
          · have c644_ : v615.toInt ≤ v618.toInt := en_j_gt_f c644
            refine At.enter rfl ?_
            refine r_iconst 1 rfl ?_
            refine r_goto ?_
            refine At.enter rfl ?_
            refine q_iretz (by decide) ?_
            refine At.enter rfl ?_
            refine q_iretz (by decide) ?_
            refine At.enter rfl ?_
            refine r_iff 27 rfl (by decide) ?_
            refine At.enter rfl ?_
            refine r_aload_n rfl ?_
            refine r_bipush 10 rfl ?_
            refine r_iconst 3 rfl ?_
            refine r_iload_n rfl ?_
            refine q_imul (3 * a1.toInt) rfl (by omega) (fun v669 hv669 => ?_)
            refine q_iadd (10 + v669.toInt) rfl (by omega) (fun v670 hv670 => ?_)
            refine r_iload_n rfl ?_
            refine q_iadd (v670.toInt + a2.toInt) rfl (by omega) (fun v671 hv671 => ?_)
            refine r_iload_n rfl ?_
            refine q_inlV 40 rfl [.ref 231, .int v671, .int a3] [] (Nat.le_of_ble_eq_true rfl) rfl ?_
            refine Ev.mk rfl rfl ⟨Nat.le_of_ble_eq_true rfl, Or.inr (q_rc hI293.1 kx_231 rfl)⟩ ?_
            show At _ none _ _ (0, [(0, .ref 231), (1, .int v671), (2, .int a3)], [], (_, _)) _
            refine At.enter rfl ?_
            refine r_aload_n rfl ?_
            refine q_getR (Sh.ref hI293.1 kx_231 rfl) ?_
            refine r_iload_n rfl ?_
            obtain ⟨v672, hv672⟩ : ∃ v, eA g0 233 (3 * a1.toInt + a2.toInt + 10) = v := ⟨_, rfl⟩
            have wv672 := HI.s2 hI0 (j := (3 * a1.toInt + a2.toInt + 10)) (a1.toInt) (by omega) (by omega)
            rw [hv672] at wv672
            refine q_iald (Sh.arr hI293.1 ka_233) (3 * a1.toInt + a2.toInt + 10) (by omega) (by omega) v672 ((eA_c (gA_sI)).trans hv672) ?_
            refine r_istore_n ([(3, .int v672), (0, .ref 231), (1, .int v671), (2, .int a3)]) rfl ?_
            refine r_aload_n rfl ?_
            refine q_getR (Sh.ref hI293.1 kx_231 rfl) ?_
            refine r_iload_n rfl ?_
            refine r_iload_n rfl ?_
            refine q_iast (Sh.arr hI293.1 ka_233) ((3 * a1.toInt + a2.toInt + 10)) (by omega) (by omega) ?_
            have hI673 := HI.ws hI293 (j := (3 * a1.toInt + a2.toInt + 10)) (v := a3) (a1.toInt) 2 (by omega) (by decide) (by omega) (by omega)
            have hF674 := Fr.wA (p := 233) (j := (3 * a1.toInt + a2.toInt + 10)) (v := a3) hF294 rfl
            refine r_aload_n rfl ?_
            refine r_iload_n rfl ?_
            refine q_inlV 19 rfl [.ref 231, .int v672] [] (Nat.le_of_ble_eq_true rfl) rfl ?_
            refine Ev.mk rfl rfl ⟨Nat.le_of_ble_eq_true rfl, Or.inr (q_rc hI673.1 kx_231 rfl)⟩ ?_
            show At _ none _ _ (0, [(0, .ref 231), (1, .int v672)], [], (_, _)) _
            refine At.enter rfl ?_
            refine r_aload_n rfl ?_
            refine r_iconst 0 rfl ?_
            refine q_putI (Sh.int hI673.1 kx_231 rfl) rfl ?_
            have hI675 := HI.wI0 hI673 kx_231 rfl (p := 231) (b := 1) (v := 0) rfl
            have hF676 := Fr.wI (p := 231) (b := 1) (v := 0) hF674 rfl
            refine r_iload_n rfl ?_
            refine q_ireti ?_
            refine At.enter rfl ?_
            refine q_ireti ?_
            refine At.enter rfl ?_
            refine r_goto ?_
            refine At.enter rfl ?_
            refine r_ireti ?_
            have x677 := HI.eqA hI0 (p := 233) (j := 0) (hv616)
            have y678 := congrArg Int32.toInt hv616
            have y679 := (eA_ix (g := g0) (p := 233) (show 10 + 3 * a1.toInt + a2.toInt = (3 * a1.toInt + a2.toInt + 10) from by omega)).trans (congrArg Int32.toInt hv672)
            have x680 := HI.eqA hI675 (p := 233) (j := 0) ((((eA_c gA_sI).trans ((eA_sA_ne hI293.1 ka_233 (by first | decide | omega) (by first | decide | omega) (by first | decide | omega)).trans (eA_c gA_sI))).trans hv616))
            obtain ⟨v681, hv681⟩ : ∃ v, eA g0 233 4 = v := ⟨_, rfl⟩
            have wv681 := HI.t4 hI0
            rw [hv681] at wv681
            have tv681 := congrArg Int32.toInt hv681
            have x682 := HI.eqA hI675 (p := 233) (j := 4) ((((eA_c gA_sI).trans ((eA_sA_ne hI293.1 ka_233 (by first | decide | omega) (by first | decide | omega) (by first | decide | omega)).trans (eA_c gA_sI))).trans hv681))
            obtain ⟨v683, hv683⟩ : ∃ v, eA g0 233 5 = v := ⟨_, rfl⟩
            have wv683 := HI.t5 hI0
            rw [hv683] at wv683
            have tv683 := congrArg Int32.toInt hv683
            have x684 := HI.eqA hI675 (p := 233) (j := 5) ((((eA_c gA_sI).trans ((eA_sA_ne hI293.1 ka_233 (by first | decide | omega) (by first | decide | omega) (by first | decide | omega)).trans (eA_c gA_sI))).trans hv683))
            obtain ⟨v685, hv685⟩ : ∃ v, eA g0 233 6 = v := ⟨_, rfl⟩
            have wv685 := HI.t6 hI0
            rw [hv685] at wv685
            have tv685 := congrArg Int32.toInt hv685
            have x686 := HI.eqA hI675 (p := 233) (j := 6) ((((eA_c gA_sI).trans ((eA_sA_ne hI293.1 ka_233 (by first | decide | omega) (by first | decide | omega) (by first | decide | omega)).trans (eA_c gA_sI))).trans hv685))
            obtain ⟨v687, hv687⟩ : ∃ v, eA g0 233 1 = v := ⟨_, rfl⟩
            have tv687 := congrArg Int32.toInt hv687
            have wv687 := HI.t1 hI0
            rw [hv687] at wv687
            have tv687 := congrArg Int32.toInt hv687
            have x688 := HI.eqA hI675 (p := 233) (j := 1) ((((eA_c gA_sI).trans ((eA_sA_ne hI293.1 ka_233 (by first | decide | omega) (by first | decide | omega) (by first | decide | omega)).trans (eA_c gA_sI))).trans hv687))
            have x689 := HI.eqA hI0 (p := 233) (j := 0) (hv616)
            have x690 := HI.eqA hI0 (p := 233) (j := 4) (hv681)
            have x691 := HI.eqA hI0 (p := 233) (j := 5) (hv683)
            have x692 := HI.eqA hI0 (p := 233) (j := 6) (hv685)
            have x693 := HI.eqA hI0 (p := 233) (j := 1) (hv687)
            have x694 := HI.eqA hI0 (p := 233) (j := 0) (hv616)
            exact ⟨_, rfl, hI675, hF676, _, rfl, by omega, ⟨⟨⟨by omega, by omega, by omega, by omega, by omega⟩, by omega, by omega, by omega⟩, (by intro i i0 i1; exact (Decidable.em ((((a2.toInt = 0 ∧ -1 ≤ a3.toInt ∧ a3.toInt ≤ 11) ∨ (a2.toInt = 1 ∧ 1 ≤ a3.toInt ∧ a3.toInt ≤ 9) ∨ (a2.toInt = 2 ∧ 0 ≤ a3.toInt ∧ a3.toInt ≤ 99)) ∧ 0 ≤ a1.toInt ∧ a1.toInt < (eA g0 233 0).toInt) ∧ i = 10 + 3 * a1.toInt + a2.toInt)).elim (fun k194_ => by refine Eq.trans ?_ (if_pos k194_).symm; refine (eA_ti ((gA_sI))).trans ?_; exact (Decidable.em (i = (3 * a1.toInt + a2.toInt + 10))).elim (fun k195_ => by refine (eA_eqT hI293.1 ka_233 k195_ (by first | decide | omega) (by first | decide | omega)).trans ?_; (first | (rfl) | (omega))) (fun k195_ => by refine (eA_neT hI293.1 ka_233 k195_ (by first | decide | omega) (by omega)).trans ?_; refine (eA_ti ((gA_sI))).trans ?_; (first | rfl | exact eA_ix (by omega) | omega))) (fun k194_ => by refine Eq.trans ?_ (if_neg k194_).symm; refine (eA_ti ((gA_sI))).trans ?_; exact (Decidable.em (i = (3 * a1.toInt + a2.toInt + 10))).elim (fun k196_ => by refine (eA_eqT hI293.1 ka_233 k196_ (by first | decide | omega) (by first | decide | omega)).trans ?_; (first | (rfl) | (omega))) (fun k196_ => by refine (eA_neT hI293.1 ka_233 k196_ (by first | decide | omega) (by omega)).trans ?_; refine (eA_ti ((gA_sI))).trans ?_; (first | rfl | exact eA_ix (by omega) | omega))))⟩⟩
  have c695 : a2.toInt < 0 ∨ 2 < a2.toInt := by omega
  refine r_tsw 60 (by unfold en_sw; rw [if_pos c695]; rfl) ?_
  refine At.enter rfl ?_
  refine r_iconst 0 rfl ?_
  refine q_iretz (by decide) ?_
  refine At.enter rfl ?_
  refine r_iff 13 rfl (by decide) ?_
  refine At.enter rfl ?_
  refine r_aload_n rfl ?_
  refine r_iconst (-1) rfl ?_
  refine r_callV 18 rfl [.ref 231, .int (-1)] [] (Nat.le_of_ble_eq_true rfl) rfl (T_X11_tell_231 _ hI293 (-1) (by decide)) ?_
  rintro _ _ ⟨g696, rfl, hI697, hF698, v699, rfl, hr700⟩
  refine At.sti ?_
  have hF701 := Fr.tr hF294 hF698 rfl rfl
  have zv702 : ((-1) : Int32).toInt = (-1) := rfl
  refine At.enter rfl ?_
  refine r_ireti ?_
  obtain ⟨v703, hv703⟩ : ∃ v, eA g0 233 0 = v := ⟨_, rfl⟩
  have tv703 := congrArg Int32.toInt hv703
  have wv703 := HI.t0 hI0
  rw [hv703] at wv703
  have tv703 := congrArg Int32.toInt hv703
  have x704 := HI.eqA hI0 (p := 233) (j := 0) (hv703)
  have y705 := congrArg Int32.toInt hv703
  have x706 := HI.eqA hI697 (p := 233) (j := 0) ((((eA_c (hF698.2.1 233 (by decide))).trans (eA_c gA_sI)).trans hv703))
  obtain ⟨v707, hv707⟩ : ∃ v, eA g0 233 4 = v := ⟨_, rfl⟩
  have wv707 := HI.t4 hI0
  rw [hv707] at wv707
  have tv707 := congrArg Int32.toInt hv707
  have x708 := HI.eqA hI697 (p := 233) (j := 4) ((((eA_c (hF698.2.1 233 (by decide))).trans (eA_c gA_sI)).trans hv707))
  obtain ⟨v709, hv709⟩ : ∃ v, eA g0 233 5 = v := ⟨_, rfl⟩
  have wv709 := HI.t5 hI0
  rw [hv709] at wv709
  have tv709 := congrArg Int32.toInt hv709
  have x710 := HI.eqA hI697 (p := 233) (j := 5) ((((eA_c (hF698.2.1 233 (by decide))).trans (eA_c gA_sI)).trans hv709))
  obtain ⟨v711, hv711⟩ : ∃ v, eA g0 233 6 = v := ⟨_, rfl⟩
  have wv711 := HI.t6 hI0
  rw [hv711] at wv711
  have tv711 := congrArg Int32.toInt hv711
  have x712 := HI.eqA hI697 (p := 233) (j := 6) ((((eA_c (hF698.2.1 233 (by decide))).trans (eA_c gA_sI)).trans hv711))
  obtain ⟨v713, hv713⟩ : ∃ v, eA g0 233 1 = v := ⟨_, rfl⟩
  have tv713 := congrArg Int32.toInt hv713
  have wv713 := HI.t1 hI0
  rw [hv713] at wv713
  have tv713 := congrArg Int32.toInt hv713
  have x714 := HI.eqA hI697 (p := 233) (j := 1) ((((eA_c (hF698.2.1 233 (by decide))).trans (eA_c gA_sI)).trans hv713))
  have x715 := HI.eqA hI0 (p := 233) (j := 0) (hv703)
  have x716 := HI.eqA hI0 (p := 233) (j := 4) (hv707)
  have x717 := HI.eqA hI0 (p := 233) (j := 5) (hv709)
  have x718 := HI.eqA hI0 (p := 233) (j := 6) (hv711)
  have x719 := HI.eqA hI0 (p := 233) (j := 1) (hv713)
  have x720 := HI.eqA hI0 (p := 233) (j := 0) (hv703)
  exact ⟨_, rfl, hI697, hF701, _, rfl, by omega, ⟨⟨⟨by omega, by omega, by omega, by omega, by omega⟩, by omega, by omega, by omega⟩, (by intro i i0 i1; refine Eq.trans ?_ (if_neg (show ¬ ((((a2.toInt = 0 ∧ -1 ≤ a3.toInt ∧ a3.toInt ≤ 11) ∨ (a2.toInt = 1 ∧ 1 ≤ a3.toInt ∧ a3.toInt ≤ 9) ∨ (a2.toInt = 2 ∧ 0 ≤ a3.toInt ∧ a3.toInt ≤ 99)) ∧ 0 ≤ a1.toInt ∧ a1.toInt < (eA g0 233 0).toInt) ∧ i = 10 + 3 * a1.toInt + a2.toInt) from by omega)).symm; refine (eA_ti (((hF698.2.1 233 (by decide)).trans (gA_sI)))).trans ?_; (first | rfl | exact eA_ix (by omega) | omega))⟩⟩
