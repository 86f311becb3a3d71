def F_X11_put_231 : List (Nat × Nat) := [(231, 0), (231, 1)]
def A_X11_put_231 : List Nat := [232, 233]
set_option maxRecDepth 100000 in
set_option maxHeartbeats 4000000 in
theorem T_X11_put_231 (d : Nat) {N : Nat} {g0 : List en_E} (hI0 : HI g0) (a1 : Int32) (a2 : Int32) (a3 : Int32) : Ev (d + 3) 173 [.ref 231, .int a1, .int a2, .int a3] (g0, N) (fun w h' => ∃ g', h' = (g', N) ∧ HI g' ∧ Fr F_X11_put_231 A_X11_put_231 g0 g' ∧ ∃ r : Int32, w = some (.int r) ∧ ((-2) ≤ r.toInt ∧ r.toInt ≤ 99) ∧ ((eA g' 233 0).toInt = (eA g0 233 0).toInt ∧ (eA g' 233 4).toInt = (eA g0 233 4).toInt ∧ (eA g' 233 5).toInt = (eA g0 233 5).toInt ∧ (eA g' 233 6).toInt = (eA g0 233 6).toInt ∧ (eA g' 233 2).toInt = (eA g0 233 2).toInt ∧ (eA g' 233 3).toInt = (eA g0 233 3).toInt)) := by
  have hF0 : Fr F_X11_put_231 A_X11_put_231 g0 g0 := Fr.rf
  refine Ev.mk rfl rfl ⟨Nat.le_of_ble_eq_true rfl, Or.inr (q_rc hI0.1 kx_231 rfl)⟩ ?_
  show At _ none _ _ (0, [(0, .ref 231), (1, .int a1), (2, .int a2), (3, .int a3)], [], (_, _)) _
  refine At.enter rfl ?_
  refine r_aload_n rfl ?_
  refine r_iconst 0 rfl ?_
  refine q_putI (Sh.int hI0.1 kx_231 rfl) rfl ?_
  have hI293 := HI.wI0 hI0 kx_231 rfl (p := 231) (b := 0) (v := 0) rfl
  have hF294 := Fr.wI (p := 231) (b := 0) (v := 0) hF0 rfl
  refine r_iload_n rfl ?_
  refine r_iload_n rfl ?_
  refine q_inlS 10 rfl [.int a2, .int a3] [] (Nat.le_of_ble_eq_true rfl) rfl ?_
  refine Ev.mk rfl rfl ⟨Nat.le_of_ble_eq_true rfl, Or.inl rfl⟩ ?_
  show At _ none _ _ (0, [(0, .int a2), (1, .int a3)], [], (_, _)) _
  refine At.enter rfl ?_
  refine r_iload_n rfl ?_
  by_cases c295_0 : a2.toInt = 0
  · refine r_tsw 28 (by rw [c295_0]; rfl) ?_
    refine At.enter rfl ?_
    refine r_iload_n rfl ?_
    refine q_i2l (fun v296 hv296 => ?_)
    refine r_ldc2 (-1) rfl ?_
    refine r_ldc2 11 rfl ?_
    refine q_inlS 39 rfl [.long v296, .long (-1), .long 11] [] (Nat.le_of_ble_eq_true rfl) rfl ?_
    refine Ev.mk rfl rfl ⟨Nat.le_of_ble_eq_true rfl, Or.inl rfl⟩ ?_
    show At _ none _ _ (0, [(0, .long v296), (2, .long (-1)), (4, .long 11)], [], (_, _)) _
    refine At.enter rfl ?_
    refine r_lload_n rfl ?_
    refine r_lload_n rfl ?_
    refine r_lcmp _ rfl ?_
    refine r_ifs 6 rfl (fun c297 => ?_) (fun c297 => ?_)
    · have c297_ : v296.toInt < (-1) := en_j_lt_t c297
      refine At.enter rfl ?_
      refine r_iconst 0 rfl ?_
      refine Ar.fall 18 rfl ?_
      refine At.enter rfl ?_
      refine q_iretz (by decide) ?_
      refine At.enter rfl ?_
      refine q_iretz (by decide) ?_
      refine At.enter rfl ?_
      refine r_iff 13 rfl (by decide) ?_
      refine At.enter rfl ?_
      refine r_aload_n rfl ?_
      refine r_iconst (-1) rfl ?_
      refine r_callV 18 rfl [.ref 231, .int (-1)] [] (Nat.le_of_ble_eq_true rfl) rfl (T_X11_tell_231 _ hI293 (-1) (by decide)) ?_
      rintro _ _ ⟨g298, rfl, hI299, hF300, v301, rfl, hr302⟩
      refine At.sti ?_
      have hF303 := Fr.tr hF294 hF300 rfl rfl
      have zv304 : ((-1) : Int32).toInt = (-1) := rfl
      refine At.enter rfl ?_
      refine r_ireti ?_
      obtain ⟨v305, hv305⟩ : ∃ v, eA g0 233 0 = v := ⟨_, rfl⟩
      have tv305 := congrArg Int32.toInt hv305
      have wv305 := HI.t0 hI0
      rw [hv305] at wv305
      have tv305 := congrArg Int32.toInt hv305
      have x306 := HI.eqA hI299 (p := 233) (j := 0) ((((eA_c (hF300.2.1 233 ma_X11_tell_231_233)).trans (eA_c gA_sI)).trans hv305))
      obtain ⟨v307, hv307⟩ : ∃ v, eA g0 233 4 = v := ⟨_, rfl⟩
      have wv307 := HI.t4 hI0
      rw [hv307] at wv307
      have tv307 := congrArg Int32.toInt hv307
      have x308 := HI.eqA hI299 (p := 233) (j := 4) ((((eA_c (hF300.2.1 233 ma_X11_tell_231_233)).trans (eA_c gA_sI)).trans hv307))
      obtain ⟨v309, hv309⟩ : ∃ v, eA g0 233 5 = v := ⟨_, rfl⟩
      have wv309 := HI.t5 hI0
      rw [hv309] at wv309
      have tv309 := congrArg Int32.toInt hv309
      have x310 := HI.eqA hI299 (p := 233) (j := 5) ((((eA_c (hF300.2.1 233 ma_X11_tell_231_233)).trans (eA_c gA_sI)).trans hv309))
      obtain ⟨v311, hv311⟩ : ∃ v, eA g0 233 6 = v := ⟨_, rfl⟩
      have wv311 := HI.t6 hI0
      rw [hv311] at wv311
      have tv311 := congrArg Int32.toInt hv311
      have x312 := HI.eqA hI299 (p := 233) (j := 6) ((((eA_c (hF300.2.1 233 ma_X11_tell_231_233)).trans (eA_c gA_sI)).trans hv311))
      obtain ⟨v313, hv313⟩ : ∃ v, eA g0 233 2 = v := ⟨_, rfl⟩
      have tv313 := congrArg Int32.toInt hv313
      have wv313 := HI.t2 hI0
      rw [hv313] at wv313
      have tv313 := congrArg Int32.toInt hv313
      have x314 := HI.eqA hI299 (p := 233) (j := 2) ((((eA_c (hF300.2.1 233 ma_X11_tell_231_233)).trans (eA_c gA_sI)).trans hv313))
      obtain ⟨v315, hv315⟩ : ∃ v, eA g0 233 3 = v := ⟨_, rfl⟩
      have wv315 := HI.t3 hI0
      rw [hv315] at wv315
      have tv315 := congrArg Int32.toInt hv315
      have x316 := HI.eqA hI299 (p := 233) (j := 3) ((((eA_c (hF300.2.1 233 ma_X11_tell_231_233)).trans (eA_c gA_sI)).trans hv315))
      have x317 := HI.eqA hI0 (p := 233) (j := 0) (hv305)
      have x318 := HI.eqA hI0 (p := 233) (j := 4) (hv307)
      have x319 := HI.eqA hI0 (p := 233) (j := 5) (hv309)
      have x320 := HI.eqA hI0 (p := 233) (j := 6) (hv311)
      have x321 := HI.eqA hI0 (p := 233) (j := 2) (hv313)
      have x322 := HI.eqA hI0 (p := 233) (j := 3) (hv315)
      exact ⟨_, rfl, hI299, hF303, _, rfl, by omega, ⟨by omega, by omega, by omega, by omega, by omega, by omega⟩⟩
    · have c297_ : v296.toInt ≥ (-1) := en_j_lt_f c297
      refine At.enter rfl ?_
      refine r_lload_n rfl ?_
      refine r_lload rfl ?_
      refine r_lcmp _ rfl ?_
      refine r_ifs 13 rfl (fun c323 => ?_) (fun c323 => ?_)
      · have c323_ : v296.toInt > 11 := en_j_gt_t c323
        refine At.enter rfl ?_
        refine r_iconst 0 rfl ?_
        refine Ar.fall 18 rfl ?_
        refine At.enter rfl ?_
        refine q_iretz (by decide) ?_
        refine At.enter rfl ?_
        refine q_iretz (by decide) ?_
        refine At.enter rfl ?_
        refine r_iff 13 rfl (by decide) ?_
        refine At.enter rfl ?_
        refine r_aload_n rfl ?_
        refine r_iconst (-1) rfl ?_
        refine r_callV 18 rfl [.ref 231, .int (-1)] [] (Nat.le_of_ble_eq_true rfl) rfl (T_X11_tell_231 _ hI293 (-1) (by decide)) ?_
        rintro _ _ ⟨g324, rfl, hI325, hF326, v327, rfl, hr328⟩
        refine At.sti ?_
        have hF329 := Fr.tr hF294 hF326 rfl rfl
        have zv330 : ((-1) : Int32).toInt = (-1) := rfl
        refine At.enter rfl ?_
        refine r_ireti ?_
        obtain ⟨v331, hv331⟩ : ∃ v, eA g0 233 0 = v := ⟨_, rfl⟩
        have tv331 := congrArg Int32.toInt hv331
        have wv331 := HI.t0 hI0
        rw [hv331] at wv331
        have tv331 := congrArg Int32.toInt hv331
        have x332 := HI.eqA hI325 (p := 233) (j := 0) ((((eA_c (hF326.2.1 233 ma_X11_tell_231_233)).trans (eA_c gA_sI)).trans hv331))
        obtain ⟨v333, hv333⟩ : ∃ v, eA g0 233 4 = v := ⟨_, rfl⟩
        have wv333 := HI.t4 hI0
        rw [hv333] at wv333
        have tv333 := congrArg Int32.toInt hv333
        have x334 := HI.eqA hI325 (p := 233) (j := 4) ((((eA_c (hF326.2.1 233 ma_X11_tell_231_233)).trans (eA_c gA_sI)).trans hv333))
        obtain ⟨v335, hv335⟩ : ∃ v, eA g0 233 5 = v := ⟨_, rfl⟩
        have wv335 := HI.t5 hI0
        rw [hv335] at wv335
        have tv335 := congrArg Int32.toInt hv335
        have x336 := HI.eqA hI325 (p := 233) (j := 5) ((((eA_c (hF326.2.1 233 ma_X11_tell_231_233)).trans (eA_c gA_sI)).trans hv335))
        obtain ⟨v337, hv337⟩ : ∃ v, eA g0 233 6 = v := ⟨_, rfl⟩
        have wv337 := HI.t6 hI0
        rw [hv337] at wv337
        have tv337 := congrArg Int32.toInt hv337
        have x338 := HI.eqA hI325 (p := 233) (j := 6) ((((eA_c (hF326.2.1 233 ma_X11_tell_231_233)).trans (eA_c gA_sI)).trans hv337))
        obtain ⟨v339, hv339⟩ : ∃ v, eA g0 233 2 = v := ⟨_, rfl⟩
        have tv339 := congrArg Int32.toInt hv339
        have wv339 := HI.t2 hI0
        rw [hv339] at wv339
        have tv339 := congrArg Int32.toInt hv339
        have x340 := HI.eqA hI325 (p := 233) (j := 2) ((((eA_c (hF326.2.1 233 ma_X11_tell_231_233)).trans (eA_c gA_sI)).trans hv339))
        obtain ⟨v341, hv341⟩ : ∃ v, eA g0 233 3 = v := ⟨_, rfl⟩
        have wv341 := HI.t3 hI0
        rw [hv341] at wv341
        have tv341 := congrArg Int32.toInt hv341
        have x342 := HI.eqA hI325 (p := 233) (j := 3) ((((eA_c (hF326.2.1 233 ma_X11_tell_231_233)).trans (eA_c gA_sI)).trans hv341))
        have x343 := HI.eqA hI0 (p := 233) (j := 0) (hv331)
        have x344 := HI.eqA hI0 (p := 233) (j := 4) (hv333)
        have x345 := HI.eqA hI0 (p := 233) (j := 5) (hv335)
        have x346 := HI.eqA hI0 (p := 233) (j := 6) (hv337)
        have x347 := HI.eqA hI0 (p := 233) (j := 2) (hv339)
        have x348 := HI.eqA hI0 (p := 233) (j := 3) (hv341)
        exact ⟨_, rfl, hI325, hF329, _, rfl, by omega, ⟨by omega, by omega, by omega, by omega, by omega, by omega⟩⟩
      · have c323_ : v296.toInt ≤ 11 := en_j_gt_f c323
        refine At.enter rfl ?_
        refine r_iconst 1 rfl ?_
        refine r_goto ?_
        refine At.enter rfl ?_
        refine q_iretz (by decide) ?_
        refine At.enter rfl ?_
        refine q_iretz (by decide) ?_
        refine At.enter rfl ?_
        refine r_ift (by decide) ?_
        refine At.enter rfl ?_
        refine r_aload_n rfl ?_
        refine r_iload_n rfl ?_
        refine q_inlV 24 rfl [.ref 231, .int a1] [] (Nat.le_of_ble_eq_true rfl) rfl ?_
        refine Ev.mk rfl rfl ⟨Nat.le_of_ble_eq_true rfl, Or.inr (q_rc hI293.1 kx_231 rfl)⟩ ?_
        show At _ none _ _ (0, [(0, .ref 231), (1, .int a1)], [], (_, _)) _
        refine At.enter rfl ?_
        refine r_iload_n rfl ?_
        refine q_i2l (fun v349 hv349 => ?_)
        refine r_lconst 0 rfl ?_
        refine r_aload_n rfl ?_
        refine q_getR (Sh.ref hI293.1 kx_231 rfl) ?_
        refine r_iconst 0 rfl ?_
        obtain ⟨v350, hv350⟩ : ∃ v, eA g0 233 0 = v := ⟨_, rfl⟩
        have tv350 := congrArg Int32.toInt hv350
        have wv350 := HI.t0 hI0
        rw [hv350] at wv350
        refine q_iald (Sh.arr hI293.1 ka_233) 0 rfl (by decide) v350 ((eA_c (gA_sI)).trans hv350) ?_
        refine q_i2l (fun v351 hv351 => ?_)
        refine r_lconst 1 rfl ?_
        refine q_lsub (v351.toInt - 1) rfl (by omega) (fun v352 hv352 => ?_)
        refine q_inlS 15 rfl [.long v349, .long 0, .long v352] [] (Nat.le_of_ble_eq_true rfl) rfl ?_
        refine Ev.mk rfl rfl ⟨Nat.le_of_ble_eq_true rfl, Or.inl rfl⟩ ?_
        show At _ none _ _ (0, [(0, .long v349), (2, .long 0), (4, .long v352)], [], (_, _)) _
        refine At.enter rfl ?_
        refine r_lload_n rfl ?_
        refine r_lload_n rfl ?_
        refine r_lcmp _ rfl ?_
        refine r_ifs 6 rfl (fun c353 => ?_) (fun c353 => ?_)
        · have c353_ : v349.toInt < 0 := en_j_lt_t c353
          refine At.enter rfl ?_
          refine r_iconst 0 rfl ?_
          refine Ar.fall 18 rfl ?_
          refine At.enter rfl ?_
          refine q_iretz (by decide) ?_
          refine At.enter rfl ?_
          refine q_iretz (by decide) ?_
          refine At.enter rfl ?_
          refine r_ift (by decide) ?_
          refine At.enter rfl ?_
          refine r_aload_n rfl ?_
          refine r_bipush (-2) rfl ?_
          refine r_callV 49 rfl [.ref 231, .int (-2)] [] (Nat.le_of_ble_eq_true rfl) rfl (T_X11_tell_231 _ hI293 (-2) (by decide)) ?_
          rintro _ _ ⟨g354, rfl, hI355, hF356, v357, rfl, hr358⟩
          refine At.sti ?_
          have hF359 := Fr.tr hF294 hF356 rfl rfl
          have zv360 : ((-2) : Int32).toInt = (-2) := rfl
          refine At.enter rfl ?_
          refine r_ireti ?_
          have x361 := HI.eqA hI355 (p := 233) (j := 0) ((((eA_c (hF356.2.1 233 ma_X11_tell_231_233)).trans (eA_c gA_sI)).trans hv350))
          obtain ⟨v362, hv362⟩ : ∃ v, eA g0 233 4 = v := ⟨_, rfl⟩
          have wv362 := HI.t4 hI0
          rw [hv362] at wv362
          have tv362 := congrArg Int32.toInt hv362
          have x363 := HI.eqA hI355 (p := 233) (j := 4) ((((eA_c (hF356.2.1 233 ma_X11_tell_231_233)).trans (eA_c gA_sI)).trans hv362))
          obtain ⟨v364, hv364⟩ : ∃ v, eA g0 233 5 = v := ⟨_, rfl⟩
          have wv364 := HI.t5 hI0
          rw [hv364] at wv364
          have tv364 := congrArg Int32.toInt hv364
          have x365 := HI.eqA hI355 (p := 233) (j := 5) ((((eA_c (hF356.2.1 233 ma_X11_tell_231_233)).trans (eA_c gA_sI)).trans hv364))
          obtain ⟨v366, hv366⟩ : ∃ v, eA g0 233 6 = v := ⟨_, rfl⟩
          have wv366 := HI.t6 hI0
          rw [hv366] at wv366
          have tv366 := congrArg Int32.toInt hv366
          have x367 := HI.eqA hI355 (p := 233) (j := 6) ((((eA_c (hF356.2.1 233 ma_X11_tell_231_233)).trans (eA_c gA_sI)).trans hv366))
          obtain ⟨v368, hv368⟩ : ∃ v, eA g0 233 2 = v := ⟨_, rfl⟩
          have tv368 := congrArg Int32.toInt hv368
          have wv368 := HI.t2 hI0
          rw [hv368] at wv368
          have tv368 := congrArg Int32.toInt hv368
          have x369 := HI.eqA hI355 (p := 233) (j := 2) ((((eA_c (hF356.2.1 233 ma_X11_tell_231_233)).trans (eA_c gA_sI)).trans hv368))
          obtain ⟨v370, hv370⟩ : ∃ v, eA g0 233 3 = v := ⟨_, rfl⟩
          have wv370 := HI.t3 hI0
          rw [hv370] at wv370
          have tv370 := congrArg Int32.toInt hv370
          have x371 := HI.eqA hI355 (p := 233) (j := 3) ((((eA_c (hF356.2.1 233 ma_X11_tell_231_233)).trans (eA_c gA_sI)).trans hv370))
          have x372 := HI.eqA hI0 (p := 233) (j := 0) (hv350)
          have x373 := HI.eqA hI0 (p := 233) (j := 4) (hv362)
          have x374 := HI.eqA hI0 (p := 233) (j := 5) (hv364)
          have x375 := HI.eqA hI0 (p := 233) (j := 6) (hv366)
          have x376 := HI.eqA hI0 (p := 233) (j := 2) (hv368)
          have x377 := HI.eqA hI0 (p := 233) (j := 3) (hv370)
          exact ⟨_, rfl, hI355, hF359, _, rfl, by omega, ⟨by omega, by omega, by omega, by omega, by omega, by omega⟩⟩
        · have c353_ : v349.toInt ≥ 0 := en_j_lt_f c353
          refine At.enter rfl ?_
          refine r_lload_n rfl ?_
          refine r_lload rfl ?_
          refine r_lcmp _ rfl ?_
          refine r_ifs 13 rfl (fun c378 => ?_) (fun c378 => ?_)
          · have c378_ : v349.toInt > v352.toInt := en_j_gt_t c378
            refine At.enter rfl ?_
            refine r_iconst 0 rfl ?_
            refine Ar.fall 18 rfl ?_
            refine At.enter rfl ?_
            refine q_iretz (by decide) ?_
            refine At.enter rfl ?_
            refine q_iretz (by decide) ?_
            refine At.enter rfl ?_
            refine r_ift (by decide) ?_
            refine At.enter rfl ?_
            refine r_aload_n rfl ?_
            refine r_bipush (-2) rfl ?_
            refine r_callV 49 rfl [.ref 231, .int (-2)] [] (Nat.le_of_ble_eq_true rfl) rfl (T_X11_tell_231 _ hI293 (-2) (by decide)) ?_
            rintro _ _ ⟨g379, rfl, hI380, hF381, v382, rfl, hr383⟩
            refine At.sti ?_
            have hF384 := Fr.tr hF294 hF381 rfl rfl
            have zv385 : ((-2) : Int32).toInt = (-2) := rfl
            refine At.enter rfl ?_
            refine r_ireti ?_
            have x386 := HI.eqA hI380 (p := 233) (j := 0) ((((eA_c (hF381.2.1 233 ma_X11_tell_231_233)).trans (eA_c gA_sI)).trans hv350))
            obtain ⟨v387, hv387⟩ : ∃ v, eA g0 233 4 = v := ⟨_, rfl⟩
            have wv387 := HI.t4 hI0
            rw [hv387] at wv387
            have tv387 := congrArg Int32.toInt hv387
            have x388 := HI.eqA hI380 (p := 233) (j := 4) ((((eA_c (hF381.2.1 233 ma_X11_tell_231_233)).trans (eA_c gA_sI)).trans hv387))
            obtain ⟨v389, hv389⟩ : ∃ v, eA g0 233 5 = v := ⟨_, rfl⟩
            have wv389 := HI.t5 hI0
            rw [hv389] at wv389
            have tv389 := congrArg Int32.toInt hv389
            have x390 := HI.eqA hI380 (p := 233) (j := 5) ((((eA_c (hF381.2.1 233 ma_X11_tell_231_233)).trans (eA_c gA_sI)).trans hv389))
            obtain ⟨v391, hv391⟩ : ∃ v, eA g0 233 6 = v := ⟨_, rfl⟩
            have wv391 := HI.t6 hI0
            rw [hv391] at wv391
            have tv391 := congrArg Int32.toInt hv391
            have x392 := HI.eqA hI380 (p := 233) (j := 6) ((((eA_c (hF381.2.1 233 ma_X11_tell_231_233)).trans (eA_c gA_sI)).trans hv391))
            obtain ⟨v393, hv393⟩ : ∃ v, eA g0 233 2 = v := ⟨_, rfl⟩
            have tv393 := congrArg Int32.toInt hv393
            have wv393 := HI.t2 hI0
            rw [hv393] at wv393
            have tv393 := congrArg Int32.toInt hv393
            have x394 := HI.eqA hI380 (p := 233) (j := 2) ((((eA_c (hF381.2.1 233 ma_X11_tell_231_233)).trans (eA_c gA_sI)).trans hv393))
            obtain ⟨v395, hv395⟩ : ∃ v, eA g0 233 3 = v := ⟨_, rfl⟩
            have wv395 := HI.t3 hI0
            rw [hv395] at wv395
            have tv395 := congrArg Int32.toInt hv395
            have x396 := HI.eqA hI380 (p := 233) (j := 3) ((((eA_c (hF381.2.1 233 ma_X11_tell_231_233)).trans (eA_c gA_sI)).trans hv395))
            have x397 := HI.eqA hI0 (p := 233) (j := 0) (hv350)
            have x398 := HI.eqA hI0 (p := 233) (j := 4) (hv387)
            have x399 := HI.eqA hI0 (p := 233) (j := 5) (hv389)
            have x400 := HI.eqA hI0 (p := 233) (j := 6) (hv391)
            have x401 := HI.eqA hI0 (p := 233) (j := 2) (hv393)
            have x402 := HI.eqA hI0 (p := 233) (j := 3) (hv395)
            exact ⟨_, rfl, hI380, hF384, _, rfl, by omega, ⟨by omega, by omega, by omega, by omega, by omega, by omega⟩⟩
          · have c378_ : v349.toInt ≤ v352.toInt := en_j_gt_f c378
            refine At.enter rfl ?_
            refine r_iconst 1 rfl ?_
            refine r_goto ?_
            refine At.enter rfl ?_
            refine q_iretz (by decide) ?_
            refine At.enter rfl ?_
            refine q_iretz (by decide) ?_
            refine At.enter rfl ?_
            refine r_iff 27 rfl (by decide) ?_
            refine At.enter rfl ?_
            refine r_aload_n rfl ?_
            refine r_bipush 10 rfl ?_
            refine r_iconst 3 rfl ?_
            refine r_iload_n rfl ?_
            refine q_imul (3 * a1.toInt) rfl (by omega) (fun v403 hv403 => ?_)
            refine q_iadd (10 + v403.toInt) rfl (by omega) (fun v404 hv404 => ?_)
            refine r_iload_n rfl ?_
            refine q_iadd (v404.toInt + a2.toInt) rfl (by omega) (fun v405 hv405 => ?_)
            refine r_iload_n rfl ?_
            refine q_inlV 40 rfl [.ref 231, .int v405, .int a3] [] (Nat.le_of_ble_eq_true rfl) rfl ?_
            refine Ev.mk rfl rfl ⟨Nat.le_of_ble_eq_true rfl, Or.inr (q_rc hI293.1 kx_231 rfl)⟩ ?_
            show At _ none _ _ (0, [(0, .ref 231), (1, .int v405), (2, .int a3)], [], (_, _)) _
            refine At.enter rfl ?_
            refine r_aload_n rfl ?_
            refine q_getR (Sh.ref hI293.1 kx_231 rfl) ?_
            refine r_iload_n rfl ?_
            obtain ⟨v406, hv406⟩ : ∃ v, eA g0 233 (3 * a1.toInt + a2.toInt + 10) = v := ⟨_, rfl⟩
            have wv406 := HI.s0 hI0 (j := (3 * a1.toInt + a2.toInt + 10)) (a1.toInt) (by omega) (by omega)
            rw [hv406] at wv406
            refine q_iald (Sh.arr hI293.1 ka_233) (3 * a1.toInt + a2.toInt + 10) (by omega) (by omega) v406 ((eA_c (gA_sI)).trans hv406) ?_
            refine r_istore_n ([(3, .int v406), (0, .ref 231), (1, .int v405), (2, .int a3)]) rfl ?_
            refine r_aload_n rfl ?_
            refine q_getR (Sh.ref hI293.1 kx_231 rfl) ?_
            refine r_iload_n rfl ?_
            refine r_iload_n rfl ?_
            refine q_iast (Sh.arr hI293.1 ka_233) ((3 * a1.toInt + a2.toInt + 10)) (by omega) (by omega) ?_
            have hI407 := HI.ws hI293 (j := (3 * a1.toInt + a2.toInt + 10)) (v := a3) (a1.toInt) 0 (by omega) (by decide) (by omega) (by omega)
            have hF408 := Fr.wA (p := 233) (j := (3 * a1.toInt + a2.toInt + 10)) (v := a3) hF294 rfl
            refine r_aload_n rfl ?_
            refine r_iload_n rfl ?_
            refine q_inlV 19 rfl [.ref 231, .int v406] [] (Nat.le_of_ble_eq_true rfl) rfl ?_
            refine Ev.mk rfl rfl ⟨Nat.le_of_ble_eq_true rfl, Or.inr (q_rc hI407.1 kx_231 rfl)⟩ ?_
            show At _ none _ _ (0, [(0, .ref 231), (1, .int v406)], [], (_, _)) _
            refine At.enter rfl ?_
            refine r_aload_n rfl ?_
            refine r_iconst 0 rfl ?_
            refine q_putI (Sh.int hI407.1 kx_231 rfl) rfl ?_
            have hI409 := HI.wI0 hI407 kx_231 rfl (p := 231) (b := 1) (v := 0) rfl
            have hF410 := Fr.wI (p := 231) (b := 1) (v := 0) hF408 rfl
            refine r_iload_n rfl ?_
            refine q_ireti ?_
            refine At.enter rfl ?_
            refine q_ireti ?_
            refine At.enter rfl ?_
            refine r_goto ?_
            refine At.enter rfl ?_
            refine r_ireti ?_
            have x411 := HI.eqA hI409 (p := 233) (j := 0) ((((eA_c gA_sI).trans ((eA_sA_ne hI293.1 ka_233 (by first | decide | omega) (by first | decide | omega) (by first | decide | omega)).trans (eA_c gA_sI))).trans hv350))
            obtain ⟨v412, hv412⟩ : ∃ v, eA g0 233 4 = v := ⟨_, rfl⟩
            have wv412 := HI.t4 hI0
            rw [hv412] at wv412
            have tv412 := congrArg Int32.toInt hv412
            have x413 := HI.eqA hI409 (p := 233) (j := 4) ((((eA_c gA_sI).trans ((eA_sA_ne hI293.1 ka_233 (by first | decide | omega) (by first | decide | omega) (by first | decide | omega)).trans (eA_c gA_sI))).trans hv412))
            obtain ⟨v414, hv414⟩ : ∃ v, eA g0 233 5 = v := ⟨_, rfl⟩
            have wv414 := HI.t5 hI0
            rw [hv414] at wv414
            have tv414 := congrArg Int32.toInt hv414
            have x415 := HI.eqA hI409 (p := 233) (j := 5) ((((eA_c gA_sI).trans ((eA_sA_ne hI293.1 ka_233 (by first | decide | omega) (by first | decide | omega) (by first | decide | omega)).trans (eA_c gA_sI))).trans hv414))
            obtain ⟨v416, hv416⟩ : ∃ v, eA g0 233 6 = v := ⟨_, rfl⟩
            have wv416 := HI.t6 hI0
            rw [hv416] at wv416
            have tv416 := congrArg Int32.toInt hv416
            have x417 := HI.eqA hI409 (p := 233) (j := 6) ((((eA_c gA_sI).trans ((eA_sA_ne hI293.1 ka_233 (by first | decide | omega) (by first | decide | omega) (by first | decide | omega)).trans (eA_c gA_sI))).trans hv416))
            obtain ⟨v418, hv418⟩ : ∃ v, eA g0 233 2 = v := ⟨_, rfl⟩
            have tv418 := congrArg Int32.toInt hv418
            have wv418 := HI.t2 hI0
            rw [hv418] at wv418
            have tv418 := congrArg Int32.toInt hv418
            have x419 := HI.eqA hI409 (p := 233) (j := 2) ((((eA_c gA_sI).trans ((eA_sA_ne hI293.1 ka_233 (by first | decide | omega) (by first | decide | omega) (by first | decide | omega)).trans (eA_c gA_sI))).trans hv418))
            obtain ⟨v420, hv420⟩ : ∃ v, eA g0 233 3 = v := ⟨_, rfl⟩
            have wv420 := HI.t3 hI0
            rw [hv420] at wv420
            have tv420 := congrArg Int32.toInt hv420
            have x421 := HI.eqA hI409 (p := 233) (j := 3) ((((eA_c gA_sI).trans ((eA_sA_ne hI293.1 ka_233 (by first | decide | omega) (by first | decide | omega) (by first | decide | omega)).trans (eA_c gA_sI))).trans hv420))
            have x422 := HI.eqA hI0 (p := 233) (j := 0) (hv350)
            have x423 := HI.eqA hI0 (p := 233) (j := 4) (hv412)
            have x424 := HI.eqA hI0 (p := 233) (j := 5) (hv414)
            have x425 := HI.eqA hI0 (p := 233) (j := 6) (hv416)
            have x426 := HI.eqA hI0 (p := 233) (j := 2) (hv418)
            have x427 := HI.eqA hI0 (p := 233) (j := 3) (hv420)
            exact ⟨_, rfl, hI409, hF410, _, rfl, by omega, ⟨by omega, by omega, by omega, by omega, by omega, by omega⟩⟩
  by_cases c295_1 : a2.toInt = 1
  · refine r_tsw 40 (by rw [c295_1]; rfl) ?_
    refine At.enter rfl ?_
    refine r_iload_n rfl ?_
    refine q_i2l (fun v428 hv428 => ?_)
    refine r_lconst 1 rfl ?_
    refine r_ldc2 9 rfl ?_
    refine q_inlS 49 rfl [.long v428, .long 1, .long 9] [] (Nat.le_of_ble_eq_true rfl) rfl ?_
    refine Ev.mk rfl rfl ⟨Nat.le_of_ble_eq_true rfl, Or.inl rfl⟩ ?_
    show At _ none _ _ (0, [(0, .long v428), (2, .long 1), (4, .long 9)], [], (_, _)) _
    refine At.enter rfl ?_
    refine r_lload_n rfl ?_
    refine r_lload_n rfl ?_
    refine r_lcmp _ rfl ?_
    refine r_ifs 6 rfl (fun c429 => ?_) (fun c429 => ?_)
    · have c429_ : v428.toInt < 1 := en_j_lt_t c429
      refine At.enter rfl ?_
      refine r_iconst 0 rfl ?_
      refine Ar.fall 18 rfl ?_
      refine At.enter rfl ?_
      refine q_iretz (by decide) ?_
      refine At.enter rfl ?_
      refine q_iretz (by decide) ?_
      refine At.enter rfl ?_
      refine r_iff 13 rfl (by decide) ?_
      refine At.enter rfl ?_
      refine r_aload_n rfl ?_
      refine r_iconst (-1) rfl ?_
      refine r_callV 18 rfl [.ref 231, .int (-1)] [] (Nat.le_of_ble_eq_true rfl) rfl (T_X11_tell_231 _ hI293 (-1) (by decide)) ?_
      rintro _ _ ⟨g430, rfl, hI431, hF432, v433, rfl, hr434⟩
      refine At.sti ?_
      have hF435 := Fr.tr hF294 hF432 rfl rfl
      have zv436 : ((-1) : Int32).toInt = (-1) := rfl
      refine At.enter rfl ?_
      refine r_ireti ?_
      obtain ⟨v437, hv437⟩ : ∃ v, eA g0 233 0 = v := ⟨_, rfl⟩
      have tv437 := congrArg Int32.toInt hv437
      have wv437 := HI.t0 hI0
      rw [hv437] at wv437
      have tv437 := congrArg Int32.toInt hv437
      have x438 := HI.eqA hI431 (p := 233) (j := 0) ((((eA_c (hF432.2.1 233 ma_X11_tell_231_233)).trans (eA_c gA_sI)).trans hv437))
      obtain ⟨v439, hv439⟩ : ∃ v, eA g0 233 4 = v := ⟨_, rfl⟩
      have wv439 := HI.t4 hI0
      rw [hv439] at wv439
      have tv439 := congrArg Int32.toInt hv439
      have x440 := HI.eqA hI431 (p := 233) (j := 4) ((((eA_c (hF432.2.1 233 ma_X11_tell_231_233)).trans (eA_c gA_sI)).trans hv439))
      obtain ⟨v441, hv441⟩ : ∃ v, eA g0 233 5 = v := ⟨_, rfl⟩
      have wv441 := HI.t5 hI0
      rw [hv441] at wv441
      have tv441 := congrArg Int32.toInt hv441
      have x442 := HI.eqA hI431 (p := 233) (j := 5) ((((eA_c (hF432.2.1 233 ma_X11_tell_231_233)).trans (eA_c gA_sI)).trans hv441))
      obtain ⟨v443, hv443⟩ : ∃ v, eA g0 233 6 = v := ⟨_, rfl⟩
      have wv443 := HI.t6 hI0
      rw [hv443] at wv443
      have tv443 := congrArg Int32.toInt hv443
      have x444 := HI.eqA hI431 (p := 233) (j := 6) ((((eA_c (hF432.2.1 233 ma_X11_tell_231_233)).trans (eA_c gA_sI)).trans hv443))
      obtain ⟨v445, hv445⟩ : ∃ v, eA g0 233 2 = v := ⟨_, rfl⟩
      have tv445 := congrArg Int32.toInt hv445
      have wv445 := HI.t2 hI0
      rw [hv445] at wv445
      have tv445 := congrArg Int32.toInt hv445
      have x446 := HI.eqA hI431 (p := 233) (j := 2) ((((eA_c (hF432.2.1 233 ma_X11_tell_231_233)).trans (eA_c gA_sI)).trans hv445))
      obtain ⟨v447, hv447⟩ : ∃ v, eA g0 233 3 = v := ⟨_, rfl⟩
      have wv447 := HI.t3 hI0
      rw [hv447] at wv447
      have tv447 := congrArg Int32.toInt hv447
      have x448 := HI.eqA hI431 (p := 233) (j := 3) ((((eA_c (hF432.2.1 233 ma_X11_tell_231_233)).trans (eA_c gA_sI)).trans hv447))
      have x449 := HI.eqA hI0 (p := 233) (j := 0) (hv437)
      have x450 := HI.eqA hI0 (p := 233) (j := 4) (hv439)
      have x451 := HI.eqA hI0 (p := 233) (j := 5) (hv441)
      have x452 := HI.eqA hI0 (p := 233) (j := 6) (hv443)
      have x453 := HI.eqA hI0 (p := 233) (j := 2) (hv445)
      have x454 := HI.eqA hI0 (p := 233) (j := 3) (hv447)
      exact ⟨_, rfl, hI431, hF435, _, rfl, by omega, ⟨by omega, by omega, by omega, by omega, by omega, by omega⟩⟩
    · have c429_ : v428.toInt ≥ 1 := en_j_lt_f c429
      refine At.enter rfl ?_
      refine r_lload_n rfl ?_
      refine r_lload rfl ?_
      refine r_lcmp _ rfl ?_
      refine r_ifs 13 rfl (fun c455 => ?_) (fun c455 => ?_)
      · have c455_ : v428.toInt > 9 := en_j_gt_t c455
        refine At.enter rfl ?_
        refine r_iconst 0 rfl ?_
        refine Ar.fall 18 rfl ?_
        refine At.enter rfl ?_
        refine q_iretz (by decide) ?_
        refine At.enter rfl ?_
        refine q_iretz (by decide) ?_
        refine At.enter rfl ?_
        refine r_iff 13 rfl (by decide) ?_
        refine At.enter rfl ?_
        refine r_aload_n rfl ?_
        refine r_iconst (-1) rfl ?_
        refine r_callV 18 rfl [.ref 231, .int (-1)] [] (Nat.le_of_ble_eq_true rfl) rfl (T_X11_tell_231 _ hI293 (-1) (by decide)) ?_
        rintro _ _ ⟨g456, rfl, hI457, hF458, v459, rfl, hr460⟩
        refine At.sti ?_
        have hF461 := Fr.tr hF294 hF458 rfl rfl
        have zv462 : ((-1) : Int32).toInt = (-1) := rfl
        refine At.enter rfl ?_
        refine r_ireti ?_
        obtain ⟨v463, hv463⟩ : ∃ v, eA g0 233 0 = v := ⟨_, rfl⟩
        have tv463 := congrArg Int32.toInt hv463
        have wv463 := HI.t0 hI0
        rw [hv463] at wv463
        have tv463 := congrArg Int32.toInt hv463
        have x464 := HI.eqA hI457 (p := 233) (j := 0) ((((eA_c (hF458.2.1 233 ma_X11_tell_231_233)).trans (eA_c gA_sI)).trans hv463))
        obtain ⟨v465, hv465⟩ : ∃ v, eA g0 233 4 = v := ⟨_, rfl⟩
        have wv465 := HI.t4 hI0
        rw [hv465] at wv465
        have tv465 := congrArg Int32.toInt hv465
        have x466 := HI.eqA hI457 (p := 233) (j := 4) ((((eA_c (hF458.2.1 233 ma_X11_tell_231_233)).trans (eA_c gA_sI)).trans hv465))
        obtain ⟨v467, hv467⟩ : ∃ v, eA g0 233 5 = v := ⟨_, rfl⟩
        have wv467 := HI.t5 hI0
        rw [hv467] at wv467
        have tv467 := congrArg Int32.toInt hv467
        have x468 := HI.eqA hI457 (p := 233) (j := 5) ((((eA_c (hF458.2.1 233 ma_X11_tell_231_233)).trans (eA_c gA_sI)).trans hv467))
        obtain ⟨v469, hv469⟩ : ∃ v, eA g0 233 6 = v := ⟨_, rfl⟩
        have wv469 := HI.t6 hI0
        rw [hv469] at wv469
        have tv469 := congrArg Int32.toInt hv469
        have x470 := HI.eqA hI457 (p := 233) (j := 6) ((((eA_c (hF458.2.1 233 ma_X11_tell_231_233)).trans (eA_c gA_sI)).trans hv469))
        obtain ⟨v471, hv471⟩ : ∃ v, eA g0 233 2 = v := ⟨_, rfl⟩
        have tv471 := congrArg Int32.toInt hv471
        have wv471 := HI.t2 hI0
        rw [hv471] at wv471
        have tv471 := congrArg Int32.toInt hv471
        have x472 := HI.eqA hI457 (p := 233) (j := 2) ((((eA_c (hF458.2.1 233 ma_X11_tell_231_233)).trans (eA_c gA_sI)).trans hv471))
        obtain ⟨v473, hv473⟩ : ∃ v, eA g0 233 3 = v := ⟨_, rfl⟩
        have wv473 := HI.t3 hI0
        rw [hv473] at wv473
        have tv473 := congrArg Int32.toInt hv473
        have x474 := HI.eqA hI457 (p := 233) (j := 3) ((((eA_c (hF458.2.1 233 ma_X11_tell_231_233)).trans (eA_c gA_sI)).trans hv473))
        have x475 := HI.eqA hI0 (p := 233) (j := 0) (hv463)
        have x476 := HI.eqA hI0 (p := 233) (j := 4) (hv465)
        have x477 := HI.eqA hI0 (p := 233) (j := 5) (hv467)
        have x478 := HI.eqA hI0 (p := 233) (j := 6) (hv469)
        have x479 := HI.eqA hI0 (p := 233) (j := 2) (hv471)
        have x480 := HI.eqA hI0 (p := 233) (j := 3) (hv473)
        exact ⟨_, rfl, hI457, hF461, _, rfl, by omega, ⟨by omega, by omega, by omega, by omega, by omega, by omega⟩⟩
      · have c455_ : v428.toInt ≤ 9 := en_j_gt_f c455
        refine At.enter rfl ?_
        refine r_iconst 1 rfl ?_
        refine r_goto ?_
        refine At.enter rfl ?_
        refine q_iretz (by decide) ?_
        refine At.enter rfl ?_
        refine q_iretz (by decide) ?_
        refine At.enter rfl ?_
        refine r_ift (by decide) ?_
        refine At.enter rfl ?_
        refine r_aload_n rfl ?_
        refine r_iload_n rfl ?_
        refine q_inlV 24 rfl [.ref 231, .int a1] [] (Nat.le_of_ble_eq_true rfl) rfl ?_
        refine Ev.mk rfl rfl ⟨Nat.le_of_ble_eq_true rfl, Or.inr (q_rc hI293.1 kx_231 rfl)⟩ ?_
        show At _ none _ _ (0, [(0, .ref 231), (1, .int a1)], [], (_, _)) _
        refine At.enter rfl ?_
        refine r_iload_n rfl ?_
        refine q_i2l (fun v481 hv481 => ?_)
        refine r_lconst 0 rfl ?_
        refine r_aload_n rfl ?_
        refine q_getR (Sh.ref hI293.1 kx_231 rfl) ?_
        refine r_iconst 0 rfl ?_
        obtain ⟨v482, hv482⟩ : ∃ v, eA g0 233 0 = v := ⟨_, rfl⟩
        have tv482 := congrArg Int32.toInt hv482
        have wv482 := HI.t0 hI0
        rw [hv482] at wv482
        refine q_iald (Sh.arr hI293.1 ka_233) 0 rfl (by decide) v482 ((eA_c (gA_sI)).trans hv482) ?_
        refine q_i2l (fun v483 hv483 => ?_)
        refine r_lconst 1 rfl ?_
        refine q_lsub (v483.toInt - 1) rfl (by omega) (fun v484 hv484 => ?_)
        refine q_inlS 15 rfl [.long v481, .long 0, .long v484] [] (Nat.le_of_ble_eq_true rfl) rfl ?_
        refine Ev.mk rfl rfl ⟨Nat.le_of_ble_eq_true rfl, Or.inl rfl⟩ ?_
        show At _ none _ _ (0, [(0, .long v481), (2, .long 0), (4, .long v484)], [], (_, _)) _
        refine At.enter rfl ?_
        refine r_lload_n rfl ?_
        refine r_lload_n rfl ?_
        refine r_lcmp _ rfl ?_
        refine r_ifs 6 rfl (fun c485 => ?_) (fun c485 => ?_)
        · have c485_ : v481.toInt < 0 := en_j_lt_t c485
          refine At.enter rfl ?_
          refine r_iconst 0 rfl ?_
          refine Ar.fall 18 rfl ?_
          refine At.enter rfl ?_
          refine q_iretz (by decide) ?_
          refine At.enter rfl ?_
          refine q_iretz (by decide) ?_
          refine At.enter rfl ?_
          refine r_ift (by decide) ?_
          refine At.enter rfl ?_
          refine r_aload_n rfl ?_
          refine r_bipush (-2) rfl ?_
          refine r_callV 49 rfl [.ref 231, .int (-2)] [] (Nat.le_of_ble_eq_true rfl) rfl (T_X11_tell_231 _ hI293 (-2) (by decide)) ?_
          rintro _ _ ⟨g486, rfl, hI487, hF488, v489, rfl, hr490⟩
          refine At.sti ?_
          have hF491 := Fr.tr hF294 hF488 rfl rfl
          have zv492 : ((-2) : Int32).toInt = (-2) := rfl
          refine At.enter rfl ?_
          refine r_ireti ?_
          have x493 := HI.eqA hI487 (p := 233) (j := 0) ((((eA_c (hF488.2.1 233 ma_X11_tell_231_233)).trans (eA_c gA_sI)).trans hv482))
          obtain ⟨v494, hv494⟩ : ∃ v, eA g0 233 4 = v := ⟨_, rfl⟩
          have wv494 := HI.t4 hI0
          rw [hv494] at wv494
          have tv494 := congrArg Int32.toInt hv494
          have x495 := HI.eqA hI487 (p := 233) (j := 4) ((((eA_c (hF488.2.1 233 ma_X11_tell_231_233)).trans (eA_c gA_sI)).trans hv494))
          obtain ⟨v496, hv496⟩ : ∃ v, eA g0 233 5 = v := ⟨_, rfl⟩
          have wv496 := HI.t5 hI0
          rw [hv496] at wv496
          have tv496 := congrArg Int32.toInt hv496
          have x497 := HI.eqA hI487 (p := 233) (j := 5) ((((eA_c (hF488.2.1 233 ma_X11_tell_231_233)).trans (eA_c gA_sI)).trans hv496))
          obtain ⟨v498, hv498⟩ : ∃ v, eA g0 233 6 = v := ⟨_, rfl⟩
          have wv498 := HI.t6 hI0
          rw [hv498] at wv498
          have tv498 := congrArg Int32.toInt hv498
          have x499 := HI.eqA hI487 (p := 233) (j := 6) ((((eA_c (hF488.2.1 233 ma_X11_tell_231_233)).trans (eA_c gA_sI)).trans hv498))
          obtain ⟨v500, hv500⟩ : ∃ v, eA g0 233 2 = v := ⟨_, rfl⟩
          have tv500 := congrArg Int32.toInt hv500
          have wv500 := HI.t2 hI0
          rw [hv500] at wv500
          have tv500 := congrArg Int32.toInt hv500
          have x501 := HI.eqA hI487 (p := 233) (j := 2) ((((eA_c (hF488.2.1 233 ma_X11_tell_231_233)).trans (eA_c gA_sI)).trans hv500))
          obtain ⟨v502, hv502⟩ : ∃ v, eA g0 233 3 = v := ⟨_, rfl⟩
          have wv502 := HI.t3 hI0
          rw [hv502] at wv502
          have tv502 := congrArg Int32.toInt hv502
          have x503 := HI.eqA hI487 (p := 233) (j := 3) ((((eA_c (hF488.2.1 233 ma_X11_tell_231_233)).trans (eA_c gA_sI)).trans hv502))
          have x504 := HI.eqA hI0 (p := 233) (j := 0) (hv482)
          have x505 := HI.eqA hI0 (p := 233) (j := 4) (hv494)
          have x506 := HI.eqA hI0 (p := 233) (j := 5) (hv496)
          have x507 := HI.eqA hI0 (p := 233) (j := 6) (hv498)
          have x508 := HI.eqA hI0 (p := 233) (j := 2) (hv500)
          have x509 := HI.eqA hI0 (p := 233) (j := 3) (hv502)
          exact ⟨_, rfl, hI487, hF491, _, rfl, by omega, ⟨by omega, by omega, by omega, by omega, by omega, by omega⟩⟩
        · have c485_ : v481.toInt ≥ 0 := en_j_lt_f c485
          refine At.enter rfl ?_
          refine r_lload_n rfl ?_
          refine r_lload rfl ?_
          refine r_lcmp _ rfl ?_
          refine r_ifs 13 rfl (fun c510 => ?_) (fun c510 => ?_)
          · have c510_ : v481.toInt > v484.toInt := en_j_gt_t c510
            refine At.enter rfl ?_
            refine r_iconst 0 rfl ?_
            refine Ar.fall 18 rfl ?_
            refine At.enter rfl ?_
            refine q_iretz (by decide) ?_
            refine At.enter rfl ?_
            refine q_iretz (by decide) ?_
            refine At.enter rfl ?_
            refine r_ift (by decide) ?_
            refine At.enter rfl ?_
            refine r_aload_n rfl ?_
            refine r_bipush (-2) rfl ?_
            refine r_callV 49 rfl [.ref 231, .int (-2)] [] (Nat.le_of_ble_eq_true rfl) rfl (T_X11_tell_231 _ hI293 (-2) (by decide)) ?_
            rintro _ _ ⟨g511, rfl, hI512, hF513, v514, rfl, hr515⟩
            refine At.sti ?_
            have hF516 := Fr.tr hF294 hF513 rfl rfl
            have zv517 : ((-2) : Int32).toInt = (-2) := rfl
            refine At.enter rfl ?_
            refine r_ireti ?_
            have x518 := HI.eqA hI512 (p := 233) (j := 0) ((((eA_c (hF513.2.1 233 ma_X11_tell_231_233)).trans (eA_c gA_sI)).trans hv482))
            obtain ⟨v519, hv519⟩ : ∃ v, eA g0 233 4 = v := ⟨_, rfl⟩
            have wv519 := HI.t4 hI0
            rw [hv519] at wv519
            have tv519 := congrArg Int32.toInt hv519
            have x520 := HI.eqA hI512 (p := 233) (j := 4) ((((eA_c (hF513.2.1 233 ma_X11_tell_231_233)).trans (eA_c gA_sI)).trans hv519))
            obtain ⟨v521, hv521⟩ : ∃ v, eA g0 233 5 = v := ⟨_, rfl⟩
            have wv521 := HI.t5 hI0
            rw [hv521] at wv521
            have tv521 := congrArg Int32.toInt hv521
            have x522 := HI.eqA hI512 (p := 233) (j := 5) ((((eA_c (hF513.2.1 233 ma_X11_tell_231_233)).trans (eA_c gA_sI)).trans hv521))
            obtain ⟨v523, hv523⟩ : ∃ v, eA g0 233 6 = v := ⟨_, rfl⟩
            have wv523 := HI.t6 hI0
            rw [hv523] at wv523
            have tv523 := congrArg Int32.toInt hv523
            have x524 := HI.eqA hI512 (p := 233) (j := 6) ((((eA_c (hF513.2.1 233 ma_X11_tell_231_233)).trans (eA_c gA_sI)).trans hv523))
            obtain ⟨v525, hv525⟩ : ∃ v, eA g0 233 2 = v := ⟨_, rfl⟩
            have tv525 := congrArg Int32.toInt hv525
            have wv525 := HI.t2 hI0
            rw [hv525] at wv525
            have tv525 := congrArg Int32.toInt hv525
            have x526 := HI.eqA hI512 (p := 233) (j := 2) ((((eA_c (hF513.2.1 233 ma_X11_tell_231_233)).trans (eA_c gA_sI)).trans hv525))
            obtain ⟨v527, hv527⟩ : ∃ v, eA g0 233 3 = v := ⟨_, rfl⟩
            have wv527 := HI.t3 hI0
            rw [hv527] at wv527
            have tv527 := congrArg Int32.toInt hv527
            have x528 := HI.eqA hI512 (p := 233) (j := 3) ((((eA_c (hF513.2.1 233 ma_X11_tell_231_233)).trans (eA_c gA_sI)).trans hv527))
            have x529 := HI.eqA hI0 (p := 233) (j := 0) (hv482)
            have x530 := HI.eqA hI0 (p := 233) (j := 4) (hv519)
            have x531 := HI.eqA hI0 (p := 233) (j := 5) (hv521)
            have x532 := HI.eqA hI0 (p := 233) (j := 6) (hv523)
            have x533 := HI.eqA hI0 (p := 233) (j := 2) (hv525)
            have x534 := HI.eqA hI0 (p := 233) (j := 3) (hv527)
            exact ⟨_, rfl, hI512, hF516, _, rfl, by omega, ⟨by omega, by omega, by omega, by omega, by omega, by omega⟩⟩
          · have c510_ : v481.toInt ≤ v484.toInt := en_j_gt_f c510
            refine At.enter rfl ?_
            refine r_iconst 1 rfl ?_
            refine r_goto ?_
            refine At.enter rfl ?_
            refine q_iretz (by decide) ?_
            refine At.enter rfl ?_
            refine q_iretz (by decide) ?_
            refine At.enter rfl ?_
            refine r_iff 27 rfl (by decide) ?_
            refine At.enter rfl ?_
            refine r_aload_n rfl ?_
            refine r_bipush 10 rfl ?_
            refine r_iconst 3 rfl ?_
            refine r_iload_n rfl ?_
            refine q_imul (3 * a1.toInt) rfl (by omega) (fun v535 hv535 => ?_)
            refine q_iadd (10 + v535.toInt) rfl (by omega) (fun v536 hv536 => ?_)
            refine r_iload_n rfl ?_
            refine q_iadd (v536.toInt + a2.toInt) rfl (by omega) (fun v537 hv537 => ?_)
            refine r_iload_n rfl ?_
            refine q_inlV 40 rfl [.ref 231, .int v537, .int a3] [] (Nat.le_of_ble_eq_true rfl) rfl ?_
            refine Ev.mk rfl rfl ⟨Nat.le_of_ble_eq_true rfl, Or.inr (q_rc hI293.1 kx_231 rfl)⟩ ?_
            show At _ none _ _ (0, [(0, .ref 231), (1, .int v537), (2, .int a3)], [], (_, _)) _
            refine At.enter rfl ?_
            refine r_aload_n rfl ?_
            refine q_getR (Sh.ref hI293.1 kx_231 rfl) ?_
            refine r_iload_n rfl ?_
            obtain ⟨v538, hv538⟩ : ∃ v, eA g0 233 (3 * a1.toInt + a2.toInt + 10) = v := ⟨_, rfl⟩
            have wv538 := HI.s1 hI0 (j := (3 * a1.toInt + a2.toInt + 10)) (a1.toInt) (by omega) (by omega)
            rw [hv538] at wv538
            refine q_iald (Sh.arr hI293.1 ka_233) (3 * a1.toInt + a2.toInt + 10) (by omega) (by omega) v538 ((eA_c (gA_sI)).trans hv538) ?_
            refine r_istore_n ([(3, .int v538), (0, .ref 231), (1, .int v537), (2, .int a3)]) rfl ?_
            refine r_aload_n rfl ?_
            refine q_getR (Sh.ref hI293.1 kx_231 rfl) ?_
            refine r_iload_n rfl ?_
            refine r_iload_n rfl ?_
            refine q_iast (Sh.arr hI293.1 ka_233) ((3 * a1.toInt + a2.toInt + 10)) (by omega) (by omega) ?_
            have hI539 := HI.ws hI293 (j := (3 * a1.toInt + a2.toInt + 10)) (v := a3) (a1.toInt) 1 (by omega) (by decide) (by omega) (by omega)
            have hF540 := Fr.wA (p := 233) (j := (3 * a1.toInt + a2.toInt + 10)) (v := a3) hF294 rfl
            refine r_aload_n rfl ?_
            refine r_iload_n rfl ?_
            refine q_inlV 19 rfl [.ref 231, .int v538] [] (Nat.le_of_ble_eq_true rfl) rfl ?_
            refine Ev.mk rfl rfl ⟨Nat.le_of_ble_eq_true rfl, Or.inr (q_rc hI539.1 kx_231 rfl)⟩ ?_
            show At _ none _ _ (0, [(0, .ref 231), (1, .int v538)], [], (_, _)) _
            refine At.enter rfl ?_
            refine r_aload_n rfl ?_
            refine r_iconst 0 rfl ?_
            refine q_putI (Sh.int hI539.1 kx_231 rfl) rfl ?_
            have hI541 := HI.wI0 hI539 kx_231 rfl (p := 231) (b := 1) (v := 0) rfl
            have hF542 := Fr.wI (p := 231) (b := 1) (v := 0) hF540 rfl
            refine r_iload_n rfl ?_
            refine q_ireti ?_
            refine At.enter rfl ?_
            refine q_ireti ?_
            refine At.enter rfl ?_
            refine r_goto ?_
            refine At.enter rfl ?_
            refine r_ireti ?_
            have x543 := HI.eqA hI541 (p := 233) (j := 0) ((((eA_c gA_sI).trans ((eA_sA_ne hI293.1 ka_233 (by first | decide | omega) (by first | decide | omega) (by first | decide | omega)).trans (eA_c gA_sI))).trans hv482))
            obtain ⟨v544, hv544⟩ : ∃ v, eA g0 233 4 = v := ⟨_, rfl⟩
            have wv544 := HI.t4 hI0
            rw [hv544] at wv544
            have tv544 := congrArg Int32.toInt hv544
            have x545 := HI.eqA hI541 (p := 233) (j := 4) ((((eA_c gA_sI).trans ((eA_sA_ne hI293.1 ka_233 (by first | decide | omega) (by first | decide | omega) (by first | decide | omega)).trans (eA_c gA_sI))).trans hv544))
            obtain ⟨v546, hv546⟩ : ∃ v, eA g0 233 5 = v := ⟨_, rfl⟩
            have wv546 := HI.t5 hI0
            rw [hv546] at wv546
            have tv546 := congrArg Int32.toInt hv546
            have x547 := HI.eqA hI541 (p := 233) (j := 5) ((((eA_c gA_sI).trans ((eA_sA_ne hI293.1 ka_233 (by first | decide | omega) (by first | decide | omega) (by first | decide | omega)).trans (eA_c gA_sI))).trans hv546))
            obtain ⟨v548, hv548⟩ : ∃ v, eA g0 233 6 = v := ⟨_, rfl⟩
            have wv548 := HI.t6 hI0
            rw [hv548] at wv548
            have tv548 := congrArg Int32.toInt hv548
            have x549 := HI.eqA hI541 (p := 233) (j := 6) ((((eA_c gA_sI).trans ((eA_sA_ne hI293.1 ka_233 (by first | decide | omega) (by first | decide | omega) (by first | decide | omega)).trans (eA_c gA_sI))).trans hv548))
            obtain ⟨v550, hv550⟩ : ∃ v, eA g0 233 2 = v := ⟨_, rfl⟩
            have tv550 := congrArg Int32.toInt hv550
            have wv550 := HI.t2 hI0
            rw [hv550] at wv550
            have tv550 := congrArg Int32.toInt hv550
            have x551 := HI.eqA hI541 (p := 233) (j := 2) ((((eA_c gA_sI).trans ((eA_sA_ne hI293.1 ka_233 (by first | decide | omega) (by first | decide | omega) (by first | decide | omega)).trans (eA_c gA_sI))).trans hv550))
            obtain ⟨v552, hv552⟩ : ∃ v, eA g0 233 3 = v := ⟨_, rfl⟩
            have wv552 := HI.t3 hI0
            rw [hv552] at wv552
            have tv552 := congrArg Int32.toInt hv552
            have x553 := HI.eqA hI541 (p := 233) (j := 3) ((((eA_c gA_sI).trans ((eA_sA_ne hI293.1 ka_233 (by first | decide | omega) (by first | decide | omega) (by first | decide | omega)).trans (eA_c gA_sI))).trans hv552))
            have x554 := HI.eqA hI0 (p := 233) (j := 0) (hv482)
            have x555 := HI.eqA hI0 (p := 233) (j := 4) (hv544)
            have x556 := HI.eqA hI0 (p := 233) (j := 5) (hv546)
            have x557 := HI.eqA hI0 (p := 233) (j := 6) (hv548)
            have x558 := HI.eqA hI0 (p := 233) (j := 2) (hv550)
            have x559 := HI.eqA hI0 (p := 233) (j := 3) (hv552)
            exact ⟨_, rfl, hI541, hF542, _, rfl, by omega, ⟨by omega, by omega, by omega, by omega, by omega, by omega⟩⟩
  by_cases c295_2 : a2.toInt = 2
  · refine r_tsw 50 (by rw [c295_2]; rfl) ?_
    refine At.enter rfl ?_
    refine r_iload_n rfl ?_
    refine q_i2l (fun v560 hv560 => ?_)
    refine r_lconst 0 rfl ?_
    refine r_ldc2 99 rfl ?_
    refine q_inlS 59 rfl [.long v560, .long 0, .long 99] [] (Nat.le_of_ble_eq_true rfl) rfl ?_
    refine Ev.mk rfl rfl ⟨Nat.le_of_ble_eq_true rfl, Or.inl rfl⟩ ?_
    show At _ none _ _ (0, [(0, .long v560), (2, .long 0), (4, .long 99)], [], (_, _)) _
    refine At.enter rfl ?_
    refine r_lload_n rfl ?_
    refine r_lload_n rfl ?_
    refine r_lcmp _ rfl ?_
    refine r_ifs 6 rfl (fun c561 => ?_) (fun c561 => ?_)
    · have c561_ : v560.toInt < 0 := en_j_lt_t c561
      refine At.enter rfl ?_
      refine r_iconst 0 rfl ?_
      refine Ar.fall 18 rfl ?_
      refine At.enter rfl ?_
      refine q_iretz (by decide) ?_
      refine At.enter rfl ?_
      refine q_iretz (by decide) ?_
      refine At.enter rfl ?_
      refine r_iff 13 rfl (by decide) ?_
      refine At.enter rfl ?_
      refine r_aload_n rfl ?_
      refine r_iconst (-1) rfl ?_
      refine r_callV 18 rfl [.ref 231, .int (-1)] [] (Nat.le_of_ble_eq_true rfl) rfl (T_X11_tell_231 _ hI293 (-1) (by decide)) ?_
      rintro _ _ ⟨g562, rfl, hI563, hF564, v565, rfl, hr566⟩
      refine At.sti ?_
      have hF567 := Fr.tr hF294 hF564 rfl rfl
      have zv568 : ((-1) : Int32).toInt = (-1) := rfl
      refine At.enter rfl ?_
      refine r_ireti ?_
      obtain ⟨v569, hv569⟩ : ∃ v, eA g0 233 0 = v := ⟨_, rfl⟩
      have tv569 := congrArg Int32.toInt hv569
      have wv569 := HI.t0 hI0
      rw [hv569] at wv569
      have tv569 := congrArg Int32.toInt hv569
      have x570 := HI.eqA hI563 (p := 233) (j := 0) ((((eA_c (hF564.2.1 233 ma_X11_tell_231_233)).trans (eA_c gA_sI)).trans hv569))
      obtain ⟨v571, hv571⟩ : ∃ v, eA g0 233 4 = v := ⟨_, rfl⟩
      have wv571 := HI.t4 hI0
      rw [hv571] at wv571
      have tv571 := congrArg Int32.toInt hv571
      have x572 := HI.eqA hI563 (p := 233) (j := 4) ((((eA_c (hF564.2.1 233 ma_X11_tell_231_233)).trans (eA_c gA_sI)).trans hv571))
      obtain ⟨v573, hv573⟩ : ∃ v, eA g0 233 5 = v := ⟨_, rfl⟩
      have wv573 := HI.t5 hI0
      rw [hv573] at wv573
      have tv573 := congrArg Int32.toInt hv573
      have x574 := HI.eqA hI563 (p := 233) (j := 5) ((((eA_c (hF564.2.1 233 ma_X11_tell_231_233)).trans (eA_c gA_sI)).trans hv573))
      obtain ⟨v575, hv575⟩ : ∃ v, eA g0 233 6 = v := ⟨_, rfl⟩
      have wv575 := HI.t6 hI0
      rw [hv575] at wv575
      have tv575 := congrArg Int32.toInt hv575
      have x576 := HI.eqA hI563 (p := 233) (j := 6) ((((eA_c (hF564.2.1 233 ma_X11_tell_231_233)).trans (eA_c gA_sI)).trans hv575))
      obtain ⟨v577, hv577⟩ : ∃ v, eA g0 233 2 = v := ⟨_, rfl⟩
      have tv577 := congrArg Int32.toInt hv577
      have wv577 := HI.t2 hI0
      rw [hv577] at wv577
      have tv577 := congrArg Int32.toInt hv577
      have x578 := HI.eqA hI563 (p := 233) (j := 2) ((((eA_c (hF564.2.1 233 ma_X11_tell_231_233)).trans (eA_c gA_sI)).trans hv577))
      obtain ⟨v579, hv579⟩ : ∃ v, eA g0 233 3 = v := ⟨_, rfl⟩
      have wv579 := HI.t3 hI0
      rw [hv579] at wv579
      have tv579 := congrArg Int32.toInt hv579
      have x580 := HI.eqA hI563 (p := 233) (j := 3) ((((eA_c (hF564.2.1 233 ma_X11_tell_231_233)).trans (eA_c gA_sI)).trans hv579))
      have x581 := HI.eqA hI0 (p := 233) (j := 0) (hv569)
      have x582 := HI.eqA hI0 (p := 233) (j := 4) (hv571)
      have x583 := HI.eqA hI0 (p := 233) (j := 5) (hv573)
      have x584 := HI.eqA hI0 (p := 233) (j := 6) (hv575)
      have x585 := HI.eqA hI0 (p := 233) (j := 2) (hv577)
      have x586 := HI.eqA hI0 (p := 233) (j := 3) (hv579)
      exact ⟨_, rfl, hI563, hF567, _, rfl, by omega, ⟨by omega, by omega, by omega, by omega, by omega, by omega⟩⟩
    · have c561_ : v560.toInt ≥ 0 := en_j_lt_f c561
      refine At.enter rfl ?_
      refine r_lload_n rfl ?_
      refine r_lload rfl ?_
      refine r_lcmp _ rfl ?_
      refine r_ifs 13 rfl (fun c587 => ?_) (fun c587 => ?_)
      · have c587_ : v560.toInt > 99 := en_j_gt_t c587
        refine At.enter rfl ?_
        refine r_iconst 0 rfl ?_
        refine Ar.fall 18 rfl ?_
        refine At.enter rfl ?_
        refine q_iretz (by decide) ?_
        refine At.enter rfl ?_
        refine q_iretz (by decide) ?_
        refine At.enter rfl ?_
        refine r_iff 13 rfl (by decide) ?_
        refine At.enter rfl ?_
        refine r_aload_n rfl ?_
        refine r_iconst (-1) rfl ?_
        refine r_callV 18 rfl [.ref 231, .int (-1)] [] (Nat.le_of_ble_eq_true rfl) rfl (T_X11_tell_231 _ hI293 (-1) (by decide)) ?_
        rintro _ _ ⟨g588, rfl, hI589, hF590, v591, rfl, hr592⟩
        refine At.sti ?_
        have hF593 := Fr.tr hF294 hF590 rfl rfl
        have zv594 : ((-1) : Int32).toInt = (-1) := rfl
        refine At.enter rfl ?_
        refine r_ireti ?_
        obtain ⟨v595, hv595⟩ : ∃ v, eA g0 233 0 = v := ⟨_, rfl⟩
        have tv595 := congrArg Int32.toInt hv595
        have wv595 := HI.t0 hI0
        rw [hv595] at wv595
        have tv595 := congrArg Int32.toInt hv595
        have x596 := HI.eqA hI589 (p := 233) (j := 0) ((((eA_c (hF590.2.1 233 ma_X11_tell_231_233)).trans (eA_c gA_sI)).trans hv595))
        obtain ⟨v597, hv597⟩ : ∃ v, eA g0 233 4 = v := ⟨_, rfl⟩
        have wv597 := HI.t4 hI0
        rw [hv597] at wv597
        have tv597 := congrArg Int32.toInt hv597
        have x598 := HI.eqA hI589 (p := 233) (j := 4) ((((eA_c (hF590.2.1 233 ma_X11_tell_231_233)).trans (eA_c gA_sI)).trans hv597))
        obtain ⟨v599, hv599⟩ : ∃ v, eA g0 233 5 = v := ⟨_, rfl⟩
        have wv599 := HI.t5 hI0
        rw [hv599] at wv599
        have tv599 := congrArg Int32.toInt hv599
        have x600 := HI.eqA hI589 (p := 233) (j := 5) ((((eA_c (hF590.2.1 233 ma_X11_tell_231_233)).trans (eA_c gA_sI)).trans hv599))
        obtain ⟨v601, hv601⟩ : ∃ v, eA g0 233 6 = v := ⟨_, rfl⟩
        have wv601 := HI.t6 hI0
        rw [hv601] at wv601
        have tv601 := congrArg Int32.toInt hv601
        have x602 := HI.eqA hI589 (p := 233) (j := 6) ((((eA_c (hF590.2.1 233 ma_X11_tell_231_233)).trans (eA_c gA_sI)).trans hv601))
        obtain ⟨v603, hv603⟩ : ∃ v, eA g0 233 2 = v := ⟨_, rfl⟩
        have tv603 := congrArg Int32.toInt hv603
        have wv603 := HI.t2 hI0
        rw [hv603] at wv603
        have tv603 := congrArg Int32.toInt hv603
        have x604 := HI.eqA hI589 (p := 233) (j := 2) ((((eA_c (hF590.2.1 233 ma_X11_tell_231_233)).trans (eA_c gA_sI)).trans hv603))
        obtain ⟨v605, hv605⟩ : ∃ v, eA g0 233 3 = v := ⟨_, rfl⟩
        have wv605 := HI.t3 hI0
        rw [hv605] at wv605
        have tv605 := congrArg Int32.toInt hv605
        have x606 := HI.eqA hI589 (p := 233) (j := 3) ((((eA_c (hF590.2.1 233 ma_X11_tell_231_233)).trans (eA_c gA_sI)).trans hv605))
        have x607 := HI.eqA hI0 (p := 233) (j := 0) (hv595)
        have x608 := HI.eqA hI0 (p := 233) (j := 4) (hv597)
        have x609 := HI.eqA hI0 (p := 233) (j := 5) (hv599)
        have x610 := HI.eqA hI0 (p := 233) (j := 6) (hv601)
        have x611 := HI.eqA hI0 (p := 233) (j := 2) (hv603)
        have x612 := HI.eqA hI0 (p := 233) (j := 3) (hv605)
        exact ⟨_, rfl, hI589, hF593, _, rfl, by omega, ⟨by omega, by omega, by omega, by omega, by omega, by omega⟩⟩
      · have c587_ : v560.toInt ≤ 99 := en_j_gt_f c587
        refine At.enter rfl ?_
        refine r_iconst 1 rfl ?_
        refine r_goto ?_
        refine At.enter rfl ?_
        refine q_iretz (by decide) ?_
        refine At.enter rfl ?_
        refine q_iretz (by decide) ?_
        refine At.enter rfl ?_
        refine r_ift (by decide) ?_
        refine At.enter rfl ?_
        refine r_aload_n rfl ?_
        refine r_iload_n rfl ?_
        refine q_inlV 24 rfl [.ref 231, .int a1] [] (Nat.le_of_ble_eq_true rfl) rfl ?_
        refine Ev.mk rfl rfl ⟨Nat.le_of_ble_eq_true rfl, Or.inr (q_rc hI293.1 kx_231 rfl)⟩ ?_
        show At _ none _ _ (0, [(0, .ref 231), (1, .int a1)], [], (_, _)) _
        refine At.enter rfl ?_
        refine r_iload_n rfl ?_
        refine q_i2l (fun v613 hv613 => ?_)
        refine r_lconst 0 rfl ?_
        refine r_aload_n rfl ?_
        refine q_getR (Sh.ref hI293.1 kx_231 rfl) ?_
        refine r_iconst 0 rfl ?_
        obtain ⟨v614, hv614⟩ : ∃ v, eA g0 233 0 = v := ⟨_, rfl⟩
        have tv614 := congrArg Int32.toInt hv614
        have wv614 := HI.t0 hI0
        rw [hv614] at wv614
        refine q_iald (Sh.arr hI293.1 ka_233) 0 rfl (by decide) v614 ((eA_c (gA_sI)).trans hv614) ?_
        refine q_i2l (fun v615 hv615 => ?_)
        refine r_lconst 1 rfl ?_
        refine q_lsub (v615.toInt - 1) rfl (by omega) (fun v616 hv616 => ?_)
        refine q_inlS 15 rfl [.long v613, .long 0, .long v616] [] (Nat.le_of_ble_eq_true rfl) rfl ?_
        refine Ev.mk rfl rfl ⟨Nat.le_of_ble_eq_true rfl, Or.inl rfl⟩ ?_
        show At _ none _ _ (0, [(0, .long v613), (2, .long 0), (4, .long v616)], [], (_, _)) _
        refine At.enter rfl ?_
        refine r_lload_n rfl ?_
        refine r_lload_n rfl ?_
        refine r_lcmp _ rfl ?_
        refine r_ifs 6 rfl (fun c617 => ?_) (fun c617 => ?_)
        · have c617_ : v613.toInt < 0 := en_j_lt_t c617
          refine At.enter rfl ?_
          refine r_iconst 0 rfl ?_
          refine Ar.fall 18 rfl ?_
          refine At.enter rfl ?_
          refine q_iretz (by decide) ?_
          refine At.enter rfl ?_
          refine q_iretz (by decide) ?_
          refine At.enter rfl ?_
          refine r_ift (by decide) ?_
          refine At.enter rfl ?_
          refine r_aload_n rfl ?_
          refine r_bipush (-2) rfl ?_
          refine r_callV 49 rfl [.ref 231, .int (-2)] [] (Nat.le_of_ble_eq_true rfl) rfl (T_X11_tell_231 _ hI293 (-2) (by decide)) ?_
          rintro _ _ ⟨g618, rfl, hI619, hF620, v621, rfl, hr622⟩
          refine At.sti ?_
          have hF623 := Fr.tr hF294 hF620 rfl rfl
          have zv624 : ((-2) : Int32).toInt = (-2) := rfl
          refine At.enter rfl ?_
          refine r_ireti ?_
          have x625 := HI.eqA hI619 (p := 233) (j := 0) ((((eA_c (hF620.2.1 233 ma_X11_tell_231_233)).trans (eA_c gA_sI)).trans hv614))
          obtain ⟨v626, hv626⟩ : ∃ v, eA g0 233 4 = v := ⟨_, rfl⟩
          have wv626 := HI.t4 hI0
          rw [hv626] at wv626
          have tv626 := congrArg Int32.toInt hv626
          have x627 := HI.eqA hI619 (p := 233) (j := 4) ((((eA_c (hF620.2.1 233 ma_X11_tell_231_233)).trans (eA_c gA_sI)).trans hv626))
          obtain ⟨v628, hv628⟩ : ∃ v, eA g0 233 5 = v := ⟨_, rfl⟩
          have wv628 := HI.t5 hI0
          rw [hv628] at wv628
          have tv628 := congrArg Int32.toInt hv628
          have x629 := HI.eqA hI619 (p := 233) (j := 5) ((((eA_c (hF620.2.1 233 ma_X11_tell_231_233)).trans (eA_c gA_sI)).trans hv628))
          obtain ⟨v630, hv630⟩ : ∃ v, eA g0 233 6 = v := ⟨_, rfl⟩
          have wv630 := HI.t6 hI0
          rw [hv630] at wv630
          have tv630 := congrArg Int32.toInt hv630
          have x631 := HI.eqA hI619 (p := 233) (j := 6) ((((eA_c (hF620.2.1 233 ma_X11_tell_231_233)).trans (eA_c gA_sI)).trans hv630))
          obtain ⟨v632, hv632⟩ : ∃ v, eA g0 233 2 = v := ⟨_, rfl⟩
          have tv632 := congrArg Int32.toInt hv632
          have wv632 := HI.t2 hI0
          rw [hv632] at wv632
          have tv632 := congrArg Int32.toInt hv632
          have x633 := HI.eqA hI619 (p := 233) (j := 2) ((((eA_c (hF620.2.1 233 ma_X11_tell_231_233)).trans (eA_c gA_sI)).trans hv632))
          obtain ⟨v634, hv634⟩ : ∃ v, eA g0 233 3 = v := ⟨_, rfl⟩
          have wv634 := HI.t3 hI0
          rw [hv634] at wv634
          have tv634 := congrArg Int32.toInt hv634
          have x635 := HI.eqA hI619 (p := 233) (j := 3) ((((eA_c (hF620.2.1 233 ma_X11_tell_231_233)).trans (eA_c gA_sI)).trans hv634))
          have x636 := HI.eqA hI0 (p := 233) (j := 0) (hv614)
          have x637 := HI.eqA hI0 (p := 233) (j := 4) (hv626)
          have x638 := HI.eqA hI0 (p := 233) (j := 5) (hv628)
          have x639 := HI.eqA hI0 (p := 233) (j := 6) (hv630)
          have x640 := HI.eqA hI0 (p := 233) (j := 2) (hv632)
          have x641 := HI.eqA hI0 (p := 233) (j := 3) (hv634)
          exact ⟨_, rfl, hI619, hF623, _, rfl, by omega, ⟨by omega, by omega, by omega, by omega, by omega, by omega⟩⟩
        · have c617_ : v613.toInt ≥ 0 := en_j_lt_f c617
          refine At.enter rfl ?_
          refine r_lload_n rfl ?_
          refine r_lload rfl ?_
          refine r_lcmp _ rfl ?_
          refine r_ifs 13 rfl (fun c642 => ?_) (fun c642 => ?_)
          · have c642_ : v613.toInt > v616.toInt := en_j_gt_t c642
            refine At.enter rfl ?_
            refine r_iconst 0 rfl ?_
            refine Ar.fall 18 rfl ?_
            refine At.enter rfl ?_
            refine q_iretz (by decide) ?_
            refine At.enter rfl ?_
            refine q_iretz (by decide) ?_
            refine At.enter rfl ?_
            refine r_ift (by decide) ?_
            refine At.enter rfl ?_
            refine r_aload_n rfl ?_
            refine r_bipush (-2) rfl ?_
            refine r_callV 49 rfl [.ref 231, .int (-2)] [] (Nat.le_of_ble_eq_true rfl) rfl (T_X11_tell_231 _ hI293 (-2) (by decide)) ?_
            rintro _ _ ⟨g643, rfl, hI644, hF645, v646, rfl, hr647⟩
            refine At.sti ?_
            have hF648 := Fr.tr hF294 hF645 rfl rfl
            have zv649 : ((-2) : Int32).toInt = (-2) := rfl
            refine At.enter rfl ?_
            refine r_ireti ?_
            have x650 := HI.eqA hI644 (p := 233) (j := 0) ((((eA_c (hF645.2.1 233 ma_X11_tell_231_233)).trans (eA_c gA_sI)).trans hv614))
            obtain ⟨v651, hv651⟩ : ∃ v, eA g0 233 4 = v := ⟨_, rfl⟩
            have wv651 := HI.t4 hI0
            rw [hv651] at wv651
            have tv651 := congrArg Int32.toInt hv651
            have x652 := HI.eqA hI644 (p := 233) (j := 4) ((((eA_c (hF645.2.1 233 ma_X11_tell_231_233)).trans (eA_c gA_sI)).trans hv651))
            obtain ⟨v653, hv653⟩ : ∃ v, eA g0 233 5 = v := ⟨_, rfl⟩
            have wv653 := HI.t5 hI0
            rw [hv653] at wv653
            have tv653 := congrArg Int32.toInt hv653
            have x654 := HI.eqA hI644 (p := 233) (j := 5) ((((eA_c (hF645.2.1 233 ma_X11_tell_231_233)).trans (eA_c gA_sI)).trans hv653))
            obtain ⟨v655, hv655⟩ : ∃ v, eA g0 233 6 = v := ⟨_, rfl⟩
            have wv655 := HI.t6 hI0
            rw [hv655] at wv655
            have tv655 := congrArg Int32.toInt hv655
            have x656 := HI.eqA hI644 (p := 233) (j := 6) ((((eA_c (hF645.2.1 233 ma_X11_tell_231_233)).trans (eA_c gA_sI)).trans hv655))
            obtain ⟨v657, hv657⟩ : ∃ v, eA g0 233 2 = v := ⟨_, rfl⟩
            have tv657 := congrArg Int32.toInt hv657
            have wv657 := HI.t2 hI0
            rw [hv657] at wv657
            have tv657 := congrArg Int32.toInt hv657
            have x658 := HI.eqA hI644 (p := 233) (j := 2) ((((eA_c (hF645.2.1 233 ma_X11_tell_231_233)).trans (eA_c gA_sI)).trans hv657))
            obtain ⟨v659, hv659⟩ : ∃ v, eA g0 233 3 = v := ⟨_, rfl⟩
            have wv659 := HI.t3 hI0
            rw [hv659] at wv659
            have tv659 := congrArg Int32.toInt hv659
            have x660 := HI.eqA hI644 (p := 233) (j := 3) ((((eA_c (hF645.2.1 233 ma_X11_tell_231_233)).trans (eA_c gA_sI)).trans hv659))
            have x661 := HI.eqA hI0 (p := 233) (j := 0) (hv614)
            have x662 := HI.eqA hI0 (p := 233) (j := 4) (hv651)
            have x663 := HI.eqA hI0 (p := 233) (j := 5) (hv653)
            have x664 := HI.eqA hI0 (p := 233) (j := 6) (hv655)
            have x665 := HI.eqA hI0 (p := 233) (j := 2) (hv657)
            have x666 := HI.eqA hI0 (p := 233) (j := 3) (hv659)
            exact ⟨_, rfl, hI644, hF648, _, rfl, by omega, ⟨by omega, by omega, by omega, by omega, by omega, by omega⟩⟩
          · have c642_ : v613.toInt ≤ v616.toInt := en_j_gt_f c642
            refine At.enter rfl ?_
            refine r_iconst 1 rfl ?_
            refine r_goto ?_
            refine At.enter rfl ?_
            refine q_iretz (by decide) ?_
            refine At.enter rfl ?_
            refine q_iretz (by decide) ?_
            refine At.enter rfl ?_
            refine r_iff 27 rfl (by decide) ?_
            refine At.enter rfl ?_
            refine r_aload_n rfl ?_
            refine r_bipush 10 rfl ?_
            refine r_iconst 3 rfl ?_
            refine r_iload_n rfl ?_
            refine q_imul (3 * a1.toInt) rfl (by omega) (fun v667 hv667 => ?_)
            refine q_iadd (10 + v667.toInt) rfl (by omega) (fun v668 hv668 => ?_)
            refine r_iload_n rfl ?_
            refine q_iadd (v668.toInt + a2.toInt) rfl (by omega) (fun v669 hv669 => ?_)
            refine r_iload_n rfl ?_
            refine q_inlV 40 rfl [.ref 231, .int v669, .int a3] [] (Nat.le_of_ble_eq_true rfl) rfl ?_
            refine Ev.mk rfl rfl ⟨Nat.le_of_ble_eq_true rfl, Or.inr (q_rc hI293.1 kx_231 rfl)⟩ ?_
            show At _ none _ _ (0, [(0, .ref 231), (1, .int v669), (2, .int a3)], [], (_, _)) _
            refine At.enter rfl ?_
            refine r_aload_n rfl ?_
            refine q_getR (Sh.ref hI293.1 kx_231 rfl) ?_
            refine r_iload_n rfl ?_
            obtain ⟨v670, hv670⟩ : ∃ v, eA g0 233 (3 * a1.toInt + a2.toInt + 10) = v := ⟨_, rfl⟩
            have wv670 := HI.s2 hI0 (j := (3 * a1.toInt + a2.toInt + 10)) (a1.toInt) (by omega) (by omega)
            rw [hv670] at wv670
            refine q_iald (Sh.arr hI293.1 ka_233) (3 * a1.toInt + a2.toInt + 10) (by omega) (by omega) v670 ((eA_c (gA_sI)).trans hv670) ?_
            refine r_istore_n ([(3, .int v670), (0, .ref 231), (1, .int v669), (2, .int a3)]) rfl ?_
            refine r_aload_n rfl ?_
            refine q_getR (Sh.ref hI293.1 kx_231 rfl) ?_
            refine r_iload_n rfl ?_
            refine r_iload_n rfl ?_
            refine q_iast (Sh.arr hI293.1 ka_233) ((3 * a1.toInt + a2.toInt + 10)) (by omega) (by omega) ?_
            have hI671 := HI.ws hI293 (j := (3 * a1.toInt + a2.toInt + 10)) (v := a3) (a1.toInt) 2 (by omega) (by decide) (by omega) (by omega)
            have hF672 := Fr.wA (p := 233) (j := (3 * a1.toInt + a2.toInt + 10)) (v := a3) hF294 rfl
            refine r_aload_n rfl ?_
            refine r_iload_n rfl ?_
            refine q_inlV 19 rfl [.ref 231, .int v670] [] (Nat.le_of_ble_eq_true rfl) rfl ?_
            refine Ev.mk rfl rfl ⟨Nat.le_of_ble_eq_true rfl, Or.inr (q_rc hI671.1 kx_231 rfl)⟩ ?_
            show At _ none _ _ (0, [(0, .ref 231), (1, .int v670)], [], (_, _)) _
            refine At.enter rfl ?_
            refine r_aload_n rfl ?_
            refine r_iconst 0 rfl ?_
            refine q_putI (Sh.int hI671.1 kx_231 rfl) rfl ?_
            have hI673 := HI.wI0 hI671 kx_231 rfl (p := 231) (b := 1) (v := 0) rfl
            have hF674 := Fr.wI (p := 231) (b := 1) (v := 0) hF672 rfl
            refine r_iload_n rfl ?_
            refine q_ireti ?_
            refine At.enter rfl ?_
            refine q_ireti ?_
            refine At.enter rfl ?_
            refine r_goto ?_
            refine At.enter rfl ?_
            refine r_ireti ?_
            have x675 := HI.eqA hI673 (p := 233) (j := 0) ((((eA_c gA_sI).trans ((eA_sA_ne hI293.1 ka_233 (by first | decide | omega) (by first | decide | omega) (by first | decide | omega)).trans (eA_c gA_sI))).trans hv614))
            obtain ⟨v676, hv676⟩ : ∃ v, eA g0 233 4 = v := ⟨_, rfl⟩
            have wv676 := HI.t4 hI0
            rw [hv676] at wv676
            have tv676 := congrArg Int32.toInt hv676
            have x677 := HI.eqA hI673 (p := 233) (j := 4) ((((eA_c gA_sI).trans ((eA_sA_ne hI293.1 ka_233 (by first | decide | omega) (by first | decide | omega) (by first | decide | omega)).trans (eA_c gA_sI))).trans hv676))
            obtain ⟨v678, hv678⟩ : ∃ v, eA g0 233 5 = v := ⟨_, rfl⟩
            have wv678 := HI.t5 hI0
            rw [hv678] at wv678
            have tv678 := congrArg Int32.toInt hv678
            have x679 := HI.eqA hI673 (p := 233) (j := 5) ((((eA_c gA_sI).trans ((eA_sA_ne hI293.1 ka_233 (by first | decide | omega) (by first | decide | omega) (by first | decide | omega)).trans (eA_c gA_sI))).trans hv678))
            obtain ⟨v680, hv680⟩ : ∃ v, eA g0 233 6 = v := ⟨_, rfl⟩
            have wv680 := HI.t6 hI0
            rw [hv680] at wv680
            have tv680 := congrArg Int32.toInt hv680
            have x681 := HI.eqA hI673 (p := 233) (j := 6) ((((eA_c gA_sI).trans ((eA_sA_ne hI293.1 ka_233 (by first | decide | omega) (by first | decide | omega) (by first | decide | omega)).trans (eA_c gA_sI))).trans hv680))
            obtain ⟨v682, hv682⟩ : ∃ v, eA g0 233 2 = v := ⟨_, rfl⟩
            have tv682 := congrArg Int32.toInt hv682
            have wv682 := HI.t2 hI0
            rw [hv682] at wv682
            have tv682 := congrArg Int32.toInt hv682
            have x683 := HI.eqA hI673 (p := 233) (j := 2) ((((eA_c gA_sI).trans ((eA_sA_ne hI293.1 ka_233 (by first | decide | omega) (by first | decide | omega) (by first | decide | omega)).trans (eA_c gA_sI))).trans hv682))
            obtain ⟨v684, hv684⟩ : ∃ v, eA g0 233 3 = v := ⟨_, rfl⟩
            have wv684 := HI.t3 hI0
            rw [hv684] at wv684
            have tv684 := congrArg Int32.toInt hv684
            have x685 := HI.eqA hI673 (p := 233) (j := 3) ((((eA_c gA_sI).trans ((eA_sA_ne hI293.1 ka_233 (by first | decide | omega) (by first | decide | omega) (by first | decide | omega)).trans (eA_c gA_sI))).trans hv684))
            have x686 := HI.eqA hI0 (p := 233) (j := 0) (hv614)
            have x687 := HI.eqA hI0 (p := 233) (j := 4) (hv676)
            have x688 := HI.eqA hI0 (p := 233) (j := 5) (hv678)
            have x689 := HI.eqA hI0 (p := 233) (j := 6) (hv680)
            have x690 := HI.eqA hI0 (p := 233) (j := 2) (hv682)
            have x691 := HI.eqA hI0 (p := 233) (j := 3) (hv684)
            exact ⟨_, rfl, hI673, hF674, _, rfl, by omega, ⟨by omega, by omega, by omega, by omega, by omega, by omega⟩⟩
  have c692 : a2.toInt < 0 ∨ 2 < a2.toInt := by omega
  refine r_tsw 60 (by unfold en_sw; rw [if_pos c692]; rfl) ?_
  refine At.enter rfl ?_
  refine r_iconst 0 rfl ?_
  refine q_iretz (by decide) ?_
  refine At.enter rfl ?_
  refine r_iff 13 rfl (by decide) ?_
  refine At.enter rfl ?_
  refine r_aload_n rfl ?_
  refine r_iconst (-1) rfl ?_
  refine r_callV 18 rfl [.ref 231, .int (-1)] [] (Nat.le_of_ble_eq_true rfl) rfl (T_X11_tell_231 _ hI293 (-1) (by decide)) ?_
  rintro _ _ ⟨g693, rfl, hI694, hF695, v696, rfl, hr697⟩
  refine At.sti ?_
  have hF698 := Fr.tr hF294 hF695 rfl rfl
  have zv699 : ((-1) : Int32).toInt = (-1) := rfl
  refine At.enter rfl ?_
  refine r_ireti ?_
  obtain ⟨v700, hv700⟩ : ∃ v, eA g0 233 0 = v := ⟨_, rfl⟩
  have tv700 := congrArg Int32.toInt hv700
  have wv700 := HI.t0 hI0
  rw [hv700] at wv700
  have tv700 := congrArg Int32.toInt hv700
  have x701 := HI.eqA hI694 (p := 233) (j := 0) ((((eA_c (hF695.2.1 233 ma_X11_tell_231_233)).trans (eA_c gA_sI)).trans hv700))
  obtain ⟨v702, hv702⟩ : ∃ v, eA g0 233 4 = v := ⟨_, rfl⟩
  have wv702 := HI.t4 hI0
  rw [hv702] at wv702
  have tv702 := congrArg Int32.toInt hv702
  have x703 := HI.eqA hI694 (p := 233) (j := 4) ((((eA_c (hF695.2.1 233 ma_X11_tell_231_233)).trans (eA_c gA_sI)).trans hv702))
  obtain ⟨v704, hv704⟩ : ∃ v, eA g0 233 5 = v := ⟨_, rfl⟩
  have wv704 := HI.t5 hI0
  rw [hv704] at wv704
  have tv704 := congrArg Int32.toInt hv704
  have x705 := HI.eqA hI694 (p := 233) (j := 5) ((((eA_c (hF695.2.1 233 ma_X11_tell_231_233)).trans (eA_c gA_sI)).trans hv704))
  obtain ⟨v706, hv706⟩ : ∃ v, eA g0 233 6 = v := ⟨_, rfl⟩
  have wv706 := HI.t6 hI0
  rw [hv706] at wv706
  have tv706 := congrArg Int32.toInt hv706
  have x707 := HI.eqA hI694 (p := 233) (j := 6) ((((eA_c (hF695.2.1 233 ma_X11_tell_231_233)).trans (eA_c gA_sI)).trans hv706))
  obtain ⟨v708, hv708⟩ : ∃ v, eA g0 233 2 = v := ⟨_, rfl⟩
  have tv708 := congrArg Int32.toInt hv708
  have wv708 := HI.t2 hI0
  rw [hv708] at wv708
  have tv708 := congrArg Int32.toInt hv708
  have x709 := HI.eqA hI694 (p := 233) (j := 2) ((((eA_c (hF695.2.1 233 ma_X11_tell_231_233)).trans (eA_c gA_sI)).trans hv708))
  obtain ⟨v710, hv710⟩ : ∃ v, eA g0 233 3 = v := ⟨_, rfl⟩
  have wv710 := HI.t3 hI0
  rw [hv710] at wv710
  have tv710 := congrArg Int32.toInt hv710
  have x711 := HI.eqA hI694 (p := 233) (j := 3) ((((eA_c (hF695.2.1 233 ma_X11_tell_231_233)).trans (eA_c gA_sI)).trans hv710))
  have x712 := HI.eqA hI0 (p := 233) (j := 0) (hv700)
  have x713 := HI.eqA hI0 (p := 233) (j := 4) (hv702)
  have x714 := HI.eqA hI0 (p := 233) (j := 5) (hv704)
  have x715 := HI.eqA hI0 (p := 233) (j := 6) (hv706)
  have x716 := HI.eqA hI0 (p := 233) (j := 2) (hv708)
  have x717 := HI.eqA hI0 (p := 233) (j := 3) (hv710)
  exact ⟨_, rfl, hI694, hF698, _, rfl, by omega, ⟨by omega, by omega, by omega, by omega, by omega, by omega⟩⟩
