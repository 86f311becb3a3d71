def F_X11_load_231 : List (Nat × Nat) := [(231, 0), (231, 1)]
def A_X11_load_231 : List Nat := [232, 233]
set_option maxRecDepth 100000 in
set_option maxHeartbeats 4000000 in
theorem T_X11_load_231 (d : Nat) {N : Nat} {g0 : List en_E} (hI0 : HI g0) (a1 : Int32) (a2 : Int32) (a3 : Int32) (a4 : Int32) (a5 : Int32) (a6 : Int32) : Ev (d + 3) 178 [.ref 231, .int a1, .int a2, .int a3, .int a4, .int a5, .int a6] (g0, N) (fun w h' => ∃ g', h' = (g', N) ∧ HI g' ∧ Fr F_X11_load_231 A_X11_load_231 g0 g' ∧ ∃ r : Int32, w = some (.int r) ∧ ((-5) ≤ r.toInt ∧ r.toInt ≤ 7) ∧ ((eA g' 233 0).toInt = (eA g0 233 0).toInt ∧ (eA g' 233 4).toInt = (eA g0 233 4).toInt ∧ (eA g' 233 5).toInt = (eA g0 233 5).toInt ∧ (eA g' 233 6).toInt = (eA g0 233 6).toInt ∧ (eA g' 233 2).toInt = (eA g0 233 2).toInt ∧ (eA g' 233 3).toInt = (eA g0 233 3).toInt)) := by
  have hF0 : Fr F_X11_load_231 A_X11_load_231 g0 g0 := Fr.rf
  refine Ev.mk rfl rfl ⟨Nat.le_of_ble_eq_true rfl, Or.inr (q_rc hI0.1 kx_231 rfl)⟩ ?_
  show At _ none _ _ (0, [(0, .ref 231), (1, .int a1), (2, .int a2), (3, .int a3), (4, .int a4), (5, .int a5), (6, .int a6)], [], (_, _)) _
  refine At.enter rfl ?_
  refine r_aload_n rfl ?_
  refine r_iconst 0 rfl ?_
  refine q_putI (Sh.int hI0.1 kx_231 rfl) rfl ?_
  have hI305 := HI.wI0 hI0 kx_231 rfl (p := 231) (b := 0) (v := 0) rfl
  have hF306 := Fr.wI (p := 231) (b := 0) (v := 0) hF0 rfl
  refine r_iload_n rfl ?_
  refine r_iload rfl ?_
  refine r_iload rfl ?_
  refine r_iload rfl ?_
  refine q_inlS 15 rfl [.int a1, .int a4, .int a5, .int a6] [] (Nat.le_of_ble_eq_true rfl) rfl ?_
  refine Ev.mk rfl rfl ⟨Nat.le_of_ble_eq_true rfl, Or.inl rfl⟩ ?_
  show At _ none _ _ (0, [(0, .int a1), (1, .int a4), (2, .int a5), (3, .int a6)], [], (_, _)) _
  refine At.enter rfl ?_
  refine r_iload_n rfl ?_
  refine q_i2l (fun v307 hv307 => ?_)
  refine r_lconst 1 rfl ?_
  refine r_ldc2 9 rfl ?_
  refine q_inlS 9 rfl [.long v307, .long 1, .long 9] [] (Nat.le_of_ble_eq_true rfl) rfl ?_
  refine Ev.mk rfl rfl ⟨Nat.le_of_ble_eq_true rfl, Or.inl rfl⟩ ?_
  show At _ none _ _ (0, [(0, .long v307), (2, .long 1), (4, .long 9)], [], (_, _)) _
  refine At.enter rfl ?_
  refine r_lload_n rfl ?_
  refine r_lload_n rfl ?_
  refine r_lcmp _ rfl ?_
  refine r_ifs 6 rfl (fun c308 => ?_) (fun c308 => ?_)
  · have c308_ : v307.toInt < 1 := en_j_lt_t c308
    refine At.enter rfl ?_
    refine r_iconst 0 rfl ?_
    refine Ar.fall 18 rfl ?_
    refine At.enter rfl ?_
    refine q_iretz (by decide) ?_
    refine At.enter rfl ?_
    refine r_ift (by decide) ?_
    refine At.enter rfl ?_
    refine r_iconst 0 rfl ?_
    refine Ar.fall 53 rfl ?_
    refine At.enter rfl ?_
    refine q_iretz (by decide) ?_
    refine At.enter rfl ?_
    refine r_iff 18 rfl (by decide) ?_
    refine At.enter rfl ?_
    refine r_aload_n rfl ?_
    refine r_iconst (-1) rfl ?_
    refine r_callV 23 rfl [.ref 231, .int (-1)] [] (Nat.le_of_ble_eq_true rfl) rfl (T_X11_tell_231 _ hI305 (-1) (by decide)) ?_
    rintro _ _ ⟨g309, rfl, hI310, hF311, v312, rfl, hr313⟩
    refine At.sti ?_
    have hF314 := Fr.tr hF306 hF311 rfl rfl
    have zv315 : ((-1) : Int32).toInt = (-1) := rfl
    refine At.enter rfl ?_
    refine r_ireti ?_
    obtain ⟨v316, hv316⟩ : ∃ v, eA g0 233 0 = v := ⟨_, rfl⟩
    have tv316 := congrArg Int32.toInt hv316
    have wv316 := HI.t0 hI0
    rw [hv316] at wv316
    have tv316 := congrArg Int32.toInt hv316
    have x317 := HI.eqA hI310 (p := 233) (j := 0) ((((eA_c (hF311.2.1 233 ma_X11_tell_231_233)).trans (eA_c gA_sI)).trans hv316))
    obtain ⟨v318, hv318⟩ : ∃ v, eA g0 233 4 = v := ⟨_, rfl⟩
    have wv318 := HI.t4 hI0
    rw [hv318] at wv318
    have tv318 := congrArg Int32.toInt hv318
    have x319 := HI.eqA hI310 (p := 233) (j := 4) ((((eA_c (hF311.2.1 233 ma_X11_tell_231_233)).trans (eA_c gA_sI)).trans hv318))
    obtain ⟨v320, hv320⟩ : ∃ v, eA g0 233 5 = v := ⟨_, rfl⟩
    have wv320 := HI.t5 hI0
    rw [hv320] at wv320
    have tv320 := congrArg Int32.toInt hv320
    have x321 := HI.eqA hI310 (p := 233) (j := 5) ((((eA_c (hF311.2.1 233 ma_X11_tell_231_233)).trans (eA_c gA_sI)).trans hv320))
    obtain ⟨v322, hv322⟩ : ∃ v, eA g0 233 6 = v := ⟨_, rfl⟩
    have wv322 := HI.t6 hI0
    rw [hv322] at wv322
    have tv322 := congrArg Int32.toInt hv322
    have x323 := HI.eqA hI310 (p := 233) (j := 6) ((((eA_c (hF311.2.1 233 ma_X11_tell_231_233)).trans (eA_c gA_sI)).trans hv322))
    obtain ⟨v324, hv324⟩ : ∃ v, eA g0 233 2 = v := ⟨_, rfl⟩
    have tv324 := congrArg Int32.toInt hv324
    have wv324 := HI.t2 hI0
    rw [hv324] at wv324
    have tv324 := congrArg Int32.toInt hv324
    have x325 := HI.eqA hI310 (p := 233) (j := 2) ((((eA_c (hF311.2.1 233 ma_X11_tell_231_233)).trans (eA_c gA_sI)).trans hv324))
    obtain ⟨v326, hv326⟩ : ∃ v, eA g0 233 3 = v := ⟨_, rfl⟩
    have wv326 := HI.t3 hI0
    rw [hv326] at wv326
    have tv326 := congrArg Int32.toInt hv326
    have x327 := HI.eqA hI310 (p := 233) (j := 3) ((((eA_c (hF311.2.1 233 ma_X11_tell_231_233)).trans (eA_c gA_sI)).trans hv326))
    have x328 := HI.eqA hI0 (p := 233) (j := 0) (hv316)
    have x329 := HI.eqA hI0 (p := 233) (j := 4) (hv318)
    have x330 := HI.eqA hI0 (p := 233) (j := 5) (hv320)
    have x331 := HI.eqA hI0 (p := 233) (j := 6) (hv322)
    have x332 := HI.eqA hI0 (p := 233) (j := 2) (hv324)
    have x333 := HI.eqA hI0 (p := 233) (j := 3) (hv326)
    exact ⟨_, rfl, hI310, hF314, _, rfl, by omega, ⟨by omega, by omega, by omega, by omega, by omega, by omega⟩⟩
  · have c308_ : v307.toInt ≥ 1 := en_j_lt_f c308
    refine At.enter rfl ?_
    refine r_lload_n rfl ?_
    refine r_lload rfl ?_
    refine r_lcmp _ rfl ?_
    refine r_ifs 13 rfl (fun c334 => ?_) (fun c334 => ?_)
    · have c334_ : v307.toInt > 9 := en_j_gt_t c334
      refine At.enter rfl ?_
      refine r_iconst 0 rfl ?_
      refine Ar.fall 18 rfl ?_
      refine At.enter rfl ?_
      refine q_iretz (by decide) ?_
      refine At.enter rfl ?_
      refine r_ift (by decide) ?_
      refine At.enter rfl ?_
      refine r_iconst 0 rfl ?_
      refine Ar.fall 53 rfl ?_
      refine At.enter rfl ?_
      refine q_iretz (by decide) ?_
      refine At.enter rfl ?_
      refine r_iff 18 rfl (by decide) ?_
      refine At.enter rfl ?_
      refine r_aload_n rfl ?_
      refine r_iconst (-1) rfl ?_
      refine r_callV 23 rfl [.ref 231, .int (-1)] [] (Nat.le_of_ble_eq_true rfl) rfl (T_X11_tell_231 _ hI305 (-1) (by decide)) ?_
      rintro _ _ ⟨g335, rfl, hI336, hF337, v338, rfl, hr339⟩
      refine At.sti ?_
      have hF340 := Fr.tr hF306 hF337 rfl rfl
      have zv341 : ((-1) : Int32).toInt = (-1) := rfl
      refine At.enter rfl ?_
      refine r_ireti ?_
      obtain ⟨v342, hv342⟩ : ∃ v, eA g0 233 0 = v := ⟨_, rfl⟩
      have tv342 := congrArg Int32.toInt hv342
      have wv342 := HI.t0 hI0
      rw [hv342] at wv342
      have tv342 := congrArg Int32.toInt hv342
      have x343 := HI.eqA hI336 (p := 233) (j := 0) ((((eA_c (hF337.2.1 233 ma_X11_tell_231_233)).trans (eA_c gA_sI)).trans hv342))
      obtain ⟨v344, hv344⟩ : ∃ v, eA g0 233 4 = v := ⟨_, rfl⟩
      have wv344 := HI.t4 hI0
      rw [hv344] at wv344
      have tv344 := congrArg Int32.toInt hv344
      have x345 := HI.eqA hI336 (p := 233) (j := 4) ((((eA_c (hF337.2.1 233 ma_X11_tell_231_233)).trans (eA_c gA_sI)).trans hv344))
      obtain ⟨v346, hv346⟩ : ∃ v, eA g0 233 5 = v := ⟨_, rfl⟩
      have wv346 := HI.t5 hI0
      rw [hv346] at wv346
      have tv346 := congrArg Int32.toInt hv346
      have x347 := HI.eqA hI336 (p := 233) (j := 5) ((((eA_c (hF337.2.1 233 ma_X11_tell_231_233)).trans (eA_c gA_sI)).trans hv346))
      obtain ⟨v348, hv348⟩ : ∃ v, eA g0 233 6 = v := ⟨_, rfl⟩
      have wv348 := HI.t6 hI0
      rw [hv348] at wv348
      have tv348 := congrArg Int32.toInt hv348
      have x349 := HI.eqA hI336 (p := 233) (j := 6) ((((eA_c (hF337.2.1 233 ma_X11_tell_231_233)).trans (eA_c gA_sI)).trans hv348))
      obtain ⟨v350, hv350⟩ : ∃ v, eA g0 233 2 = v := ⟨_, rfl⟩
      have tv350 := congrArg Int32.toInt hv350
      have wv350 := HI.t2 hI0
      rw [hv350] at wv350
      have tv350 := congrArg Int32.toInt hv350
      have x351 := HI.eqA hI336 (p := 233) (j := 2) ((((eA_c (hF337.2.1 233 ma_X11_tell_231_233)).trans (eA_c gA_sI)).trans hv350))
      obtain ⟨v352, hv352⟩ : ∃ v, eA g0 233 3 = v := ⟨_, rfl⟩
      have wv352 := HI.t3 hI0
      rw [hv352] at wv352
      have tv352 := congrArg Int32.toInt hv352
      have x353 := HI.eqA hI336 (p := 233) (j := 3) ((((eA_c (hF337.2.1 233 ma_X11_tell_231_233)).trans (eA_c gA_sI)).trans hv352))
      have x354 := HI.eqA hI0 (p := 233) (j := 0) (hv342)
      have x355 := HI.eqA hI0 (p := 233) (j := 4) (hv344)
      have x356 := HI.eqA hI0 (p := 233) (j := 5) (hv346)
      have x357 := HI.eqA hI0 (p := 233) (j := 6) (hv348)
      have x358 := HI.eqA hI0 (p := 233) (j := 2) (hv350)
      have x359 := HI.eqA hI0 (p := 233) (j := 3) (hv352)
      exact ⟨_, rfl, hI336, hF340, _, rfl, by omega, ⟨by omega, by omega, by omega, by omega, by omega, by omega⟩⟩
    · have c334_ : v307.toInt ≤ 9 := en_j_gt_f c334
      refine At.enter rfl ?_
      refine r_iconst 1 rfl ?_
      refine r_goto ?_
      refine At.enter rfl ?_
      refine q_iretz (by decide) ?_
      refine At.enter rfl ?_
      refine r_iff 12 rfl (by decide) ?_
      refine At.enter rfl ?_
      refine r_iload_n rfl ?_
      refine q_i2l (fun v360 hv360 => ?_)
      refine r_lconst 0 rfl ?_
      refine r_ldc2 99 rfl ?_
      refine q_inlS 21 rfl [.long v360, .long 0, .long 99] [] (Nat.le_of_ble_eq_true rfl) rfl ?_
      refine Ev.mk rfl rfl ⟨Nat.le_of_ble_eq_true rfl, Or.inl rfl⟩ ?_
      show At _ none _ _ (0, [(0, .long v360), (2, .long 0), (4, .long 99)], [], (_, _)) _
      refine At.enter rfl ?_
      refine r_lload_n rfl ?_
      refine r_lload_n rfl ?_
      refine r_lcmp _ rfl ?_
      refine r_ifs 6 rfl (fun c361 => ?_) (fun c361 => ?_)
      · have c361_ : v360.toInt < 0 := en_j_lt_t c361
        refine At.enter rfl ?_
        refine r_iconst 0 rfl ?_
        refine Ar.fall 18 rfl ?_
        refine At.enter rfl ?_
        refine q_iretz (by decide) ?_
        refine At.enter rfl ?_
        refine r_ift (by decide) ?_
        refine At.enter rfl ?_
        refine r_iconst 0 rfl ?_
        refine Ar.fall 53 rfl ?_
        refine At.enter rfl ?_
        refine q_iretz (by decide) ?_
        refine At.enter rfl ?_
        refine r_iff 18 rfl (by decide) ?_
        refine At.enter rfl ?_
        refine r_aload_n rfl ?_
        refine r_iconst (-1) rfl ?_
        refine r_callV 23 rfl [.ref 231, .int (-1)] [] (Nat.le_of_ble_eq_true rfl) rfl (T_X11_tell_231 _ hI305 (-1) (by decide)) ?_
        rintro _ _ ⟨g362, rfl, hI363, hF364, v365, rfl, hr366⟩
        refine At.sti ?_
        have hF367 := Fr.tr hF306 hF364 rfl rfl
        have zv368 : ((-1) : Int32).toInt = (-1) := rfl
        refine At.enter rfl ?_
        refine r_ireti ?_
        obtain ⟨v369, hv369⟩ : ∃ v, eA g0 233 0 = v := ⟨_, rfl⟩
        have tv369 := congrArg Int32.toInt hv369
        have wv369 := HI.t0 hI0
        rw [hv369] at wv369
        have tv369 := congrArg Int32.toInt hv369
        have x370 := HI.eqA hI363 (p := 233) (j := 0) ((((eA_c (hF364.2.1 233 ma_X11_tell_231_233)).trans (eA_c gA_sI)).trans hv369))
        obtain ⟨v371, hv371⟩ : ∃ v, eA g0 233 4 = v := ⟨_, rfl⟩
        have wv371 := HI.t4 hI0
        rw [hv371] at wv371
        have tv371 := congrArg Int32.toInt hv371
        have x372 := HI.eqA hI363 (p := 233) (j := 4) ((((eA_c (hF364.2.1 233 ma_X11_tell_231_233)).trans (eA_c gA_sI)).trans hv371))
        obtain ⟨v373, hv373⟩ : ∃ v, eA g0 233 5 = v := ⟨_, rfl⟩
        have wv373 := HI.t5 hI0
        rw [hv373] at wv373
        have tv373 := congrArg Int32.toInt hv373
        have x374 := HI.eqA hI363 (p := 233) (j := 5) ((((eA_c (hF364.2.1 233 ma_X11_tell_231_233)).trans (eA_c gA_sI)).trans hv373))
        obtain ⟨v375, hv375⟩ : ∃ v, eA g0 233 6 = v := ⟨_, rfl⟩
        have wv375 := HI.t6 hI0
        rw [hv375] at wv375
        have tv375 := congrArg Int32.toInt hv375
        have x376 := HI.eqA hI363 (p := 233) (j := 6) ((((eA_c (hF364.2.1 233 ma_X11_tell_231_233)).trans (eA_c gA_sI)).trans hv375))
        obtain ⟨v377, hv377⟩ : ∃ v, eA g0 233 2 = v := ⟨_, rfl⟩
        have tv377 := congrArg Int32.toInt hv377
        have wv377 := HI.t2 hI0
        rw [hv377] at wv377
        have tv377 := congrArg Int32.toInt hv377
        have x378 := HI.eqA hI363 (p := 233) (j := 2) ((((eA_c (hF364.2.1 233 ma_X11_tell_231_233)).trans (eA_c gA_sI)).trans hv377))
        obtain ⟨v379, hv379⟩ : ∃ v, eA g0 233 3 = v := ⟨_, rfl⟩
        have wv379 := HI.t3 hI0
        rw [hv379] at wv379
        have tv379 := congrArg Int32.toInt hv379
        have x380 := HI.eqA hI363 (p := 233) (j := 3) ((((eA_c (hF364.2.1 233 ma_X11_tell_231_233)).trans (eA_c gA_sI)).trans hv379))
        have x381 := HI.eqA hI0 (p := 233) (j := 0) (hv369)
        have x382 := HI.eqA hI0 (p := 233) (j := 4) (hv371)
        have x383 := HI.eqA hI0 (p := 233) (j := 5) (hv373)
        have x384 := HI.eqA hI0 (p := 233) (j := 6) (hv375)
        have x385 := HI.eqA hI0 (p := 233) (j := 2) (hv377)
        have x386 := HI.eqA hI0 (p := 233) (j := 3) (hv379)
        exact ⟨_, rfl, hI363, hF367, _, rfl, by omega, ⟨by omega, by omega, by omega, by omega, by omega, by omega⟩⟩
      · have c361_ : v360.toInt ≥ 0 := en_j_lt_f c361
        refine At.enter rfl ?_
        refine r_lload_n rfl ?_
        refine r_lload rfl ?_
        refine r_lcmp _ rfl ?_
        refine r_ifs 13 rfl (fun c387 => ?_) (fun c387 => ?_)
        · have c387_ : v360.toInt > 99 := en_j_gt_t c387
          refine At.enter rfl ?_
          refine r_iconst 0 rfl ?_
          refine Ar.fall 18 rfl ?_
          refine At.enter rfl ?_
          refine q_iretz (by decide) ?_
          refine At.enter rfl ?_
          refine r_ift (by decide) ?_
          refine At.enter rfl ?_
          refine r_iconst 0 rfl ?_
          refine Ar.fall 53 rfl ?_
          refine At.enter rfl ?_
          refine q_iretz (by decide) ?_
          refine At.enter rfl ?_
          refine r_iff 18 rfl (by decide) ?_
          refine At.enter rfl ?_
          refine r_aload_n rfl ?_
          refine r_iconst (-1) rfl ?_
          refine r_callV 23 rfl [.ref 231, .int (-1)] [] (Nat.le_of_ble_eq_true rfl) rfl (T_X11_tell_231 _ hI305 (-1) (by decide)) ?_
          rintro _ _ ⟨g388, rfl, hI389, hF390, v391, rfl, hr392⟩
          refine At.sti ?_
          have hF393 := Fr.tr hF306 hF390 rfl rfl
          have zv394 : ((-1) : Int32).toInt = (-1) := rfl
          refine At.enter rfl ?_
          refine r_ireti ?_
          obtain ⟨v395, hv395⟩ : ∃ v, eA g0 233 0 = v := ⟨_, rfl⟩
          have tv395 := congrArg Int32.toInt hv395
          have wv395 := HI.t0 hI0
          rw [hv395] at wv395
          have tv395 := congrArg Int32.toInt hv395
          have x396 := HI.eqA hI389 (p := 233) (j := 0) ((((eA_c (hF390.2.1 233 ma_X11_tell_231_233)).trans (eA_c gA_sI)).trans hv395))
          obtain ⟨v397, hv397⟩ : ∃ v, eA g0 233 4 = v := ⟨_, rfl⟩
          have wv397 := HI.t4 hI0
          rw [hv397] at wv397
          have tv397 := congrArg Int32.toInt hv397
          have x398 := HI.eqA hI389 (p := 233) (j := 4) ((((eA_c (hF390.2.1 233 ma_X11_tell_231_233)).trans (eA_c gA_sI)).trans hv397))
          obtain ⟨v399, hv399⟩ : ∃ v, eA g0 233 5 = v := ⟨_, rfl⟩
          have wv399 := HI.t5 hI0
          rw [hv399] at wv399
          have tv399 := congrArg Int32.toInt hv399
          have x400 := HI.eqA hI389 (p := 233) (j := 5) ((((eA_c (hF390.2.1 233 ma_X11_tell_231_233)).trans (eA_c gA_sI)).trans hv399))
          obtain ⟨v401, hv401⟩ : ∃ v, eA g0 233 6 = v := ⟨_, rfl⟩
          have wv401 := HI.t6 hI0
          rw [hv401] at wv401
          have tv401 := congrArg Int32.toInt hv401
          have x402 := HI.eqA hI389 (p := 233) (j := 6) ((((eA_c (hF390.2.1 233 ma_X11_tell_231_233)).trans (eA_c gA_sI)).trans hv401))
          obtain ⟨v403, hv403⟩ : ∃ v, eA g0 233 2 = v := ⟨_, rfl⟩
          have tv403 := congrArg Int32.toInt hv403
          have wv403 := HI.t2 hI0
          rw [hv403] at wv403
          have tv403 := congrArg Int32.toInt hv403
          have x404 := HI.eqA hI389 (p := 233) (j := 2) ((((eA_c (hF390.2.1 233 ma_X11_tell_231_233)).trans (eA_c gA_sI)).trans hv403))
          obtain ⟨v405, hv405⟩ : ∃ v, eA g0 233 3 = v := ⟨_, rfl⟩
          have wv405 := HI.t3 hI0
          rw [hv405] at wv405
          have tv405 := congrArg Int32.toInt hv405
          have x406 := HI.eqA hI389 (p := 233) (j := 3) ((((eA_c (hF390.2.1 233 ma_X11_tell_231_233)).trans (eA_c gA_sI)).trans hv405))
          have x407 := HI.eqA hI0 (p := 233) (j := 0) (hv395)
          have x408 := HI.eqA hI0 (p := 233) (j := 4) (hv397)
          have x409 := HI.eqA hI0 (p := 233) (j := 5) (hv399)
          have x410 := HI.eqA hI0 (p := 233) (j := 6) (hv401)
          have x411 := HI.eqA hI0 (p := 233) (j := 2) (hv403)
          have x412 := HI.eqA hI0 (p := 233) (j := 3) (hv405)
          exact ⟨_, rfl, hI389, hF393, _, rfl, by omega, ⟨by omega, by omega, by omega, by omega, by omega, by omega⟩⟩
        · have c387_ : v360.toInt ≤ 99 := en_j_gt_f c387
          refine At.enter rfl ?_
          refine r_iconst 1 rfl ?_
          refine r_goto ?_
          refine At.enter rfl ?_
          refine q_iretz (by decide) ?_
          refine At.enter rfl ?_
          refine r_iff 24 rfl (by decide) ?_
          refine At.enter rfl ?_
          refine r_iload_n rfl ?_
          refine q_i2l (fun v413 hv413 => ?_)
          refine r_lconst 0 rfl ?_
          refine r_ldc2 9 rfl ?_
          refine q_inlS 33 rfl [.long v413, .long 0, .long 9] [] (Nat.le_of_ble_eq_true rfl) rfl ?_
          refine Ev.mk rfl rfl ⟨Nat.le_of_ble_eq_true rfl, Or.inl rfl⟩ ?_
          show At _ none _ _ (0, [(0, .long v413), (2, .long 0), (4, .long 9)], [], (_, _)) _
          refine At.enter rfl ?_
          refine r_lload_n rfl ?_
          refine r_lload_n rfl ?_
          refine r_lcmp _ rfl ?_
          refine r_ifs 6 rfl (fun c414 => ?_) (fun c414 => ?_)
          · have c414_ : v413.toInt < 0 := en_j_lt_t c414
            refine At.enter rfl ?_
            refine r_iconst 0 rfl ?_
            refine Ar.fall 18 rfl ?_
            refine At.enter rfl ?_
            refine q_iretz (by decide) ?_
            refine At.enter rfl ?_
            refine r_ift (by decide) ?_
            refine At.enter rfl ?_
            refine r_iconst 0 rfl ?_
            refine Ar.fall 53 rfl ?_
            refine At.enter rfl ?_
            refine q_iretz (by decide) ?_
            refine At.enter rfl ?_
            refine r_iff 18 rfl (by decide) ?_
            refine At.enter rfl ?_
            refine r_aload_n rfl ?_
            refine r_iconst (-1) rfl ?_
            refine r_callV 23 rfl [.ref 231, .int (-1)] [] (Nat.le_of_ble_eq_true rfl) rfl (T_X11_tell_231 _ hI305 (-1) (by decide)) ?_
            rintro _ _ ⟨g415, rfl, hI416, hF417, v418, rfl, hr419⟩
            refine At.sti ?_
            have hF420 := Fr.tr hF306 hF417 rfl rfl
            have zv421 : ((-1) : Int32).toInt = (-1) := rfl
            refine At.enter rfl ?_
            refine r_ireti ?_
            obtain ⟨v422, hv422⟩ : ∃ v, eA g0 233 0 = v := ⟨_, rfl⟩
            have tv422 := congrArg Int32.toInt hv422
            have wv422 := HI.t0 hI0
            rw [hv422] at wv422
            have tv422 := congrArg Int32.toInt hv422
            have x423 := HI.eqA hI416 (p := 233) (j := 0) ((((eA_c (hF417.2.1 233 ma_X11_tell_231_233)).trans (eA_c gA_sI)).trans hv422))
            obtain ⟨v424, hv424⟩ : ∃ v, eA g0 233 4 = v := ⟨_, rfl⟩
            have wv424 := HI.t4 hI0
            rw [hv424] at wv424
            have tv424 := congrArg Int32.toInt hv424
            have x425 := HI.eqA hI416 (p := 233) (j := 4) ((((eA_c (hF417.2.1 233 ma_X11_tell_231_233)).trans (eA_c gA_sI)).trans hv424))
            obtain ⟨v426, hv426⟩ : ∃ v, eA g0 233 5 = v := ⟨_, rfl⟩
            have wv426 := HI.t5 hI0
            rw [hv426] at wv426
            have tv426 := congrArg Int32.toInt hv426
            have x427 := HI.eqA hI416 (p := 233) (j := 5) ((((eA_c (hF417.2.1 233 ma_X11_tell_231_233)).trans (eA_c gA_sI)).trans hv426))
            obtain ⟨v428, hv428⟩ : ∃ v, eA g0 233 6 = v := ⟨_, rfl⟩
            have wv428 := HI.t6 hI0
            rw [hv428] at wv428
            have tv428 := congrArg Int32.toInt hv428
            have x429 := HI.eqA hI416 (p := 233) (j := 6) ((((eA_c (hF417.2.1 233 ma_X11_tell_231_233)).trans (eA_c gA_sI)).trans hv428))
            obtain ⟨v430, hv430⟩ : ∃ v, eA g0 233 2 = v := ⟨_, rfl⟩
            have tv430 := congrArg Int32.toInt hv430
            have wv430 := HI.t2 hI0
            rw [hv430] at wv430
            have tv430 := congrArg Int32.toInt hv430
            have x431 := HI.eqA hI416 (p := 233) (j := 2) ((((eA_c (hF417.2.1 233 ma_X11_tell_231_233)).trans (eA_c gA_sI)).trans hv430))
            obtain ⟨v432, hv432⟩ : ∃ v, eA g0 233 3 = v := ⟨_, rfl⟩
            have wv432 := HI.t3 hI0
            rw [hv432] at wv432
            have tv432 := congrArg Int32.toInt hv432
            have x433 := HI.eqA hI416 (p := 233) (j := 3) ((((eA_c (hF417.2.1 233 ma_X11_tell_231_233)).trans (eA_c gA_sI)).trans hv432))
            have x434 := HI.eqA hI0 (p := 233) (j := 0) (hv422)
            have x435 := HI.eqA hI0 (p := 233) (j := 4) (hv424)
            have x436 := HI.eqA hI0 (p := 233) (j := 5) (hv426)
            have x437 := HI.eqA hI0 (p := 233) (j := 6) (hv428)
            have x438 := HI.eqA hI0 (p := 233) (j := 2) (hv430)
            have x439 := HI.eqA hI0 (p := 233) (j := 3) (hv432)
            exact ⟨_, rfl, hI416, hF420, _, rfl, by omega, ⟨by omega, by omega, by omega, by omega, by omega, by omega⟩⟩
          · have c414_ : v413.toInt ≥ 0 := en_j_lt_f c414
            refine At.enter rfl ?_
            refine r_lload_n rfl ?_
            refine r_lload rfl ?_
            refine r_lcmp _ rfl ?_
            refine r_ifs 13 rfl (fun c440 => ?_) (fun c440 => ?_)
            · have c440_ : v413.toInt > 9 := en_j_gt_t c440
              refine At.enter rfl ?_
              refine r_iconst 0 rfl ?_
              refine Ar.fall 18 rfl ?_
              refine At.enter rfl ?_
              refine q_iretz (by decide) ?_
              refine At.enter rfl ?_
              refine r_ift (by decide) ?_
              refine At.enter rfl ?_
              refine r_iconst 0 rfl ?_
              refine Ar.fall 53 rfl ?_
              refine At.enter rfl ?_
              refine q_iretz (by decide) ?_
              refine At.enter rfl ?_
              refine r_iff 18 rfl (by decide) ?_
              refine At.enter rfl ?_
              refine r_aload_n rfl ?_
              refine r_iconst (-1) rfl ?_
              refine r_callV 23 rfl [.ref 231, .int (-1)] [] (Nat.le_of_ble_eq_true rfl) rfl (T_X11_tell_231 _ hI305 (-1) (by decide)) ?_
              rintro _ _ ⟨g441, rfl, hI442, hF443, v444, rfl, hr445⟩
              refine At.sti ?_
              have hF446 := Fr.tr hF306 hF443 rfl rfl
              have zv447 : ((-1) : Int32).toInt = (-1) := rfl
              refine At.enter rfl ?_
              refine r_ireti ?_
              obtain ⟨v448, hv448⟩ : ∃ v, eA g0 233 0 = v := ⟨_, rfl⟩
              have tv448 := congrArg Int32.toInt hv448
              have wv448 := HI.t0 hI0
              rw [hv448] at wv448
              have tv448 := congrArg Int32.toInt hv448
              have x449 := HI.eqA hI442 (p := 233) (j := 0) ((((eA_c (hF443.2.1 233 ma_X11_tell_231_233)).trans (eA_c gA_sI)).trans hv448))
              obtain ⟨v450, hv450⟩ : ∃ v, eA g0 233 4 = v := ⟨_, rfl⟩
              have wv450 := HI.t4 hI0
              rw [hv450] at wv450
              have tv450 := congrArg Int32.toInt hv450
              have x451 := HI.eqA hI442 (p := 233) (j := 4) ((((eA_c (hF443.2.1 233 ma_X11_tell_231_233)).trans (eA_c gA_sI)).trans hv450))
              obtain ⟨v452, hv452⟩ : ∃ v, eA g0 233 5 = v := ⟨_, rfl⟩
              have wv452 := HI.t5 hI0
              rw [hv452] at wv452
              have tv452 := congrArg Int32.toInt hv452
              have x453 := HI.eqA hI442 (p := 233) (j := 5) ((((eA_c (hF443.2.1 233 ma_X11_tell_231_233)).trans (eA_c gA_sI)).trans hv452))
              obtain ⟨v454, hv454⟩ : ∃ v, eA g0 233 6 = v := ⟨_, rfl⟩
              have wv454 := HI.t6 hI0
              rw [hv454] at wv454
              have tv454 := congrArg Int32.toInt hv454
              have x455 := HI.eqA hI442 (p := 233) (j := 6) ((((eA_c (hF443.2.1 233 ma_X11_tell_231_233)).trans (eA_c gA_sI)).trans hv454))
              obtain ⟨v456, hv456⟩ : ∃ v, eA g0 233 2 = v := ⟨_, rfl⟩
              have tv456 := congrArg Int32.toInt hv456
              have wv456 := HI.t2 hI0
              rw [hv456] at wv456
              have tv456 := congrArg Int32.toInt hv456
              have x457 := HI.eqA hI442 (p := 233) (j := 2) ((((eA_c (hF443.2.1 233 ma_X11_tell_231_233)).trans (eA_c gA_sI)).trans hv456))
              obtain ⟨v458, hv458⟩ : ∃ v, eA g0 233 3 = v := ⟨_, rfl⟩
              have wv458 := HI.t3 hI0
              rw [hv458] at wv458
              have tv458 := congrArg Int32.toInt hv458
              have x459 := HI.eqA hI442 (p := 233) (j := 3) ((((eA_c (hF443.2.1 233 ma_X11_tell_231_233)).trans (eA_c gA_sI)).trans hv458))
              have x460 := HI.eqA hI0 (p := 233) (j := 0) (hv448)
              have x461 := HI.eqA hI0 (p := 233) (j := 4) (hv450)
              have x462 := HI.eqA hI0 (p := 233) (j := 5) (hv452)
              have x463 := HI.eqA hI0 (p := 233) (j := 6) (hv454)
              have x464 := HI.eqA hI0 (p := 233) (j := 2) (hv456)
              have x465 := HI.eqA hI0 (p := 233) (j := 3) (hv458)
              exact ⟨_, rfl, hI442, hF446, _, rfl, by omega, ⟨by omega, by omega, by omega, by omega, by omega, by omega⟩⟩
            · have c440_ : v413.toInt ≤ 9 := en_j_gt_f c440
              refine At.enter rfl ?_
              refine r_iconst 1 rfl ?_
              refine r_goto ?_
              refine At.enter rfl ?_
              refine q_iretz (by decide) ?_
              refine At.enter rfl ?_
              refine r_iff 36 rfl (by decide) ?_
              refine At.enter rfl ?_
              refine r_iload_n rfl ?_
              refine q_i2l (fun v466 hv466 => ?_)
              refine r_lconst 0 rfl ?_
              refine r_ldc2 9999 rfl ?_
              refine q_inlS 45 rfl [.long v466, .long 0, .long 9999] [] (Nat.le_of_ble_eq_true rfl) rfl ?_
              refine Ev.mk rfl rfl ⟨Nat.le_of_ble_eq_true rfl, Or.inl rfl⟩ ?_
              show At _ none _ _ (0, [(0, .long v466), (2, .long 0), (4, .long 9999)], [], (_, _)) _
              refine At.enter rfl ?_
              refine r_lload_n rfl ?_
              refine r_lload_n rfl ?_
              refine r_lcmp _ rfl ?_
              refine r_ifs 6 rfl (fun c467 => ?_) (fun c467 => ?_)
              · have c467_ : v466.toInt < 0 := en_j_lt_t c467
                refine At.enter rfl ?_
                refine r_iconst 0 rfl ?_
                refine Ar.fall 18 rfl ?_
                refine At.enter rfl ?_
                refine q_iretz (by decide) ?_
                refine At.enter rfl ?_
                refine r_ift (by decide) ?_
                refine At.enter rfl ?_
                refine r_iconst 0 rfl ?_
                refine Ar.fall 53 rfl ?_
                refine At.enter rfl ?_
                refine q_iretz (by decide) ?_
                refine At.enter rfl ?_
                refine r_iff 18 rfl (by decide) ?_
                refine At.enter rfl ?_
                refine r_aload_n rfl ?_
                refine r_iconst (-1) rfl ?_
                refine r_callV 23 rfl [.ref 231, .int (-1)] [] (Nat.le_of_ble_eq_true rfl) rfl (T_X11_tell_231 _ hI305 (-1) (by decide)) ?_
                rintro _ _ ⟨g468, rfl, hI469, hF470, v471, rfl, hr472⟩
                refine At.sti ?_
                have hF473 := Fr.tr hF306 hF470 rfl rfl
                have zv474 : ((-1) : Int32).toInt = (-1) := rfl
                refine At.enter rfl ?_
                refine r_ireti ?_
                obtain ⟨v475, hv475⟩ : ∃ v, eA g0 233 0 = v := ⟨_, rfl⟩
                have tv475 := congrArg Int32.toInt hv475
                have wv475 := HI.t0 hI0
                rw [hv475] at wv475
                have tv475 := congrArg Int32.toInt hv475
                have x476 := HI.eqA hI469 (p := 233) (j := 0) ((((eA_c (hF470.2.1 233 ma_X11_tell_231_233)).trans (eA_c gA_sI)).trans hv475))
                obtain ⟨v477, hv477⟩ : ∃ v, eA g0 233 4 = v := ⟨_, rfl⟩
                have wv477 := HI.t4 hI0
                rw [hv477] at wv477
                have tv477 := congrArg Int32.toInt hv477
                have x478 := HI.eqA hI469 (p := 233) (j := 4) ((((eA_c (hF470.2.1 233 ma_X11_tell_231_233)).trans (eA_c gA_sI)).trans hv477))
                obtain ⟨v479, hv479⟩ : ∃ v, eA g0 233 5 = v := ⟨_, rfl⟩
                have wv479 := HI.t5 hI0
                rw [hv479] at wv479
                have tv479 := congrArg Int32.toInt hv479
                have x480 := HI.eqA hI469 (p := 233) (j := 5) ((((eA_c (hF470.2.1 233 ma_X11_tell_231_233)).trans (eA_c gA_sI)).trans hv479))
                obtain ⟨v481, hv481⟩ : ∃ v, eA g0 233 6 = v := ⟨_, rfl⟩
                have wv481 := HI.t6 hI0
                rw [hv481] at wv481
                have tv481 := congrArg Int32.toInt hv481
                have x482 := HI.eqA hI469 (p := 233) (j := 6) ((((eA_c (hF470.2.1 233 ma_X11_tell_231_233)).trans (eA_c gA_sI)).trans hv481))
                obtain ⟨v483, hv483⟩ : ∃ v, eA g0 233 2 = v := ⟨_, rfl⟩
                have tv483 := congrArg Int32.toInt hv483
                have wv483 := HI.t2 hI0
                rw [hv483] at wv483
                have tv483 := congrArg Int32.toInt hv483
                have x484 := HI.eqA hI469 (p := 233) (j := 2) ((((eA_c (hF470.2.1 233 ma_X11_tell_231_233)).trans (eA_c gA_sI)).trans hv483))
                obtain ⟨v485, hv485⟩ : ∃ v, eA g0 233 3 = v := ⟨_, rfl⟩
                have wv485 := HI.t3 hI0
                rw [hv485] at wv485
                have tv485 := congrArg Int32.toInt hv485
                have x486 := HI.eqA hI469 (p := 233) (j := 3) ((((eA_c (hF470.2.1 233 ma_X11_tell_231_233)).trans (eA_c gA_sI)).trans hv485))
                have x487 := HI.eqA hI0 (p := 233) (j := 0) (hv475)
                have x488 := HI.eqA hI0 (p := 233) (j := 4) (hv477)
                have x489 := HI.eqA hI0 (p := 233) (j := 5) (hv479)
                have x490 := HI.eqA hI0 (p := 233) (j := 6) (hv481)
                have x491 := HI.eqA hI0 (p := 233) (j := 2) (hv483)
                have x492 := HI.eqA hI0 (p := 233) (j := 3) (hv485)
                exact ⟨_, rfl, hI469, hF473, _, rfl, by omega, ⟨by omega, by omega, by omega, by omega, by omega, by omega⟩⟩
              · have c467_ : v466.toInt ≥ 0 := en_j_lt_f c467
                refine At.enter rfl ?_
                refine r_lload_n rfl ?_
                refine r_lload rfl ?_
                refine r_lcmp _ rfl ?_
                refine r_ifs 13 rfl (fun c493 => ?_) (fun c493 => ?_)
                · have c493_ : v466.toInt > 9999 := en_j_gt_t c493
                  refine At.enter rfl ?_
                  refine r_iconst 0 rfl ?_
                  refine Ar.fall 18 rfl ?_
                  refine At.enter rfl ?_
                  refine q_iretz (by decide) ?_
                  refine At.enter rfl ?_
                  refine r_ift (by decide) ?_
                  refine At.enter rfl ?_
                  refine r_iconst 0 rfl ?_
                  refine Ar.fall 53 rfl ?_
                  refine At.enter rfl ?_
                  refine q_iretz (by decide) ?_
                  refine At.enter rfl ?_
                  refine r_iff 18 rfl (by decide) ?_
                  refine At.enter rfl ?_
                  refine r_aload_n rfl ?_
                  refine r_iconst (-1) rfl ?_
                  refine r_callV 23 rfl [.ref 231, .int (-1)] [] (Nat.le_of_ble_eq_true rfl) rfl (T_X11_tell_231 _ hI305 (-1) (by decide)) ?_
                  rintro _ _ ⟨g494, rfl, hI495, hF496, v497, rfl, hr498⟩
                  refine At.sti ?_
                  have hF499 := Fr.tr hF306 hF496 rfl rfl
                  have zv500 : ((-1) : Int32).toInt = (-1) := rfl
                  refine At.enter rfl ?_
                  refine r_ireti ?_
                  obtain ⟨v501, hv501⟩ : ∃ v, eA g0 233 0 = v := ⟨_, rfl⟩
                  have tv501 := congrArg Int32.toInt hv501
                  have wv501 := HI.t0 hI0
                  rw [hv501] at wv501
                  have tv501 := congrArg Int32.toInt hv501
                  have x502 := HI.eqA hI495 (p := 233) (j := 0) ((((eA_c (hF496.2.1 233 ma_X11_tell_231_233)).trans (eA_c gA_sI)).trans hv501))
                  obtain ⟨v503, hv503⟩ : ∃ v, eA g0 233 4 = v := ⟨_, rfl⟩
                  have wv503 := HI.t4 hI0
                  rw [hv503] at wv503
                  have tv503 := congrArg Int32.toInt hv503
                  have x504 := HI.eqA hI495 (p := 233) (j := 4) ((((eA_c (hF496.2.1 233 ma_X11_tell_231_233)).trans (eA_c gA_sI)).trans hv503))
                  obtain ⟨v505, hv505⟩ : ∃ v, eA g0 233 5 = v := ⟨_, rfl⟩
                  have wv505 := HI.t5 hI0
                  rw [hv505] at wv505
                  have tv505 := congrArg Int32.toInt hv505
                  have x506 := HI.eqA hI495 (p := 233) (j := 5) ((((eA_c (hF496.2.1 233 ma_X11_tell_231_233)).trans (eA_c gA_sI)).trans hv505))
                  obtain ⟨v507, hv507⟩ : ∃ v, eA g0 233 6 = v := ⟨_, rfl⟩
                  have wv507 := HI.t6 hI0
                  rw [hv507] at wv507
                  have tv507 := congrArg Int32.toInt hv507
                  have x508 := HI.eqA hI495 (p := 233) (j := 6) ((((eA_c (hF496.2.1 233 ma_X11_tell_231_233)).trans (eA_c gA_sI)).trans hv507))
                  obtain ⟨v509, hv509⟩ : ∃ v, eA g0 233 2 = v := ⟨_, rfl⟩
                  have tv509 := congrArg Int32.toInt hv509
                  have wv509 := HI.t2 hI0
                  rw [hv509] at wv509
                  have tv509 := congrArg Int32.toInt hv509
                  have x510 := HI.eqA hI495 (p := 233) (j := 2) ((((eA_c (hF496.2.1 233 ma_X11_tell_231_233)).trans (eA_c gA_sI)).trans hv509))
                  obtain ⟨v511, hv511⟩ : ∃ v, eA g0 233 3 = v := ⟨_, rfl⟩
                  have wv511 := HI.t3 hI0
                  rw [hv511] at wv511
                  have tv511 := congrArg Int32.toInt hv511
                  have x512 := HI.eqA hI495 (p := 233) (j := 3) ((((eA_c (hF496.2.1 233 ma_X11_tell_231_233)).trans (eA_c gA_sI)).trans hv511))
                  have x513 := HI.eqA hI0 (p := 233) (j := 0) (hv501)
                  have x514 := HI.eqA hI0 (p := 233) (j := 4) (hv503)
                  have x515 := HI.eqA hI0 (p := 233) (j := 5) (hv505)
                  have x516 := HI.eqA hI0 (p := 233) (j := 6) (hv507)
                  have x517 := HI.eqA hI0 (p := 233) (j := 2) (hv509)
                  have x518 := HI.eqA hI0 (p := 233) (j := 3) (hv511)
                  exact ⟨_, rfl, hI495, hF499, _, rfl, by omega, ⟨by omega, by omega, by omega, by omega, by omega, by omega⟩⟩
                · have c493_ : v466.toInt ≤ 9999 := en_j_gt_f c493
                  refine At.enter rfl ?_
                  refine r_iconst 1 rfl ?_
                  refine r_goto ?_
                  refine At.enter rfl ?_
                  refine q_iretz (by decide) ?_
                  refine At.enter rfl ?_
                  refine r_iff 48 rfl (by decide) ?_
                  refine At.enter rfl ?_
                  refine r_iconst 1 rfl ?_
                  refine r_goto ?_
                  refine At.enter rfl ?_
                  refine q_iretz (by decide) ?_
                  refine At.enter rfl ?_
                  refine r_ift (by decide) ?_
                  refine At.enter rfl ?_
                  refine r_aload_n rfl ?_
                  refine r_iload_n rfl ?_
                  refine q_inlV 29 rfl [.ref 231, .int a2] [] (Nat.le_of_ble_eq_true rfl) rfl ?_
                  refine Ev.mk rfl rfl ⟨Nat.le_of_ble_eq_true rfl, Or.inr (q_rc hI305.1 kx_231 rfl)⟩ ?_
                  show At _ none _ _ (0, [(0, .ref 231), (1, .int a2)], [], (_, _)) _
                  refine At.enter rfl ?_
                  refine r_iload_n rfl ?_
                  refine q_i2l (fun v519 hv519 => ?_)
                  refine r_lconst 0 rfl ?_
                  refine r_aload_n rfl ?_
                  refine q_getR (Sh.ref hI305.1 kx_231 rfl) ?_
                  refine r_iconst 0 rfl ?_
                  obtain ⟨v520, hv520⟩ : ∃ v, eA g0 233 0 = v := ⟨_, rfl⟩
                  have tv520 := congrArg Int32.toInt hv520
                  have wv520 := HI.t0 hI0
                  rw [hv520] at wv520
                  refine q_iald (Sh.arr hI305.1 ka_233) 0 rfl (by decide) v520 ((eA_c (gA_sI)).trans hv520) ?_
                  refine q_i2l (fun v521 hv521 => ?_)
                  refine r_lconst 1 rfl ?_
                  refine q_lsub (v521.toInt - 1) rfl (by omega) (fun v522 hv522 => ?_)
                  refine q_inlS 15 rfl [.long v519, .long 0, .long v522] [] (Nat.le_of_ble_eq_true rfl) rfl ?_
                  refine Ev.mk rfl rfl ⟨Nat.le_of_ble_eq_true rfl, Or.inl rfl⟩ ?_
                  show At _ none _ _ (0, [(0, .long v519), (2, .long 0), (4, .long v522)], [], (_, _)) _
                  refine At.enter rfl ?_
                  refine r_lload_n rfl ?_
                  refine r_lload_n rfl ?_
                  refine r_lcmp _ rfl ?_
                  refine r_ifs 6 rfl (fun c523 => ?_) (fun c523 => ?_)
                  · have c523_ : v519.toInt < 0 := en_j_lt_t c523
                    refine At.enter rfl ?_
                    refine r_iconst 0 rfl ?_
                    refine Ar.fall 18 rfl ?_
                    refine At.enter rfl ?_
                    refine q_iretz (by decide) ?_
                    refine At.enter rfl ?_
                    refine q_iretz (by decide) ?_
                    refine At.enter rfl ?_
                    refine r_ift (by decide) ?_
                    refine At.enter rfl ?_
                    refine r_aload_n rfl ?_
                    refine r_bipush (-2) rfl ?_
                    refine r_callV 46 rfl [.ref 231, .int (-2)] [] (Nat.le_of_ble_eq_true rfl) rfl (T_X11_tell_231 _ hI305 (-2) (by decide)) ?_
                    rintro _ _ ⟨g524, rfl, hI525, hF526, v527, rfl, hr528⟩
                    refine At.sti ?_
                    have hF529 := Fr.tr hF306 hF526 rfl rfl
                    have zv530 : ((-2) : Int32).toInt = (-2) := rfl
                    refine At.enter rfl ?_
                    refine r_ireti ?_
                    have x531 := HI.eqA hI525 (p := 233) (j := 0) ((((eA_c (hF526.2.1 233 ma_X11_tell_231_233)).trans (eA_c gA_sI)).trans hv520))
                    obtain ⟨v532, hv532⟩ : ∃ v, eA g0 233 4 = v := ⟨_, rfl⟩
                    have wv532 := HI.t4 hI0
                    rw [hv532] at wv532
                    have tv532 := congrArg Int32.toInt hv532
                    have x533 := HI.eqA hI525 (p := 233) (j := 4) ((((eA_c (hF526.2.1 233 ma_X11_tell_231_233)).trans (eA_c gA_sI)).trans hv532))
                    obtain ⟨v534, hv534⟩ : ∃ v, eA g0 233 5 = v := ⟨_, rfl⟩
                    have wv534 := HI.t5 hI0
                    rw [hv534] at wv534
                    have tv534 := congrArg Int32.toInt hv534
                    have x535 := HI.eqA hI525 (p := 233) (j := 5) ((((eA_c (hF526.2.1 233 ma_X11_tell_231_233)).trans (eA_c gA_sI)).trans hv534))
                    obtain ⟨v536, hv536⟩ : ∃ v, eA g0 233 6 = v := ⟨_, rfl⟩
                    have wv536 := HI.t6 hI0
                    rw [hv536] at wv536
                    have tv536 := congrArg Int32.toInt hv536
                    have x537 := HI.eqA hI525 (p := 233) (j := 6) ((((eA_c (hF526.2.1 233 ma_X11_tell_231_233)).trans (eA_c gA_sI)).trans hv536))
                    obtain ⟨v538, hv538⟩ : ∃ v, eA g0 233 2 = v := ⟨_, rfl⟩
                    have tv538 := congrArg Int32.toInt hv538
                    have wv538 := HI.t2 hI0
                    rw [hv538] at wv538
                    have tv538 := congrArg Int32.toInt hv538
                    have x539 := HI.eqA hI525 (p := 233) (j := 2) ((((eA_c (hF526.2.1 233 ma_X11_tell_231_233)).trans (eA_c gA_sI)).trans hv538))
                    obtain ⟨v540, hv540⟩ : ∃ v, eA g0 233 3 = v := ⟨_, rfl⟩
                    have wv540 := HI.t3 hI0
                    rw [hv540] at wv540
                    have tv540 := congrArg Int32.toInt hv540
                    have x541 := HI.eqA hI525 (p := 233) (j := 3) ((((eA_c (hF526.2.1 233 ma_X11_tell_231_233)).trans (eA_c gA_sI)).trans hv540))
                    have x542 := HI.eqA hI0 (p := 233) (j := 0) (hv520)
                    have x543 := HI.eqA hI0 (p := 233) (j := 4) (hv532)
                    have x544 := HI.eqA hI0 (p := 233) (j := 5) (hv534)
                    have x545 := HI.eqA hI0 (p := 233) (j := 6) (hv536)
                    have x546 := HI.eqA hI0 (p := 233) (j := 2) (hv538)
                    have x547 := HI.eqA hI0 (p := 233) (j := 3) (hv540)
                    exact ⟨_, rfl, hI525, hF529, _, rfl, by omega, ⟨by omega, by omega, by omega, by omega, by omega, by omega⟩⟩
                  · have c523_ : v519.toInt ≥ 0 := en_j_lt_f c523
                    refine At.enter rfl ?_
                    refine r_lload_n rfl ?_
                    refine r_lload rfl ?_
                    refine r_lcmp _ rfl ?_
                    refine r_ifs 13 rfl (fun c548 => ?_) (fun c548 => ?_)
                    · have c548_ : v519.toInt > v522.toInt := en_j_gt_t c548
                      refine At.enter rfl ?_
                      refine r_iconst 0 rfl ?_
                      refine Ar.fall 18 rfl ?_
                      refine At.enter rfl ?_
                      refine q_iretz (by decide) ?_
                      refine At.enter rfl ?_
                      refine q_iretz (by decide) ?_
                      refine At.enter rfl ?_
                      refine r_ift (by decide) ?_
                      refine At.enter rfl ?_
                      refine r_aload_n rfl ?_
                      refine r_bipush (-2) rfl ?_
                      refine r_callV 46 rfl [.ref 231, .int (-2)] [] (Nat.le_of_ble_eq_true rfl) rfl (T_X11_tell_231 _ hI305 (-2) (by decide)) ?_
                      rintro _ _ ⟨g549, rfl, hI550, hF551, v552, rfl, hr553⟩
                      refine At.sti ?_
                      have hF554 := Fr.tr hF306 hF551 rfl rfl
                      have zv555 : ((-2) : Int32).toInt = (-2) := rfl
                      refine At.enter rfl ?_
                      refine r_ireti ?_
                      have x556 := HI.eqA hI550 (p := 233) (j := 0) ((((eA_c (hF551.2.1 233 ma_X11_tell_231_233)).trans (eA_c gA_sI)).trans hv520))
                      obtain ⟨v557, hv557⟩ : ∃ v, eA g0 233 4 = v := ⟨_, rfl⟩
                      have wv557 := HI.t4 hI0
                      rw [hv557] at wv557
                      have tv557 := congrArg Int32.toInt hv557
                      have x558 := HI.eqA hI550 (p := 233) (j := 4) ((((eA_c (hF551.2.1 233 ma_X11_tell_231_233)).trans (eA_c gA_sI)).trans hv557))
                      obtain ⟨v559, hv559⟩ : ∃ v, eA g0 233 5 = v := ⟨_, rfl⟩
                      have wv559 := HI.t5 hI0
                      rw [hv559] at wv559
                      have tv559 := congrArg Int32.toInt hv559
                      have x560 := HI.eqA hI550 (p := 233) (j := 5) ((((eA_c (hF551.2.1 233 ma_X11_tell_231_233)).trans (eA_c gA_sI)).trans hv559))
                      obtain ⟨v561, hv561⟩ : ∃ v, eA g0 233 6 = v := ⟨_, rfl⟩
                      have wv561 := HI.t6 hI0
                      rw [hv561] at wv561
                      have tv561 := congrArg Int32.toInt hv561
                      have x562 := HI.eqA hI550 (p := 233) (j := 6) ((((eA_c (hF551.2.1 233 ma_X11_tell_231_233)).trans (eA_c gA_sI)).trans hv561))
                      obtain ⟨v563, hv563⟩ : ∃ v, eA g0 233 2 = v := ⟨_, rfl⟩
                      have tv563 := congrArg Int32.toInt hv563
                      have wv563 := HI.t2 hI0
                      rw [hv563] at wv563
                      have tv563 := congrArg Int32.toInt hv563
                      have x564 := HI.eqA hI550 (p := 233) (j := 2) ((((eA_c (hF551.2.1 233 ma_X11_tell_231_233)).trans (eA_c gA_sI)).trans hv563))
                      obtain ⟨v565, hv565⟩ : ∃ v, eA g0 233 3 = v := ⟨_, rfl⟩
                      have wv565 := HI.t3 hI0
                      rw [hv565] at wv565
                      have tv565 := congrArg Int32.toInt hv565
                      have x566 := HI.eqA hI550 (p := 233) (j := 3) ((((eA_c (hF551.2.1 233 ma_X11_tell_231_233)).trans (eA_c gA_sI)).trans hv565))
                      have x567 := HI.eqA hI0 (p := 233) (j := 0) (hv520)
                      have x568 := HI.eqA hI0 (p := 233) (j := 4) (hv557)
                      have x569 := HI.eqA hI0 (p := 233) (j := 5) (hv559)
                      have x570 := HI.eqA hI0 (p := 233) (j := 6) (hv561)
                      have x571 := HI.eqA hI0 (p := 233) (j := 2) (hv563)
                      have x572 := HI.eqA hI0 (p := 233) (j := 3) (hv565)
                      exact ⟨_, rfl, hI550, hF554, _, rfl, by omega, ⟨by omega, by omega, by omega, by omega, by omega, by omega⟩⟩
                    · have c548_ : v519.toInt ≤ v522.toInt := en_j_gt_f c548
                      refine At.enter rfl ?_
                      refine r_iconst 1 rfl ?_
                      refine r_goto ?_
                      refine At.enter rfl ?_
                      refine q_iretz (by decide) ?_
                      refine At.enter rfl ?_
                      refine q_iretz (by decide) ?_
                      refine At.enter rfl ?_
                      refine r_iff 32 rfl (by decide) ?_
                      refine At.enter rfl ?_
                      refine r_aload_n rfl ?_
                      refine r_iload_n rfl ?_
                      refine q_inlV 37 rfl [.ref 231, .int a3] [] (Nat.le_of_ble_eq_true rfl) rfl ?_
                      refine Ev.mk rfl rfl ⟨Nat.le_of_ble_eq_true rfl, Or.inr (q_rc hI305.1 kx_231 rfl)⟩ ?_
                      show At _ none _ _ (0, [(0, .ref 231), (1, .int a3)], [], (_, _)) _
                      refine At.enter rfl ?_
                      refine r_iload_n rfl ?_
                      refine q_i2l (fun v573 hv573 => ?_)
                      refine r_lconst 0 rfl ?_
                      refine r_aload_n rfl ?_
                      refine q_getR (Sh.ref hI305.1 kx_231 rfl) ?_
                      refine r_iconst 0 rfl ?_
                      refine q_iald (Sh.arr hI305.1 ka_233) 0 rfl (by decide) v520 ((eA_c (gA_sI)).trans hv520) ?_
                      refine q_i2l (fun v574 hv574 => ?_)
                      refine r_lconst 1 rfl ?_
                      refine q_lsub (v574.toInt - 1) rfl (by omega) (fun v575 hv575 => ?_)
                      refine q_inlS 15 rfl [.long v573, .long 0, .long v575] [] (Nat.le_of_ble_eq_true rfl) rfl ?_
                      refine Ev.mk rfl rfl ⟨Nat.le_of_ble_eq_true rfl, Or.inl rfl⟩ ?_
                      show At _ none _ _ (0, [(0, .long v573), (2, .long 0), (4, .long v575)], [], (_, _)) _
                      refine At.enter rfl ?_
                      refine r_lload_n rfl ?_
                      refine r_lload_n rfl ?_
                      refine r_lcmp _ rfl ?_
                      refine r_ifs 6 rfl (fun c576 => ?_) (fun c576 => ?_)
                      · have c576_ : v573.toInt < 0 := en_j_lt_t c576
                        refine At.enter rfl ?_
                        refine r_iconst 0 rfl ?_
                        refine Ar.fall 18 rfl ?_
                        refine At.enter rfl ?_
                        refine q_iretz (by decide) ?_
                        refine At.enter rfl ?_
                        refine q_iretz (by decide) ?_
                        refine At.enter rfl ?_
                        refine r_iff 40 rfl (by decide) ?_
                        refine At.enter rfl ?_
                        refine r_aload_n rfl ?_
                        refine r_bipush (-2) rfl ?_
                        refine r_callV 46 rfl [.ref 231, .int (-2)] [] (Nat.le_of_ble_eq_true rfl) rfl (T_X11_tell_231 _ hI305 (-2) (by decide)) ?_
                        rintro _ _ ⟨g577, rfl, hI578, hF579, v580, rfl, hr581⟩
                        refine At.sti ?_
                        have hF582 := Fr.tr hF306 hF579 rfl rfl
                        have zv583 : ((-2) : Int32).toInt = (-2) := rfl
                        refine At.enter rfl ?_
                        refine r_ireti ?_
                        have x584 := HI.eqA hI578 (p := 233) (j := 0) ((((eA_c (hF579.2.1 233 ma_X11_tell_231_233)).trans (eA_c gA_sI)).trans hv520))
                        obtain ⟨v585, hv585⟩ : ∃ v, eA g0 233 4 = v := ⟨_, rfl⟩
                        have wv585 := HI.t4 hI0
                        rw [hv585] at wv585
                        have tv585 := congrArg Int32.toInt hv585
                        have x586 := HI.eqA hI578 (p := 233) (j := 4) ((((eA_c (hF579.2.1 233 ma_X11_tell_231_233)).trans (eA_c gA_sI)).trans hv585))
                        obtain ⟨v587, hv587⟩ : ∃ v, eA g0 233 5 = v := ⟨_, rfl⟩
                        have wv587 := HI.t5 hI0
                        rw [hv587] at wv587
                        have tv587 := congrArg Int32.toInt hv587
                        have x588 := HI.eqA hI578 (p := 233) (j := 5) ((((eA_c (hF579.2.1 233 ma_X11_tell_231_233)).trans (eA_c gA_sI)).trans hv587))
                        obtain ⟨v589, hv589⟩ : ∃ v, eA g0 233 6 = v := ⟨_, rfl⟩
                        have wv589 := HI.t6 hI0
                        rw [hv589] at wv589
                        have tv589 := congrArg Int32.toInt hv589
                        have x590 := HI.eqA hI578 (p := 233) (j := 6) ((((eA_c (hF579.2.1 233 ma_X11_tell_231_233)).trans (eA_c gA_sI)).trans hv589))
                        obtain ⟨v591, hv591⟩ : ∃ v, eA g0 233 2 = v := ⟨_, rfl⟩
                        have tv591 := congrArg Int32.toInt hv591
                        have wv591 := HI.t2 hI0
                        rw [hv591] at wv591
                        have tv591 := congrArg Int32.toInt hv591
                        have x592 := HI.eqA hI578 (p := 233) (j := 2) ((((eA_c (hF579.2.1 233 ma_X11_tell_231_233)).trans (eA_c gA_sI)).trans hv591))
                        obtain ⟨v593, hv593⟩ : ∃ v, eA g0 233 3 = v := ⟨_, rfl⟩
                        have wv593 := HI.t3 hI0
                        rw [hv593] at wv593
                        have tv593 := congrArg Int32.toInt hv593
                        have x594 := HI.eqA hI578 (p := 233) (j := 3) ((((eA_c (hF579.2.1 233 ma_X11_tell_231_233)).trans (eA_c gA_sI)).trans hv593))
                        have x595 := HI.eqA hI0 (p := 233) (j := 0) (hv520)
                        have x596 := HI.eqA hI0 (p := 233) (j := 4) (hv585)
                        have x597 := HI.eqA hI0 (p := 233) (j := 5) (hv587)
                        have x598 := HI.eqA hI0 (p := 233) (j := 6) (hv589)
                        have x599 := HI.eqA hI0 (p := 233) (j := 2) (hv591)
                        have x600 := HI.eqA hI0 (p := 233) (j := 3) (hv593)
                        exact ⟨_, rfl, hI578, hF582, _, rfl, by omega, ⟨by omega, by omega, by omega, by omega, by omega, by omega⟩⟩
                      · have c576_ : v573.toInt ≥ 0 := en_j_lt_f c576
                        refine At.enter rfl ?_
                        refine r_lload_n rfl ?_
                        refine r_lload rfl ?_
                        refine r_lcmp _ rfl ?_
                        refine r_ifs 13 rfl (fun c601 => ?_) (fun c601 => ?_)
                        · have c601_ : v573.toInt > v575.toInt := en_j_gt_t c601
                          refine At.enter rfl ?_
                          refine r_iconst 0 rfl ?_
                          refine Ar.fall 18 rfl ?_
                          refine At.enter rfl ?_
                          refine q_iretz (by decide) ?_
                          refine At.enter rfl ?_
                          refine q_iretz (by decide) ?_
                          refine At.enter rfl ?_
                          refine r_iff 40 rfl (by decide) ?_
                          refine At.enter rfl ?_
                          refine r_aload_n rfl ?_
                          refine r_bipush (-2) rfl ?_
                          refine r_callV 46 rfl [.ref 231, .int (-2)] [] (Nat.le_of_ble_eq_true rfl) rfl (T_X11_tell_231 _ hI305 (-2) (by decide)) ?_
                          rintro _ _ ⟨g602, rfl, hI603, hF604, v605, rfl, hr606⟩
                          refine At.sti ?_
                          have hF607 := Fr.tr hF306 hF604 rfl rfl
                          have zv608 : ((-2) : Int32).toInt = (-2) := rfl
                          refine At.enter rfl ?_
                          refine r_ireti ?_
                          have x609 := HI.eqA hI603 (p := 233) (j := 0) ((((eA_c (hF604.2.1 233 ma_X11_tell_231_233)).trans (eA_c gA_sI)).trans hv520))
                          obtain ⟨v610, hv610⟩ : ∃ v, eA g0 233 4 = v := ⟨_, rfl⟩
                          have wv610 := HI.t4 hI0
                          rw [hv610] at wv610
                          have tv610 := congrArg Int32.toInt hv610
                          have x611 := HI.eqA hI603 (p := 233) (j := 4) ((((eA_c (hF604.2.1 233 ma_X11_tell_231_233)).trans (eA_c gA_sI)).trans hv610))
                          obtain ⟨v612, hv612⟩ : ∃ v, eA g0 233 5 = v := ⟨_, rfl⟩
                          have wv612 := HI.t5 hI0
                          rw [hv612] at wv612
                          have tv612 := congrArg Int32.toInt hv612
                          have x613 := HI.eqA hI603 (p := 233) (j := 5) ((((eA_c (hF604.2.1 233 ma_X11_tell_231_233)).trans (eA_c gA_sI)).trans hv612))
                          obtain ⟨v614, hv614⟩ : ∃ v, eA g0 233 6 = v := ⟨_, rfl⟩
                          have wv614 := HI.t6 hI0
                          rw [hv614] at wv614
                          have tv614 := congrArg Int32.toInt hv614
                          have x615 := HI.eqA hI603 (p := 233) (j := 6) ((((eA_c (hF604.2.1 233 ma_X11_tell_231_233)).trans (eA_c gA_sI)).trans hv614))
                          obtain ⟨v616, hv616⟩ : ∃ v, eA g0 233 2 = v := ⟨_, rfl⟩
                          have tv616 := congrArg Int32.toInt hv616
                          have wv616 := HI.t2 hI0
                          rw [hv616] at wv616
                          have tv616 := congrArg Int32.toInt hv616
                          have x617 := HI.eqA hI603 (p := 233) (j := 2) ((((eA_c (hF604.2.1 233 ma_X11_tell_231_233)).trans (eA_c gA_sI)).trans hv616))
                          obtain ⟨v618, hv618⟩ : ∃ v, eA g0 233 3 = v := ⟨_, rfl⟩
                          have wv618 := HI.t3 hI0
                          rw [hv618] at wv618
                          have tv618 := congrArg Int32.toInt hv618
                          have x619 := HI.eqA hI603 (p := 233) (j := 3) ((((eA_c (hF604.2.1 233 ma_X11_tell_231_233)).trans (eA_c gA_sI)).trans hv618))
                          have x620 := HI.eqA hI0 (p := 233) (j := 0) (hv520)
                          have x621 := HI.eqA hI0 (p := 233) (j := 4) (hv610)
                          have x622 := HI.eqA hI0 (p := 233) (j := 5) (hv612)
                          have x623 := HI.eqA hI0 (p := 233) (j := 6) (hv614)
                          have x624 := HI.eqA hI0 (p := 233) (j := 2) (hv616)
                          have x625 := HI.eqA hI0 (p := 233) (j := 3) (hv618)
                          exact ⟨_, rfl, hI603, hF607, _, rfl, by omega, ⟨by omega, by omega, by omega, by omega, by omega, by omega⟩⟩
                        · have c601_ : v573.toInt ≤ v575.toInt := en_j_gt_f c601
                          refine At.enter rfl ?_
                          refine r_iconst 1 rfl ?_
                          refine r_goto ?_
                          refine At.enter rfl ?_
                          refine q_iretz (by decide) ?_
                          refine At.enter rfl ?_
                          refine q_iretz (by decide) ?_
                          refine At.enter rfl ?_
                          refine r_ift (by decide) ?_
                          refine At.enter rfl ?_
                          refine r_aload_n rfl ?_
                          refine q_getR (Sh.ref hI305.1 kx_231 rfl) ?_
                          refine r_iconst 1 rfl ?_
                          obtain ⟨v626, hv626⟩ : ∃ v, eA g0 233 1 = v := ⟨_, rfl⟩
                          have tv626 := congrArg Int32.toInt hv626
                          have wv626 := HI.t1 hI0
                          rw [hv626] at wv626
                          refine q_iald (Sh.arr hI305.1 ka_233) 1 rfl (by decide) v626 ((eA_c (gA_sI)).trans hv626) ?_
                          refine r_bipush 8 rfl ?_
                          refine r_ics 58 rfl (fun c627 => ?_) (fun c627 => ?_)
                          · have c627_ : v626.toInt ≠ 8 := en_i_ne_t c627
                            refine At.enter rfl ?_
                            refine r_aload_n rfl ?_
                            refine r_iload_n rfl ?_
                            refine r_iload_n rfl ?_
                            refine r_iload_n rfl ?_
                            refine r_iload rfl ?_
                            refine r_iload rfl ?_
                            refine r_iload rfl ?_
                            refine q_inlV 78 rfl [.ref 231, .int a1, .int a2, .int a3, .int a4, .int a5, .int a6] [] (Nat.le_of_ble_eq_true rfl) rfl ?_
                            refine Ev.mk rfl rfl ⟨Nat.le_of_ble_eq_true rfl, Or.inr (q_rc hI305.1 kx_231 rfl)⟩ ?_
                            show At _ none _ _ (0, [(0, .ref 231), (1, .int a1), (2, .int a2), (3, .int a3), (4, .int a4), (5, .int a5), (6, .int a6)], [], (_, _)) _
                            refine At.enter rfl ?_
                            refine r_bipush 46 rfl ?_
                            refine r_bipush 6 rfl ?_
                            refine r_aload_n rfl ?_
                            refine q_getR (Sh.ref hI305.1 kx_231 rfl) ?_
                            refine r_iconst 1 rfl ?_
                            refine q_iald (Sh.arr hI305.1 ka_233) 1 rfl (by decide) v626 ((eA_c (gA_sI)).trans hv626) ?_
                            refine q_imul (6 * v626.toInt) rfl (by omega) (fun v628 hv628 => ?_)
                            refine q_iadd (46 + v628.toInt) rfl (by omega) (fun v629 hv629 => ?_)
                            refine r_istore ([(7, .int v629), (0, .ref 231), (1, .int a1), (2, .int a2), (3, .int a3), (4, .int a4), (5, .int a5), (6, .int a6)]) rfl ?_
                            refine r_aload_n rfl ?_
                            refine q_getR (Sh.ref hI305.1 kx_231 rfl) ?_
                            refine r_iload rfl ?_
                            refine r_iload_n rfl ?_
                            refine q_iast (Sh.arr hI305.1 ka_233) ((6 * v626.toInt + 46)) (by omega) (by omega) ?_
                            have hI630 := HI.wl hI305 (j := (6 * v626.toInt + 46)) (v := a1) (v626.toInt) 0 (by omega) (by decide) (by omega) (by omega)
                            have hF631 := Fr.wA (p := 233) (j := (6 * v626.toInt + 46)) (v := a1) hF306 rfl
                            refine r_aload_n rfl ?_
                            refine q_getR (Sh.ref hI630.1 kx_231 rfl) ?_
                            refine r_iload rfl ?_
                            refine r_iconst 1 rfl ?_
                            refine q_iadd (v629.toInt + 1) rfl (by omega) (fun v632 hv632 => ?_)
                            refine r_iload_n rfl ?_
                            refine q_iast (Sh.arr hI630.1 ka_233) ((6 * v626.toInt + 47)) (by omega) (by omega) ?_
                            have x635 := HI.eqA hI630 (p := 233) (j := 0) ((((eA_sA_ne hI305.1 ka_233 (by first | decide | omega) (by first | decide | omega) (by first | decide | omega)).trans (eA_c gA_sI)).trans hv520))
                            have hI633 := HI.wl hI630 (j := (6 * v626.toInt + 47)) (v := a2) (v626.toInt) 1 (by omega) (by decide) (by omega) (by omega)
                            have hF634 := Fr.wA (p := 233) (j := (6 * v626.toInt + 47)) (v := a2) hF631 rfl
                            refine r_aload_n rfl ?_
                            refine q_getR (Sh.ref hI633.1 kx_231 rfl) ?_
                            refine r_iload rfl ?_
                            refine r_iconst 2 rfl ?_
                            refine q_iadd (v629.toInt + 2) rfl (by omega) (fun v636 hv636 => ?_)
                            refine r_iload_n rfl ?_
                            refine q_iast (Sh.arr hI633.1 ka_233) ((6 * v626.toInt + 48)) (by omega) (by omega) ?_
                            have x639 := HI.eqA hI633 (p := 233) (j := 0) ((((eA_sA_ne hI630.1 ka_233 (by first | decide | omega) (by first | decide | omega) (by first | decide | omega)).trans ((eA_sA_ne hI305.1 ka_233 (by first | decide | omega) (by first | decide | omega) (by first | decide | omega)).trans (eA_c gA_sI))).trans hv520))
                            have hI637 := HI.wl hI633 (j := (6 * v626.toInt + 48)) (v := a3) (v626.toInt) 2 (by omega) (by decide) (by omega) (by omega)
                            have hF638 := Fr.wA (p := 233) (j := (6 * v626.toInt + 48)) (v := a3) hF634 rfl
                            refine r_aload_n rfl ?_
                            refine q_getR (Sh.ref hI637.1 kx_231 rfl) ?_
                            refine r_iload rfl ?_
                            refine r_iconst 3 rfl ?_
                            refine q_iadd (v629.toInt + 3) rfl (by omega) (fun v640 hv640 => ?_)
                            refine r_iload rfl ?_
                            refine q_iast (Sh.arr hI637.1 ka_233) ((6 * v626.toInt + 49)) (by omega) (by omega) ?_
                            have hI641 := HI.wl hI637 (j := (6 * v626.toInt + 49)) (v := a4) (v626.toInt) 3 (by omega) (by decide) (by omega) (by omega)
                            have hF642 := Fr.wA (p := 233) (j := (6 * v626.toInt + 49)) (v := a4) hF638 rfl
                            refine r_aload_n rfl ?_
                            refine q_getR (Sh.ref hI641.1 kx_231 rfl) ?_
                            refine r_iload rfl ?_
                            refine r_iconst 4 rfl ?_
                            refine q_iadd (v629.toInt + 4) rfl (by omega) (fun v643 hv643 => ?_)
                            refine r_iload rfl ?_
                            refine q_iast (Sh.arr hI641.1 ka_233) ((6 * v626.toInt + 50)) (by omega) (by omega) ?_
                            have hI644 := HI.wl hI641 (j := (6 * v626.toInt + 50)) (v := a5) (v626.toInt) 4 (by omega) (by decide) (by omega) (by omega)
                            have hF645 := Fr.wA (p := 233) (j := (6 * v626.toInt + 50)) (v := a5) hF642 rfl
                            refine r_aload_n rfl ?_
                            refine q_getR (Sh.ref hI644.1 kx_231 rfl) ?_
                            refine r_iload rfl ?_
                            refine r_iconst 5 rfl ?_
                            refine q_iadd (v629.toInt + 5) rfl (by omega) (fun v646 hv646 => ?_)
                            refine r_iload rfl ?_
                            refine q_iast (Sh.arr hI644.1 ka_233) ((6 * v626.toInt + 51)) (by omega) (by omega) ?_
                            have hI647 := HI.wl hI644 (j := (6 * v626.toInt + 51)) (v := a6) (v626.toInt) 5 (by omega) (by decide) (by omega) (by omega)
                            have hF648 := Fr.wA (p := 233) (j := (6 * v626.toInt + 51)) (v := a6) hF645 rfl
                            refine r_aload_n rfl ?_
                            refine q_getR (Sh.ref hI647.1 kx_231 rfl) ?_
                            refine r_iconst 1 rfl ?_
                            refine r_dup2 ⟨rfl, rfl⟩ ?_
                            refine q_iald (Sh.arr hI647.1 ka_233) 1 rfl (by decide) v626 (((eA_sA_ne hI644.1 ka_233 (by first | decide | omega) (by first | decide | omega) (by first | decide | omega)).trans ((eA_sA_ne hI641.1 ka_233 (by first | decide | omega) (by first | decide | omega) (by first | decide | omega)).trans ((eA_sA_ne hI637.1 ka_233 (by first | decide | omega) (by first | decide | omega) (by first | decide | omega)).trans ((eA_sA_ne hI633.1 ka_233 (by first | decide | omega) (by first | decide | omega) (by first | decide | omega)).trans ((eA_sA_ne hI630.1 ka_233 (by first | decide | omega) (by first | decide | omega) (by first | decide | omega)).trans ((eA_sA_ne hI305.1 ka_233 (by first | decide | omega) (by first | decide | omega) (by first | decide | omega)).trans (eA_c gA_sI))))))).trans hv626) ?_
                            refine r_iconst 1 rfl ?_
                            refine q_iadd (v626.toInt + 1) rfl (by omega) (fun v649 hv649 => ?_)
                            refine q_iast (Sh.arr hI647.1 ka_233) (1) rfl (by decide) ?_
                            have x652 := HI.eqA hI647 (p := 233) (j := 0) ((((eA_sA_ne hI644.1 ka_233 (by first | decide | omega) (by first | decide | omega) (by first | decide | omega)).trans ((eA_sA_ne hI641.1 ka_233 (by first | decide | omega) (by first | decide | omega) (by first | decide | omega)).trans ((eA_sA_ne hI637.1 ka_233 (by first | decide | omega) (by first | decide | omega) (by first | decide | omega)).trans ((eA_sA_ne hI633.1 ka_233 (by first | decide | omega) (by first | decide | omega) (by first | decide | omega)).trans ((eA_sA_ne hI630.1 ka_233 (by first | decide | omega) (by first | decide | omega) (by first | decide | omega)).trans ((eA_sA_ne hI305.1 ka_233 (by first | decide | omega) (by first | decide | omega) (by first | decide | omega)).trans (eA_c gA_sI))))))).trans hv520))
                            have x653 := HI.eqA hI647 (p := 233) (j := 1) ((((eA_sA_ne hI644.1 ka_233 (by first | decide | omega) (by first | decide | omega) (by first | decide | omega)).trans ((eA_sA_ne hI641.1 ka_233 (by first | decide | omega) (by first | decide | omega) (by first | decide | omega)).trans ((eA_sA_ne hI637.1 ka_233 (by first | decide | omega) (by first | decide | omega) (by first | decide | omega)).trans ((eA_sA_ne hI633.1 ka_233 (by first | decide | omega) (by first | decide | omega) (by first | decide | omega)).trans ((eA_sA_ne hI630.1 ka_233 (by first | decide | omega) (by first | decide | omega) (by first | decide | omega)).trans ((eA_sA_ne hI305.1 ka_233 (by first | decide | omega) (by first | decide | omega) (by first | decide | omega)).trans (eA_c gA_sI))))))).trans hv626))
                            have yv654 := HI.lt hI647
                            have hI650 := HI.wt hI647 (j := 1) (v := v649) (by omega) (by omega)
                            have hF651 := Fr.wA (p := 233) (j := 1) (v := v649) hF648 rfl
                            refine q_vret ?_
                            refine At.enter rfl ?_
                            refine r_aload_n rfl ?_
                            refine r_aload_n rfl ?_
                            refine q_getR (Sh.ref hI650.1 kx_231 rfl) ?_
                            refine r_iconst 1 rfl ?_
                            refine q_iald (Sh.arr hI650.1 ka_233) 1 rfl (by decide) v649 (eA_sA_eq hI647.1 ka_233 (by first | rfl | omega) (by first | decide | omega) (by first | decide | omega)) ?_
                            refine r_iconst 1 rfl ?_
                            refine q_isub (v649.toInt - 1) rfl (by omega) (fun v655 hv655 => ?_)
                            refine r_callV 90 rfl [.ref 231, .int v655] [] (Nat.le_of_ble_eq_true rfl) rfl (T_X11_tell_231 _ hI650 v655 (by omega)) ?_
                            rintro _ _ ⟨g656, rfl, hI657, hF658, v659, rfl, hr660⟩
                            refine At.sti ?_
                            have hF661 := Fr.tr hF651 hF658 rfl rfl
                            refine At.enter rfl ?_
                            refine r_ireti ?_
                            have x662 := HI.eqA hI657 (p := 233) (j := 0) ((((eA_c (hF658.2.1 233 ma_X11_tell_231_233)).trans ((eA_sA_ne hI647.1 ka_233 (by first | decide | omega) (by first | decide | omega) (by first | decide | omega)).trans ((eA_sA_ne hI644.1 ka_233 (by first | decide | omega) (by first | decide | omega) (by first | decide | omega)).trans ((eA_sA_ne hI641.1 ka_233 (by first | decide | omega) (by first | decide | omega) (by first | decide | omega)).trans ((eA_sA_ne hI637.1 ka_233 (by first | decide | omega) (by first | decide | omega) (by first | decide | omega)).trans ((eA_sA_ne hI633.1 ka_233 (by first | decide | omega) (by first | decide | omega) (by first | decide | omega)).trans ((eA_sA_ne hI630.1 ka_233 (by first | decide | omega) (by first | decide | omega) (by first | decide | omega)).trans ((eA_sA_ne hI305.1 ka_233 (by first | decide | omega) (by first | decide | omega) (by first | decide | omega)).trans (eA_c gA_sI))))))))).trans hv520))
                            obtain ⟨v663, hv663⟩ : ∃ v, eA g0 233 4 = v := ⟨_, rfl⟩
                            have wv663 := HI.t4 hI0
                            rw [hv663] at wv663
                            have tv663 := congrArg Int32.toInt hv663
                            have x664 := HI.eqA hI657 (p := 233) (j := 4) ((((eA_c (hF658.2.1 233 ma_X11_tell_231_233)).trans ((eA_sA_ne hI647.1 ka_233 (by first | decide | omega) (by first | decide | omega) (by first | decide | omega)).trans ((eA_sA_ne hI644.1 ka_233 (by first | decide | omega) (by first | decide | omega) (by first | decide | omega)).trans ((eA_sA_ne hI641.1 ka_233 (by first | decide | omega) (by first | decide | omega) (by first | decide | omega)).trans ((eA_sA_ne hI637.1 ka_233 (by first | decide | omega) (by first | decide | omega) (by first | decide | omega)).trans ((eA_sA_ne hI633.1 ka_233 (by first | decide | omega) (by first | decide | omega) (by first | decide | omega)).trans ((eA_sA_ne hI630.1 ka_233 (by first | decide | omega) (by first | decide | omega) (by first | decide | omega)).trans ((eA_sA_ne hI305.1 ka_233 (by first | decide | omega) (by first | decide | omega) (by first | decide | omega)).trans (eA_c gA_sI))))))))).trans hv663))
                            obtain ⟨v665, hv665⟩ : ∃ v, eA g0 233 5 = v := ⟨_, rfl⟩
                            have wv665 := HI.t5 hI0
                            rw [hv665] at wv665
                            have tv665 := congrArg Int32.toInt hv665
                            have x666 := HI.eqA hI657 (p := 233) (j := 5) ((((eA_c (hF658.2.1 233 ma_X11_tell_231_233)).trans ((eA_sA_ne hI647.1 ka_233 (by first | decide | omega) (by first | decide | omega) (by first | decide | omega)).trans ((eA_sA_ne hI644.1 ka_233 (by first | decide | omega) (by first | decide | omega) (by first | decide | omega)).trans ((eA_sA_ne hI641.1 ka_233 (by first | decide | omega) (by first | decide | omega) (by first | decide | omega)).trans ((eA_sA_ne hI637.1 ka_233 (by first | decide | omega) (by first | decide | omega) (by first | decide | omega)).trans ((eA_sA_ne hI633.1 ka_233 (by first | decide | omega) (by first | decide | omega) (by first | decide | omega)).trans ((eA_sA_ne hI630.1 ka_233 (by first | decide | omega) (by first | decide | omega) (by first | decide | omega)).trans ((eA_sA_ne hI305.1 ka_233 (by first | decide | omega) (by first | decide | omega) (by first | decide | omega)).trans (eA_c gA_sI))))))))).trans hv665))
                            obtain ⟨v667, hv667⟩ : ∃ v, eA g0 233 6 = v := ⟨_, rfl⟩
                            have wv667 := HI.t6 hI0
                            rw [hv667] at wv667
                            have tv667 := congrArg Int32.toInt hv667
                            have x668 := HI.eqA hI657 (p := 233) (j := 6) ((((eA_c (hF658.2.1 233 ma_X11_tell_231_233)).trans ((eA_sA_ne hI647.1 ka_233 (by first | decide | omega) (by first | decide | omega) (by first | decide | omega)).trans ((eA_sA_ne hI644.1 ka_233 (by first | decide | omega) (by first | decide | omega) (by first | decide | omega)).trans ((eA_sA_ne hI641.1 ka_233 (by first | decide | omega) (by first | decide | omega) (by first | decide | omega)).trans ((eA_sA_ne hI637.1 ka_233 (by first | decide | omega) (by first | decide | omega) (by first | decide | omega)).trans ((eA_sA_ne hI633.1 ka_233 (by first | decide | omega) (by first | decide | omega) (by first | decide | omega)).trans ((eA_sA_ne hI630.1 ka_233 (by first | decide | omega) (by first | decide | omega) (by first | decide | omega)).trans ((eA_sA_ne hI305.1 ka_233 (by first | decide | omega) (by first | decide | omega) (by first | decide | omega)).trans (eA_c gA_sI))))))))).trans hv667))
                            obtain ⟨v669, hv669⟩ : ∃ v, eA g0 233 2 = v := ⟨_, rfl⟩
                            have tv669 := congrArg Int32.toInt hv669
                            have wv669 := HI.t2 hI0
                            rw [hv669] at wv669
                            have tv669 := congrArg Int32.toInt hv669
                            have x670 := HI.eqA hI657 (p := 233) (j := 2) ((((eA_c (hF658.2.1 233 ma_X11_tell_231_233)).trans ((eA_sA_ne hI647.1 ka_233 (by first | decide | omega) (by first | decide | omega) (by first | decide | omega)).trans ((eA_sA_ne hI644.1 ka_233 (by first | decide | omega) (by first | decide | omega) (by first | decide | omega)).trans ((eA_sA_ne hI641.1 ka_233 (by first | decide | omega) (by first | decide | omega) (by first | decide | omega)).trans ((eA_sA_ne hI637.1 ka_233 (by first | decide | omega) (by first | decide | omega) (by first | decide | omega)).trans ((eA_sA_ne hI633.1 ka_233 (by first | decide | omega) (by first | decide | omega) (by first | decide | omega)).trans ((eA_sA_ne hI630.1 ka_233 (by first | decide | omega) (by first | decide | omega) (by first | decide | omega)).trans ((eA_sA_ne hI305.1 ka_233 (by first | decide | omega) (by first | decide | omega) (by first | decide | omega)).trans (eA_c gA_sI))))))))).trans hv669))
                            obtain ⟨v671, hv671⟩ : ∃ v, eA g0 233 3 = v := ⟨_, rfl⟩
                            have wv671 := HI.t3 hI0
                            rw [hv671] at wv671
                            have tv671 := congrArg Int32.toInt hv671
                            have x672 := HI.eqA hI657 (p := 233) (j := 3) ((((eA_c (hF658.2.1 233 ma_X11_tell_231_233)).trans ((eA_sA_ne hI647.1 ka_233 (by first | decide | omega) (by first | decide | omega) (by first | decide | omega)).trans ((eA_sA_ne hI644.1 ka_233 (by first | decide | omega) (by first | decide | omega) (by first | decide | omega)).trans ((eA_sA_ne hI641.1 ka_233 (by first | decide | omega) (by first | decide | omega) (by first | decide | omega)).trans ((eA_sA_ne hI637.1 ka_233 (by first | decide | omega) (by first | decide | omega) (by first | decide | omega)).trans ((eA_sA_ne hI633.1 ka_233 (by first | decide | omega) (by first | decide | omega) (by first | decide | omega)).trans ((eA_sA_ne hI630.1 ka_233 (by first | decide | omega) (by first | decide | omega) (by first | decide | omega)).trans ((eA_sA_ne hI305.1 ka_233 (by first | decide | omega) (by first | decide | omega) (by first | decide | omega)).trans (eA_c gA_sI))))))))).trans hv671))
                            have x673 := HI.eqA hI0 (p := 233) (j := 0) (hv520)
                            have x674 := HI.eqA hI0 (p := 233) (j := 4) (hv663)
                            have x675 := HI.eqA hI0 (p := 233) (j := 5) (hv665)
                            have x676 := HI.eqA hI0 (p := 233) (j := 6) (hv667)
                            have x677 := HI.eqA hI0 (p := 233) (j := 2) (hv669)
                            have x678 := HI.eqA hI0 (p := 233) (j := 3) (hv671)
                            exact ⟨_, rfl, hI657, hF661, _, rfl, by omega, ⟨by omega, by omega, by omega, by omega, by omega, by omega⟩⟩
                          · have c627_ : v626.toInt = 8 := en_i_ne_f c627
                            refine At.enter rfl ?_
                            refine r_aload_n rfl ?_
                            refine r_bipush (-5) rfl ?_
                            refine r_callV 64 rfl [.ref 231, .int (-5)] [] (Nat.le_of_ble_eq_true rfl) rfl (T_X11_tell_231 _ hI305 (-5) (by decide)) ?_
                            rintro _ _ ⟨g679, rfl, hI680, hF681, v682, rfl, hr683⟩
                            refine At.sti ?_
                            have hF684 := Fr.tr hF306 hF681 rfl rfl
                            have zv685 : ((-5) : Int32).toInt = (-5) := rfl
                            refine At.enter rfl ?_
                            refine r_ireti ?_
                            have x686 := HI.eqA hI680 (p := 233) (j := 0) ((((eA_c (hF681.2.1 233 ma_X11_tell_231_233)).trans (eA_c gA_sI)).trans hv520))
                            obtain ⟨v687, hv687⟩ : ∃ v, eA g0 233 4 = v := ⟨_, rfl⟩
                            have wv687 := HI.t4 hI0
                            rw [hv687] at wv687
                            have tv687 := congrArg Int32.toInt hv687
                            have x688 := HI.eqA hI680 (p := 233) (j := 4) ((((eA_c (hF681.2.1 233 ma_X11_tell_231_233)).trans (eA_c gA_sI)).trans hv687))
                            obtain ⟨v689, hv689⟩ : ∃ v, eA g0 233 5 = v := ⟨_, rfl⟩
                            have wv689 := HI.t5 hI0
                            rw [hv689] at wv689
                            have tv689 := congrArg Int32.toInt hv689
                            have x690 := HI.eqA hI680 (p := 233) (j := 5) ((((eA_c (hF681.2.1 233 ma_X11_tell_231_233)).trans (eA_c gA_sI)).trans hv689))
                            obtain ⟨v691, hv691⟩ : ∃ v, eA g0 233 6 = v := ⟨_, rfl⟩
                            have wv691 := HI.t6 hI0
                            rw [hv691] at wv691
                            have tv691 := congrArg Int32.toInt hv691
                            have x692 := HI.eqA hI680 (p := 233) (j := 6) ((((eA_c (hF681.2.1 233 ma_X11_tell_231_233)).trans (eA_c gA_sI)).trans hv691))
                            obtain ⟨v693, hv693⟩ : ∃ v, eA g0 233 2 = v := ⟨_, rfl⟩
                            have tv693 := congrArg Int32.toInt hv693
                            have wv693 := HI.t2 hI0
                            rw [hv693] at wv693
                            have tv693 := congrArg Int32.toInt hv693
                            have x694 := HI.eqA hI680 (p := 233) (j := 2) ((((eA_c (hF681.2.1 233 ma_X11_tell_231_233)).trans (eA_c gA_sI)).trans hv693))
                            obtain ⟨v695, hv695⟩ : ∃ v, eA g0 233 3 = v := ⟨_, rfl⟩
                            have wv695 := HI.t3 hI0
                            rw [hv695] at wv695
                            have tv695 := congrArg Int32.toInt hv695
                            have x696 := HI.eqA hI680 (p := 233) (j := 3) ((((eA_c (hF681.2.1 233 ma_X11_tell_231_233)).trans (eA_c gA_sI)).trans hv695))
                            have x697 := HI.eqA hI0 (p := 233) (j := 0) (hv520)
                            have x698 := HI.eqA hI0 (p := 233) (j := 4) (hv687)
                            have x699 := HI.eqA hI0 (p := 233) (j := 5) (hv689)
                            have x700 := HI.eqA hI0 (p := 233) (j := 6) (hv691)
                            have x701 := HI.eqA hI0 (p := 233) (j := 2) (hv693)
                            have x702 := HI.eqA hI0 (p := 233) (j := 3) (hv695)
                            exact ⟨_, rfl, hI680, hF684, _, rfl, by omega, ⟨by omega, by omega, by omega, by omega, by omega, by omega⟩⟩
