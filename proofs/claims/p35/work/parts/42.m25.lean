def F_X11_load_231 : List (Nat × Nat) := [(231, 0), (231, 1)]
def A_X11_load_231 : List Nat := [232, 233]
set_option maxRecDepth 100000 in
set_option maxHeartbeats 4000000 in
theorem T_X11_load_231 (d : Nat) {N : Nat} {g0 : List en_E} (hI0 : HI g0) (a1 : Int32) (a2 : Int32) (a3 : Int32) (a4 : Int32) (a5 : Int32) (a6 : Int32) : Ev (d + 3) 178 [.ref 231, .int a1, .int a2, .int a3, .int a4, .int a5, .int a6] (g0, N) (fun w h' => ∃ g', h' = (g', N) ∧ HI g' ∧ Fr F_X11_load_231 A_X11_load_231 g0 g' ∧ ∃ r : Int32, w = some (.int r) ∧ ((-5) ≤ r.toInt ∧ r.toInt ≤ 7) ∧ (((eA g' 233 0).toInt = (eA g0 233 0).toInt ∧ (eA g' 233 4).toInt = (eA g0 233 4).toInt ∧ (eA g' 233 5).toInt = (eA g0 233 5).toInt ∧ (eA g' 233 6).toInt = (eA g0 233 6).toInt) ∧ (∀ i : Int, 10 ≤ i → i < 46 → (eA g' 233 (i)).toInt = (eA g0 233 (i)).toInt) ∧ (∀ i : Int, 94 ≤ i → i < 110 → (eA g' 233 (i)).toInt = (eA g0 233 (i)).toInt))) := by
  have hF0 : Fr F_X11_load_231 A_X11_load_231 g0 g0 := Fr.rf
  refine Ev.mk rfl rfl ⟨Nat.le_of_ble_eq_true rfl, Or.inr (q_rc hI0.1 kx_231 rfl)⟩ ?_
  show At _ none _ _ (0, [(0, .ref 231), (1, .int a1), (2, .int a2), (3, .int a3), (4, .int a4), (5, .int a5), (6, .int a6)], [], (_, _)) _
  refine At.enter rfl ?_
  refine r_aload_n rfl ?_
  refine r_iconst 0 rfl ?_
  refine q_putI (Sh.int hI0.1 kx_231 rfl) rfl ?_
  have hI305 := HI.wI0 hI0 kx_231 rfl (p := 231) (b := 0) (v := 0) rfl
  have hF306 := Fr.wI (p := 231) (b := 0) (v := 0) hF0 rfl
  refine r_iload_n rfl ?_
  refine r_iload rfl ?_
  refine r_iload rfl ?_
  refine r_iload rfl ?_
  refine q_inlS 15 rfl [.int a1, .int a4, .int a5, .int a6] [] (Nat.le_of_ble_eq_true rfl) rfl ?_
  refine Ev.mk rfl rfl ⟨Nat.le_of_ble_eq_true rfl, Or.inl rfl⟩ ?_
  show At _ none _ _ (0, [(0, .int a1), (1, .int a4), (2, .int a5), (3, .int a6)], [], (_, _)) _
  refine At.enter rfl ?_
  refine r_iload_n rfl ?_
  refine q_i2l (fun v307 hv307 => ?_)
  refine r_lconst 1 rfl ?_
  refine r_ldc2 9 rfl ?_
  refine q_inlS 9 rfl [.long v307, .long 1, .long 9] [] (Nat.le_of_ble_eq_true rfl) rfl ?_
  refine Ev.mk rfl rfl ⟨Nat.le_of_ble_eq_true rfl, Or.inl rfl⟩ ?_
  show At _ none _ _ (0, [(0, .long v307), (2, .long 1), (4, .long 9)], [], (_, _)) _
  refine At.enter rfl ?_
  refine r_lload_n rfl ?_
  refine r_lload_n rfl ?_
  refine r_lcmp _ rfl ?_
  refine r_ifs 6 rfl (fun c308 => ?_) (fun c308 => ?_)
  · have c308_ : v307.toInt < 1 := en_j_lt_t c308
    refine At.enter rfl ?_
    refine r_iconst 0 rfl ?_
    refine Ar.fall 18 rfl ?_
    refine At.enter rfl ?_
    refine q_iretz (by decide) ?_
    refine At.enter rfl ?_
    refine r_ift (by decide) ?_
    refine At.enter rfl ?_
    refine r_iconst 0 rfl ?_
    refine Ar.fall 53 rfl ?_
    refine At.enter rfl ?_
    refine q_iretz (by decide) ?_
    refine At.enter rfl ?_
    refine r_iff 18 rfl (by decide) ?_
    refine At.enter rfl ?_
    refine r_aload_n rfl ?_
    refine r_iconst (-1) rfl ?_
    refine r_callV 23 rfl [.ref 231, .int (-1)] [] (Nat.le_of_ble_eq_true rfl) rfl (T_X11_tell_231 _ hI305 (-1) (by decide)) ?_
    rintro _ _ ⟨g309, rfl, hI310, hF311, v312, rfl, hr313⟩
    refine At.sti ?_
    have hF314 := Fr.tr hF306 hF311 rfl rfl
    have zv315 : ((-1) : Int32).toInt = (-1) := rfl
    refine At.enter rfl ?_
    refine r_ireti ?_
    obtain ⟨v316, hv316⟩ : ∃ v, eA g0 233 0 = v := ⟨_, rfl⟩
    have tv316 := congrArg Int32.toInt hv316
    have wv316 := HI.t0 hI0
    rw [hv316] at wv316
    have tv316 := congrArg Int32.toInt hv316
    have x317 := HI.eqA hI310 (p := 233) (j := 0) ((((eA_c (hF311.2.1 233 (by decide))).trans (eA_c gA_sI)).trans hv316))
    obtain ⟨v318, hv318⟩ : ∃ v, eA g0 233 4 = v := ⟨_, rfl⟩
    have wv318 := HI.t4 hI0
    rw [hv318] at wv318
    have tv318 := congrArg Int32.toInt hv318
    have x319 := HI.eqA hI310 (p := 233) (j := 4) ((((eA_c (hF311.2.1 233 (by decide))).trans (eA_c gA_sI)).trans hv318))
    obtain ⟨v320, hv320⟩ : ∃ v, eA g0 233 5 = v := ⟨_, rfl⟩
    have wv320 := HI.t5 hI0
    rw [hv320] at wv320
    have tv320 := congrArg Int32.toInt hv320
    have x321 := HI.eqA hI310 (p := 233) (j := 5) ((((eA_c (hF311.2.1 233 (by decide))).trans (eA_c gA_sI)).trans hv320))
    obtain ⟨v322, hv322⟩ : ∃ v, eA g0 233 6 = v := ⟨_, rfl⟩
    have wv322 := HI.t6 hI0
    rw [hv322] at wv322
    have tv322 := congrArg Int32.toInt hv322
    have x323 := HI.eqA hI310 (p := 233) (j := 6) ((((eA_c (hF311.2.1 233 (by decide))).trans (eA_c gA_sI)).trans hv322))
    have x324 := HI.eqA hI0 (p := 233) (j := 0) (hv316)
    have x325 := HI.eqA hI0 (p := 233) (j := 4) (hv318)
    have x326 := HI.eqA hI0 (p := 233) (j := 5) (hv320)
    have x327 := HI.eqA hI0 (p := 233) (j := 6) (hv322)
    exact ⟨_, rfl, hI310, hF314, _, rfl, by omega, ⟨⟨by omega, by omega, by omega, by omega⟩, (by intro i i0 i1; refine (eA_ti (((hF311.2.1 233 (by decide)).trans (gA_sI)))).trans ?_; (first | rfl | exact eA_ix (by omega) | omega)), (by intro i i0 i1; refine (eA_ti (((hF311.2.1 233 (by decide)).trans (gA_sI)))).trans ?_; (first | rfl | exact eA_ix (by omega) | omega))⟩⟩
  · have c308_ : v307.toInt ≥ 1 := en_j_lt_f c308
    refine At.enter rfl ?_
    refine r_lload_n rfl ?_
    refine r_lload rfl ?_
    refine r_lcmp _ rfl ?_
    refine r_ifs 13 rfl (fun c328 => ?_) (fun c328 => ?_)
    · have c328_ : v307.toInt > 9 := en_j_gt_t c328
      refine At.enter rfl ?_
      refine r_iconst 0 rfl ?_
      refine Ar.fall 18 rfl ?_
      refine At.enter rfl ?_
      refine q_iretz (by decide) ?_
      refine At.enter rfl ?_
      refine r_ift (by decide) ?_
      refine At.enter rfl ?_
      refine r_iconst 0 rfl ?_
      refine Ar.fall 53 rfl ?_
      refine At.enter rfl ?_
      refine q_iretz (by decide) ?_
      refine At.enter rfl ?_
      refine r_iff 18 rfl (by decide) ?_
      refine At.enter rfl ?_
      refine r_aload_n rfl ?_
      refine r_iconst (-1) rfl ?_
      refine r_callV 23 rfl [.ref 231, .int (-1)] [] (Nat.le_of_ble_eq_true rfl) rfl (T_X11_tell_231 _ hI305 (-1) (by decide)) ?_
      rintro _ _ ⟨g329, rfl, hI330, hF331, v332, rfl, hr333⟩
      refine At.sti ?_
      have hF334 := Fr.tr hF306 hF331 rfl rfl
      have zv335 : ((-1) : Int32).toInt = (-1) := rfl
      refine At.enter rfl ?_
      refine r_ireti ?_
      obtain ⟨v336, hv336⟩ : ∃ v, eA g0 233 0 = v := ⟨_, rfl⟩
      have tv336 := congrArg Int32.toInt hv336
      have wv336 := HI.t0 hI0
      rw [hv336] at wv336
      have tv336 := congrArg Int32.toInt hv336
      have x337 := HI.eqA hI330 (p := 233) (j := 0) ((((eA_c (hF331.2.1 233 (by decide))).trans (eA_c gA_sI)).trans hv336))
      obtain ⟨v338, hv338⟩ : ∃ v, eA g0 233 4 = v := ⟨_, rfl⟩
      have wv338 := HI.t4 hI0
      rw [hv338] at wv338
      have tv338 := congrArg Int32.toInt hv338
      have x339 := HI.eqA hI330 (p := 233) (j := 4) ((((eA_c (hF331.2.1 233 (by decide))).trans (eA_c gA_sI)).trans hv338))
      obtain ⟨v340, hv340⟩ : ∃ v, eA g0 233 5 = v := ⟨_, rfl⟩
      have wv340 := HI.t5 hI0
      rw [hv340] at wv340
      have tv340 := congrArg Int32.toInt hv340
      have x341 := HI.eqA hI330 (p := 233) (j := 5) ((((eA_c (hF331.2.1 233 (by decide))).trans (eA_c gA_sI)).trans hv340))
      obtain ⟨v342, hv342⟩ : ∃ v, eA g0 233 6 = v := ⟨_, rfl⟩
      have wv342 := HI.t6 hI0
      rw [hv342] at wv342
      have tv342 := congrArg Int32.toInt hv342
      have x343 := HI.eqA hI330 (p := 233) (j := 6) ((((eA_c (hF331.2.1 233 (by decide))).trans (eA_c gA_sI)).trans hv342))
      have x344 := HI.eqA hI0 (p := 233) (j := 0) (hv336)
      have x345 := HI.eqA hI0 (p := 233) (j := 4) (hv338)
      have x346 := HI.eqA hI0 (p := 233) (j := 5) (hv340)
      have x347 := HI.eqA hI0 (p := 233) (j := 6) (hv342)
      exact ⟨_, rfl, hI330, hF334, _, rfl, by omega, ⟨⟨by omega, by omega, by omega, by omega⟩, (by intro i i0 i1; refine (eA_ti (((hF331.2.1 233 (by decide)).trans (gA_sI)))).trans ?_; (first | rfl | exact eA_ix (by omega) | omega)), (by intro i i0 i1; refine (eA_ti (((hF331.2.1 233 (by decide)).trans (gA_sI)))).trans ?_; (first | rfl | exact eA_ix (by omega) | omega))⟩⟩
    · have c328_ : v307.toInt ≤ 9 := en_j_gt_f c328
      refine At.enter rfl ?_
      refine r_iconst 1 rfl ?_
      refine r_goto ?_
      refine At.enter rfl ?_
      refine q_iretz (by decide) ?_
      refine At.enter rfl ?_
      refine r_iff 12 rfl (by decide) ?_
      refine At.enter rfl ?_
      refine r_iload_n rfl ?_
      refine q_i2l (fun v348 hv348 => ?_)
      refine r_lconst 0 rfl ?_
      refine r_ldc2 99 rfl ?_
      refine q_inlS 21 rfl [.long v348, .long 0, .long 99] [] (Nat.le_of_ble_eq_true rfl) rfl ?_
      refine Ev.mk rfl rfl ⟨Nat.le_of_ble_eq_true rfl, Or.inl rfl⟩ ?_
      show At _ none _ _ (0, [(0, .long v348), (2, .long 0), (4, .long 99)], [], (_, _)) _
      refine At.enter rfl ?_
      refine r_lload_n rfl ?_
      refine r_lload_n rfl ?_
      refine r_lcmp _ rfl ?_
      refine r_ifs 6 rfl (fun c349 => ?_) (fun c349 => ?_)
      · have c349_ : v348.toInt < 0 := en_j_lt_t c349
        refine At.enter rfl ?_
        refine r_iconst 0 rfl ?_
        refine Ar.fall 18 rfl ?_
        refine At.enter rfl ?_
        refine q_iretz (by decide) ?_
        refine At.enter rfl ?_
        refine r_ift (by decide) ?_
        refine At.enter rfl ?_
        refine r_iconst 0 rfl ?_
        refine Ar.fall 53 rfl ?_
        refine At.enter rfl ?_
        refine q_iretz (by decide) ?_
        refine At.enter rfl ?_
        refine r_iff 18 rfl (by decide) ?_
        refine At.enter rfl ?_
        refine r_aload_n rfl ?_
        refine r_iconst (-1) rfl ?_
        refine r_callV 23 rfl [.ref 231, .int (-1)] [] (Nat.le_of_ble_eq_true rfl) rfl (T_X11_tell_231 _ hI305 (-1) (by decide)) ?_
        rintro _ _ ⟨g350, rfl, hI351, hF352, v353, rfl, hr354⟩
        refine At.sti ?_
        have hF355 := Fr.tr hF306 hF352 rfl rfl
        have zv356 : ((-1) : Int32).toInt = (-1) := rfl
        refine At.enter rfl ?_
        refine r_ireti ?_
        obtain ⟨v357, hv357⟩ : ∃ v, eA g0 233 0 = v := ⟨_, rfl⟩
        have tv357 := congrArg Int32.toInt hv357
        have wv357 := HI.t0 hI0
        rw [hv357] at wv357
        have tv357 := congrArg Int32.toInt hv357
        have x358 := HI.eqA hI351 (p := 233) (j := 0) ((((eA_c (hF352.2.1 233 (by decide))).trans (eA_c gA_sI)).trans hv357))
        obtain ⟨v359, hv359⟩ : ∃ v, eA g0 233 4 = v := ⟨_, rfl⟩
        have wv359 := HI.t4 hI0
        rw [hv359] at wv359
        have tv359 := congrArg Int32.toInt hv359
        have x360 := HI.eqA hI351 (p := 233) (j := 4) ((((eA_c (hF352.2.1 233 (by decide))).trans (eA_c gA_sI)).trans hv359))
        obtain ⟨v361, hv361⟩ : ∃ v, eA g0 233 5 = v := ⟨_, rfl⟩
        have wv361 := HI.t5 hI0
        rw [hv361] at wv361
        have tv361 := congrArg Int32.toInt hv361
        have x362 := HI.eqA hI351 (p := 233) (j := 5) ((((eA_c (hF352.2.1 233 (by decide))).trans (eA_c gA_sI)).trans hv361))
        obtain ⟨v363, hv363⟩ : ∃ v, eA g0 233 6 = v := ⟨_, rfl⟩
        have wv363 := HI.t6 hI0
        rw [hv363] at wv363
        have tv363 := congrArg Int32.toInt hv363
        have x364 := HI.eqA hI351 (p := 233) (j := 6) ((((eA_c (hF352.2.1 233 (by decide))).trans (eA_c gA_sI)).trans hv363))
        have x365 := HI.eqA hI0 (p := 233) (j := 0) (hv357)
        have x366 := HI.eqA hI0 (p := 233) (j := 4) (hv359)
        have x367 := HI.eqA hI0 (p := 233) (j := 5) (hv361)
        have x368 := HI.eqA hI0 (p := 233) (j := 6) (hv363)
        exact ⟨_, rfl, hI351, hF355, _, rfl, by omega, ⟨⟨by omega, by omega, by omega, by omega⟩, (by intro i i0 i1; refine (eA_ti (((hF352.2.1 233 (by decide)).trans (gA_sI)))).trans ?_; (first | rfl | exact eA_ix (by omega) | omega)), (by intro i i0 i1; refine (eA_ti (((hF352.2.1 233 (by decide)).trans (gA_sI)))).trans ?_; (first | rfl | exact eA_ix (by omega) | omega))⟩⟩
      · have c349_ : v348.toInt ≥ 0 := en_j_lt_f c349
        refine At.enter rfl ?_
        refine r_lload_n rfl ?_
        refine r_lload rfl ?_
        refine r_lcmp _ rfl ?_
        refine r_ifs 13 rfl (fun c369 => ?_) (fun c369 => ?_)
        · have c369_ : v348.toInt > 99 := en_j_gt_t c369
          refine At.enter rfl ?_
          refine r_iconst 0 rfl ?_
          refine Ar.fall 18 rfl ?_
          refine At.enter rfl ?_
          refine q_iretz (by decide) ?_
          refine At.enter rfl ?_
          refine r_ift (by decide) ?_
          refine At.enter rfl ?_
          refine r_iconst 0 rfl ?_
          refine Ar.fall 53 rfl ?_
          refine At.enter rfl ?_
          refine q_iretz (by decide) ?_
          refine At.enter rfl ?_
          refine r_iff 18 rfl (by decide) ?_
          refine At.enter rfl ?_
          refine r_aload_n rfl ?_
          refine r_iconst (-1) rfl ?_
          refine r_callV 23 rfl [.ref 231, .int (-1)] [] (Nat.le_of_ble_eq_true rfl) rfl (T_X11_tell_231 _ hI305 (-1) (by decide)) ?_
          rintro _ _ ⟨g370, rfl, hI371, hF372, v373, rfl, hr374⟩
          refine At.sti ?_
          have hF375 := Fr.tr hF306 hF372 rfl rfl
          have zv376 : ((-1) : Int32).toInt = (-1) := rfl
          refine At.enter rfl ?_
          refine r_ireti ?_
          obtain ⟨v377, hv377⟩ : ∃ v, eA g0 233 0 = v := ⟨_, rfl⟩
          have tv377 := congrArg Int32.toInt hv377
          have wv377 := HI.t0 hI0
          rw [hv377] at wv377
          have tv377 := congrArg Int32.toInt hv377
          have x378 := HI.eqA hI371 (p := 233) (j := 0) ((((eA_c (hF372.2.1 233 (by decide))).trans (eA_c gA_sI)).trans hv377))
          obtain ⟨v379, hv379⟩ : ∃ v, eA g0 233 4 = v := ⟨_, rfl⟩
          have wv379 := HI.t4 hI0
          rw [hv379] at wv379
          have tv379 := congrArg Int32.toInt hv379
          have x380 := HI.eqA hI371 (p := 233) (j := 4) ((((eA_c (hF372.2.1 233 (by decide))).trans (eA_c gA_sI)).trans hv379))
          obtain ⟨v381, hv381⟩ : ∃ v, eA g0 233 5 = v := ⟨_, rfl⟩
          have wv381 := HI.t5 hI0
          rw [hv381] at wv381
          have tv381 := congrArg Int32.toInt hv381
          have x382 := HI.eqA hI371 (p := 233) (j := 5) ((((eA_c (hF372.2.1 233 (by decide))).trans (eA_c gA_sI)).trans hv381))
          obtain ⟨v383, hv383⟩ : ∃ v, eA g0 233 6 = v := ⟨_, rfl⟩
          have wv383 := HI.t6 hI0
          rw [hv383] at wv383
          have tv383 := congrArg Int32.toInt hv383
          have x384 := HI.eqA hI371 (p := 233) (j := 6) ((((eA_c (hF372.2.1 233 (by decide))).trans (eA_c gA_sI)).trans hv383))
          have x385 := HI.eqA hI0 (p := 233) (j := 0) (hv377)
          have x386 := HI.eqA hI0 (p := 233) (j := 4) (hv379)
          have x387 := HI.eqA hI0 (p := 233) (j := 5) (hv381)
          have x388 := HI.eqA hI0 (p := 233) (j := 6) (hv383)
          exact ⟨_, rfl, hI371, hF375, _, rfl, by omega, ⟨⟨by omega, by omega, by omega, by omega⟩, (by intro i i0 i1; refine (eA_ti (((hF372.2.1 233 (by decide)).trans (gA_sI)))).trans ?_; (first | rfl | exact eA_ix (by omega) | omega)), (by intro i i0 i1; refine (eA_ti (((hF372.2.1 233 (by decide)).trans (gA_sI)))).trans ?_; (first | rfl | exact eA_ix (by omega) | omega))⟩⟩
        · have c369_ : v348.toInt ≤ 99 := en_j_gt_f c369
          refine At.enter rfl ?_
          refine r_iconst 1 rfl ?_
          refine r_goto ?_
          refine At.enter rfl ?_
          refine q_iretz (by decide) ?_
          refine At.enter rfl ?_
          refine r_iff 24 rfl (by decide) ?_
          refine At.enter rfl ?_
          refine r_iload_n rfl ?_
          refine q_i2l (fun v389 hv389 => ?_)
          refine r_lconst 0 rfl ?_
          refine r_ldc2 9 rfl ?_
          refine q_inlS 33 rfl [.long v389, .long 0, .long 9] [] (Nat.le_of_ble_eq_true rfl) rfl ?_
          refine Ev.mk rfl rfl ⟨Nat.le_of_ble_eq_true rfl, Or.inl rfl⟩ ?_
          show At _ none _ _ (0, [(0, .long v389), (2, .long 0), (4, .long 9)], [], (_, _)) _
          refine At.enter rfl ?_
          refine r_lload_n rfl ?_
          refine r_lload_n rfl ?_
          refine r_lcmp _ rfl ?_
          refine r_ifs 6 rfl (fun c390 => ?_) (fun c390 => ?_)
          · have c390_ : v389.toInt < 0 := en_j_lt_t c390
            refine At.enter rfl ?_
            refine r_iconst 0 rfl ?_
            refine Ar.fall 18 rfl ?_
            refine At.enter rfl ?_
            refine q_iretz (by decide) ?_
            refine At.enter rfl ?_
            refine r_ift (by decide) ?_
            refine At.enter rfl ?_
            refine r_iconst 0 rfl ?_
            refine Ar.fall 53 rfl ?_
            refine At.enter rfl ?_
            refine q_iretz (by decide) ?_
            refine At.enter rfl ?_
            refine r_iff 18 rfl (by decide) ?_
            refine At.enter rfl ?_
            refine r_aload_n rfl ?_
            refine r_iconst (-1) rfl ?_
            refine r_callV 23 rfl [.ref 231, .int (-1)] [] (Nat.le_of_ble_eq_true rfl) rfl (T_X11_tell_231 _ hI305 (-1) (by decide)) ?_
            rintro _ _ ⟨g391, rfl, hI392, hF393, v394, rfl, hr395⟩
            refine At.sti ?_
            have hF396 := Fr.tr hF306 hF393 rfl rfl
            have zv397 : ((-1) : Int32).toInt = (-1) := rfl
            refine At.enter rfl ?_
            refine r_ireti ?_
            obtain ⟨v398, hv398⟩ : ∃ v, eA g0 233 0 = v := ⟨_, rfl⟩
            have tv398 := congrArg Int32.toInt hv398
            have wv398 := HI.t0 hI0
            rw [hv398] at wv398
            have tv398 := congrArg Int32.toInt hv398
            have x399 := HI.eqA hI392 (p := 233) (j := 0) ((((eA_c (hF393.2.1 233 (by decide))).trans (eA_c gA_sI)).trans hv398))
            obtain ⟨v400, hv400⟩ : ∃ v, eA g0 233 4 = v := ⟨_, rfl⟩
            have wv400 := HI.t4 hI0
            rw [hv400] at wv400
            have tv400 := congrArg Int32.toInt hv400
            have x401 := HI.eqA hI392 (p := 233) (j := 4) ((((eA_c (hF393.2.1 233 (by decide))).trans (eA_c gA_sI)).trans hv400))
            obtain ⟨v402, hv402⟩ : ∃ v, eA g0 233 5 = v := ⟨_, rfl⟩
            have wv402 := HI.t5 hI0
            rw [hv402] at wv402
            have tv402 := congrArg Int32.toInt hv402
            have x403 := HI.eqA hI392 (p := 233) (j := 5) ((((eA_c (hF393.2.1 233 (by decide))).trans (eA_c gA_sI)).trans hv402))
            obtain ⟨v404, hv404⟩ : ∃ v, eA g0 233 6 = v := ⟨_, rfl⟩
            have wv404 := HI.t6 hI0
            rw [hv404] at wv404
            have tv404 := congrArg Int32.toInt hv404
            have x405 := HI.eqA hI392 (p := 233) (j := 6) ((((eA_c (hF393.2.1 233 (by decide))).trans (eA_c gA_sI)).trans hv404))
            have x406 := HI.eqA hI0 (p := 233) (j := 0) (hv398)
            have x407 := HI.eqA hI0 (p := 233) (j := 4) (hv400)
            have x408 := HI.eqA hI0 (p := 233) (j := 5) (hv402)
            have x409 := HI.eqA hI0 (p := 233) (j := 6) (hv404)
            exact ⟨_, rfl, hI392, hF396, _, rfl, by omega, ⟨⟨by omega, by omega, by omega, by omega⟩, (by intro i i0 i1; refine (eA_ti (((hF393.2.1 233 (by decide)).trans (gA_sI)))).trans ?_; (first | rfl | exact eA_ix (by omega) | omega)), (by intro i i0 i1; refine (eA_ti (((hF393.2.1 233 (by decide)).trans (gA_sI)))).trans ?_; (first | rfl | exact eA_ix (by omega) | omega))⟩⟩
          · have c390_ : v389.toInt ≥ 0 := en_j_lt_f c390
            refine At.enter rfl ?_
            refine r_lload_n rfl ?_
            refine r_lload rfl ?_
            refine r_lcmp _ rfl ?_
            refine r_ifs 13 rfl (fun c410 => ?_) (fun c410 => ?_)
            · have c410_ : v389.toInt > 9 := en_j_gt_t c410
              refine At.enter rfl ?_
              refine r_iconst 0 rfl ?_
              refine Ar.fall 18 rfl ?_
              refine At.enter rfl ?_
              refine q_iretz (by decide) ?_
              refine At.enter rfl ?_
              refine r_ift (by decide) ?_
              refine At.enter rfl ?_
              refine r_iconst 0 rfl ?_
              refine Ar.fall 53 rfl ?_
              refine At.enter rfl ?_
              refine q_iretz (by decide) ?_
              refine At.enter rfl ?_
              refine r_iff 18 rfl (by decide) ?_
              refine At.enter rfl ?_
              refine r_aload_n rfl ?_
              refine r_iconst (-1) rfl ?_
              refine r_callV 23 rfl [.ref 231, .int (-1)] [] (Nat.le_of_ble_eq_true rfl) rfl (T_X11_tell_231 _ hI305 (-1) (by decide)) ?_
              rintro _ _ ⟨g411, rfl, hI412, hF413, v414, rfl, hr415⟩
              refine At.sti ?_
              have hF416 := Fr.tr hF306 hF413 rfl rfl
              have zv417 : ((-1) : Int32).toInt = (-1) := rfl
              refine At.enter rfl ?_
              refine r_ireti ?_
              obtain ⟨v418, hv418⟩ : ∃ v, eA g0 233 0 = v := ⟨_, rfl⟩
              have tv418 := congrArg Int32.toInt hv418
              have wv418 := HI.t0 hI0
              rw [hv418] at wv418
              have tv418 := congrArg Int32.toInt hv418
              have x419 := HI.eqA hI412 (p := 233) (j := 0) ((((eA_c (hF413.2.1 233 (by decide))).trans (eA_c gA_sI)).trans hv418))
              obtain ⟨v420, hv420⟩ : ∃ v, eA g0 233 4 = v := ⟨_, rfl⟩
              have wv420 := HI.t4 hI0
              rw [hv420] at wv420
              have tv420 := congrArg Int32.toInt hv420
              have x421 := HI.eqA hI412 (p := 233) (j := 4) ((((eA_c (hF413.2.1 233 (by decide))).trans (eA_c gA_sI)).trans hv420))
              obtain ⟨v422, hv422⟩ : ∃ v, eA g0 233 5 = v := ⟨_, rfl⟩
              have wv422 := HI.t5 hI0
              rw [hv422] at wv422
              have tv422 := congrArg Int32.toInt hv422
              have x423 := HI.eqA hI412 (p := 233) (j := 5) ((((eA_c (hF413.2.1 233 (by decide))).trans (eA_c gA_sI)).trans hv422))
              obtain ⟨v424, hv424⟩ : ∃ v, eA g0 233 6 = v := ⟨_, rfl⟩
              have wv424 := HI.t6 hI0
              rw [hv424] at wv424
              have tv424 := congrArg Int32.toInt hv424
              have x425 := HI.eqA hI412 (p := 233) (j := 6) ((((eA_c (hF413.2.1 233 (by decide))).trans (eA_c gA_sI)).trans hv424))
              have x426 := HI.eqA hI0 (p := 233) (j := 0) (hv418)
              have x427 := HI.eqA hI0 (p := 233) (j := 4) (hv420)
              have x428 := HI.eqA hI0 (p := 233) (j := 5) (hv422)
              have x429 := HI.eqA hI0 (p := 233) (j := 6) (hv424)
              exact ⟨_, rfl, hI412, hF416, _, rfl, by omega, ⟨⟨by omega, by omega, by omega, by omega⟩, (by intro i i0 i1; refine (eA_ti (((hF413.2.1 233 (by decide)).trans (gA_sI)))).trans ?_; (first | rfl | exact eA_ix (by omega) | omega)), (by intro i i0 i1; refine (eA_ti (((hF413.2.1 233 (by decide)).trans (gA_sI)))).trans ?_; (first | rfl | exact eA_ix (by omega) | omega))⟩⟩
            · have c410_ : v389.toInt ≤ 9 := en_j_gt_f c410
              refine At.enter rfl ?_
              refine r_iconst 1 rfl ?_
              refine r_goto ?_
              refine At.enter rfl ?_
              refine q_iretz (by decide) ?_
              refine At.enter rfl ?_
              refine r_iff 36 rfl (by decide) ?_
              refine At.enter rfl ?_
              refine r_iload_n rfl ?_
              refine q_i2l (fun v430 hv430 => ?_)
              refine r_lconst 0 rfl ?_
              refine r_ldc2 9999 rfl ?_
              refine q_inlS 45 rfl [.long v430, .long 0, .long 9999] [] (Nat.le_of_ble_eq_true rfl) rfl ?_
              refine Ev.mk rfl rfl ⟨Nat.le_of_ble_eq_true rfl, Or.inl rfl⟩ ?_
              show At _ none _ _ (0, [(0, .long v430), (2, .long 0), (4, .long 9999)], [], (_, _)) _
              refine At.enter rfl ?_
              refine r_lload_n rfl ?_
              refine r_lload_n rfl ?_
              refine r_lcmp _ rfl ?_
              refine r_ifs 6 rfl (fun c431 => ?_) (fun c431 => ?_)
              · have c431_ : v430.toInt < 0 := en_j_lt_t c431
                refine At.enter rfl ?_
                refine r_iconst 0 rfl ?_
                refine Ar.fall 18 rfl ?_
                refine At.enter rfl ?_
                refine q_iretz (by decide) ?_
                refine At.enter rfl ?_
                refine r_ift (by decide) ?_
                refine At.enter rfl ?_
                refine r_iconst 0 rfl ?_
                refine Ar.fall 53 rfl ?_
                refine At.enter rfl ?_
                refine q_iretz (by decide) ?_
                refine At.enter rfl ?_
                refine r_iff 18 rfl (by decide) ?_
                refine At.enter rfl ?_
                refine r_aload_n rfl ?_
                refine r_iconst (-1) rfl ?_
                refine r_callV 23 rfl [.ref 231, .int (-1)] [] (Nat.le_of_ble_eq_true rfl) rfl (T_X11_tell_231 _ hI305 (-1) (by decide)) ?_
                rintro _ _ ⟨g432, rfl, hI433, hF434, v435, rfl, hr436⟩
                refine At.sti ?_
                have hF437 := Fr.tr hF306 hF434 rfl rfl
                have zv438 : ((-1) : Int32).toInt = (-1) := rfl
                refine At.enter rfl ?_
                refine r_ireti ?_
                obtain ⟨v439, hv439⟩ : ∃ v, eA g0 233 0 = v := ⟨_, rfl⟩
                have tv439 := congrArg Int32.toInt hv439
                have wv439 := HI.t0 hI0
                rw [hv439] at wv439
                have tv439 := congrArg Int32.toInt hv439
                have x440 := HI.eqA hI433 (p := 233) (j := 0) ((((eA_c (hF434.2.1 233 (by decide))).trans (eA_c gA_sI)).trans hv439))
                obtain ⟨v441, hv441⟩ : ∃ v, eA g0 233 4 = v := ⟨_, rfl⟩
                have wv441 := HI.t4 hI0
                rw [hv441] at wv441
                have tv441 := congrArg Int32.toInt hv441
                have x442 := HI.eqA hI433 (p := 233) (j := 4) ((((eA_c (hF434.2.1 233 (by decide))).trans (eA_c gA_sI)).trans hv441))
                obtain ⟨v443, hv443⟩ : ∃ v, eA g0 233 5 = v := ⟨_, rfl⟩
                have wv443 := HI.t5 hI0
                rw [hv443] at wv443
                have tv443 := congrArg Int32.toInt hv443
                have x444 := HI.eqA hI433 (p := 233) (j := 5) ((((eA_c (hF434.2.1 233 (by decide))).trans (eA_c gA_sI)).trans hv443))
                obtain ⟨v445, hv445⟩ : ∃ v, eA g0 233 6 = v := ⟨_, rfl⟩
                have wv445 := HI.t6 hI0
                rw [hv445] at wv445
                have tv445 := congrArg Int32.toInt hv445
                have x446 := HI.eqA hI433 (p := 233) (j := 6) ((((eA_c (hF434.2.1 233 (by decide))).trans (eA_c gA_sI)).trans hv445))
                have x447 := HI.eqA hI0 (p := 233) (j := 0) (hv439)
                have x448 := HI.eqA hI0 (p := 233) (j := 4) (hv441)
                have x449 := HI.eqA hI0 (p := 233) (j := 5) (hv443)
                have x450 := HI.eqA hI0 (p := 233) (j := 6) (hv445)
                exact ⟨_, rfl, hI433, hF437, _, rfl, by omega, ⟨⟨by omega, by omega, by omega, by omega⟩, (by intro i i0 i1; refine (eA_ti (((hF434.2.1 233 (by decide)).trans (gA_sI)))).trans ?_; (first | rfl | exact eA_ix (by omega) | omega)), (by intro i i0 i1; refine (eA_ti (((hF434.2.1 233 (by decide)).trans (gA_sI)))).trans ?_; (first | rfl | exact eA_ix (by omega) | omega))⟩⟩
              · have c431_ : v430.toInt ≥ 0 := en_j_lt_f c431
                refine At.enter rfl ?_
                refine r_lload_n rfl ?_
                refine r_lload rfl ?_
                refine r_lcmp _ rfl ?_
                refine r_ifs 13 rfl (fun c451 => ?_) (fun c451 => ?_)
                · have c451_ : v430.toInt > 9999 := en_j_gt_t c451
                  refine At.enter rfl ?_
                  refine r_iconst 0 rfl ?_
                  refine Ar.fall 18 rfl ?_
                  refine At.enter rfl ?_
                  refine q_iretz (by decide) ?_
                  refine At.enter rfl ?_
                  refine r_ift (by decide) ?_
                  refine At.enter rfl ?_
                  refine r_iconst 0 rfl ?_
                  refine Ar.fall 53 rfl ?_
                  refine At.enter rfl ?_
                  refine q_iretz (by decide) ?_
                  refine At.enter rfl ?_
                  refine r_iff 18 rfl (by decide) ?_
                  refine At.enter rfl ?_
                  refine r_aload_n rfl ?_
                  refine r_iconst (-1) rfl ?_
                  refine r_callV 23 rfl [.ref 231, .int (-1)] [] (Nat.le_of_ble_eq_true rfl) rfl (T_X11_tell_231 _ hI305 (-1) (by decide)) ?_
                  rintro _ _ ⟨g452, rfl, hI453, hF454, v455, rfl, hr456⟩
                  refine At.sti ?_
                  have hF457 := Fr.tr hF306 hF454 rfl rfl
                  have zv458 : ((-1) : Int32).toInt = (-1) := rfl
                  refine At.enter rfl ?_
                  refine r_ireti ?_
                  obtain ⟨v459, hv459⟩ : ∃ v, eA g0 233 0 = v := ⟨_, rfl⟩
                  have tv459 := congrArg Int32.toInt hv459
                  have wv459 := HI.t0 hI0
                  rw [hv459] at wv459
                  have tv459 := congrArg Int32.toInt hv459
                  have x460 := HI.eqA hI453 (p := 233) (j := 0) ((((eA_c (hF454.2.1 233 (by decide))).trans (eA_c gA_sI)).trans hv459))
                  obtain ⟨v461, hv461⟩ : ∃ v, eA g0 233 4 = v := ⟨_, rfl⟩
                  have wv461 := HI.t4 hI0
                  rw [hv461] at wv461
                  have tv461 := congrArg Int32.toInt hv461
                  have x462 := HI.eqA hI453 (p := 233) (j := 4) ((((eA_c (hF454.2.1 233 (by decide))).trans (eA_c gA_sI)).trans hv461))
                  obtain ⟨v463, hv463⟩ : ∃ v, eA g0 233 5 = v := ⟨_, rfl⟩
                  have wv463 := HI.t5 hI0
                  rw [hv463] at wv463
                  have tv463 := congrArg Int32.toInt hv463
                  have x464 := HI.eqA hI453 (p := 233) (j := 5) ((((eA_c (hF454.2.1 233 (by decide))).trans (eA_c gA_sI)).trans hv463))
                  obtain ⟨v465, hv465⟩ : ∃ v, eA g0 233 6 = v := ⟨_, rfl⟩
                  have wv465 := HI.t6 hI0
                  rw [hv465] at wv465
                  have tv465 := congrArg Int32.toInt hv465
                  have x466 := HI.eqA hI453 (p := 233) (j := 6) ((((eA_c (hF454.2.1 233 (by decide))).trans (eA_c gA_sI)).trans hv465))
                  have x467 := HI.eqA hI0 (p := 233) (j := 0) (hv459)
                  have x468 := HI.eqA hI0 (p := 233) (j := 4) (hv461)
                  have x469 := HI.eqA hI0 (p := 233) (j := 5) (hv463)
                  have x470 := HI.eqA hI0 (p := 233) (j := 6) (hv465)
                  exact ⟨_, rfl, hI453, hF457, _, rfl, by omega, ⟨⟨by omega, by omega, by omega, by omega⟩, (by intro i i0 i1; refine (eA_ti (((hF454.2.1 233 (by decide)).trans (gA_sI)))).trans ?_; (first | rfl | exact eA_ix (by omega) | omega)), (by intro i i0 i1; refine (eA_ti (((hF454.2.1 233 (by decide)).trans (gA_sI)))).trans ?_; (first | rfl | exact eA_ix (by omega) | omega))⟩⟩
                · have c451_ : v430.toInt ≤ 9999 := en_j_gt_f c451
                  refine At.enter rfl ?_
                  refine r_iconst 1 rfl ?_
                  refine r_goto ?_
                  refine At.enter rfl ?_
                  refine q_iretz (by decide) ?_
                  refine At.enter rfl ?_
                  refine r_iff 48 rfl (by decide) ?_
                  refine At.enter rfl ?_
                  refine r_iconst 1 rfl ?_
                  refine r_goto ?_
                  refine At.enter rfl ?_
                  refine q_iretz (by decide) ?_
                  refine At.enter rfl ?_
                  refine r_ift (by decide) ?_
                  refine At.enter rfl ?_
                  refine r_aload_n rfl ?_
                  refine r_iload_n rfl ?_
                  refine q_inlV 29 rfl [.ref 231, .int a2] [] (Nat.le_of_ble_eq_true rfl) rfl ?_
                  refine Ev.mk rfl rfl ⟨Nat.le_of_ble_eq_true rfl, Or.inr (q_rc hI305.1 kx_231 rfl)⟩ ?_
                  show At _ none _ _ (0, [(0, .ref 231), (1, .int a2)], [], (_, _)) _
                  refine At.enter rfl ?_
                  refine r_iload_n rfl ?_
                  refine q_i2l (fun v471 hv471 => ?_)
                  refine r_lconst 0 rfl ?_
                  refine r_aload_n rfl ?_
                  refine q_getR (Sh.ref hI305.1 kx_231 rfl) ?_
                  refine r_iconst 0 rfl ?_
                  obtain ⟨v472, hv472⟩ : ∃ v, eA g0 233 0 = v := ⟨_, rfl⟩
                  have tv472 := congrArg Int32.toInt hv472
                  have wv472 := HI.t0 hI0
                  rw [hv472] at wv472
                  refine q_iald (Sh.arr hI305.1 ka_233) 0 rfl (by decide) v472 ((eA_c (gA_sI)).trans hv472) ?_
                  refine q_i2l (fun v473 hv473 => ?_)
                  refine r_lconst 1 rfl ?_
                  refine q_lsub (v473.toInt - 1) rfl (by omega) (fun v474 hv474 => ?_)
                  refine q_inlS 15 rfl [.long v471, .long 0, .long v474] [] (Nat.le_of_ble_eq_true rfl) rfl ?_
                  refine Ev.mk rfl rfl ⟨Nat.le_of_ble_eq_true rfl, Or.inl rfl⟩ ?_
                  show At _ none _ _ (0, [(0, .long v471), (2, .long 0), (4, .long v474)], [], (_, _)) _
                  refine At.enter rfl ?_
                  refine r_lload_n rfl ?_
                  refine r_lload_n rfl ?_
                  refine r_lcmp _ rfl ?_
                  refine r_ifs 6 rfl (fun c475 => ?_) (fun c475 => ?_)
                  · have c475_ : v471.toInt < 0 := en_j_lt_t c475
                    refine At.enter rfl ?_
                    refine r_iconst 0 rfl ?_
                    refine Ar.fall 18 rfl ?_
                    refine At.enter rfl ?_
                    refine q_iretz (by decide) ?_
                    refine At.enter rfl ?_
                    refine q_iretz (by decide) ?_
                    refine At.enter rfl ?_
                    refine r_ift (by decide) ?_
                    refine At.enter rfl ?_
                    refine r_aload_n rfl ?_
                    refine r_bipush (-2) rfl ?_
                    refine r_callV 46 rfl [.ref 231, .int (-2)] [] (Nat.le_of_ble_eq_true rfl) rfl (T_X11_tell_231 _ hI305 (-2) (by decide)) ?_
                    rintro _ _ ⟨g476, rfl, hI477, hF478, v479, rfl, hr480⟩
                    refine At.sti ?_
                    have hF481 := Fr.tr hF306 hF478 rfl rfl
                    have zv482 : ((-2) : Int32).toInt = (-2) := rfl
                    refine At.enter rfl ?_
                    refine r_ireti ?_
                    have x483 := HI.eqA hI477 (p := 233) (j := 0) ((((eA_c (hF478.2.1 233 (by decide))).trans (eA_c gA_sI)).trans hv472))
                    obtain ⟨v484, hv484⟩ : ∃ v, eA g0 233 4 = v := ⟨_, rfl⟩
                    have wv484 := HI.t4 hI0
                    rw [hv484] at wv484
                    have tv484 := congrArg Int32.toInt hv484
                    have x485 := HI.eqA hI477 (p := 233) (j := 4) ((((eA_c (hF478.2.1 233 (by decide))).trans (eA_c gA_sI)).trans hv484))
                    obtain ⟨v486, hv486⟩ : ∃ v, eA g0 233 5 = v := ⟨_, rfl⟩
                    have wv486 := HI.t5 hI0
                    rw [hv486] at wv486
                    have tv486 := congrArg Int32.toInt hv486
                    have x487 := HI.eqA hI477 (p := 233) (j := 5) ((((eA_c (hF478.2.1 233 (by decide))).trans (eA_c gA_sI)).trans hv486))
                    obtain ⟨v488, hv488⟩ : ∃ v, eA g0 233 6 = v := ⟨_, rfl⟩
                    have wv488 := HI.t6 hI0
                    rw [hv488] at wv488
                    have tv488 := congrArg Int32.toInt hv488
                    have x489 := HI.eqA hI477 (p := 233) (j := 6) ((((eA_c (hF478.2.1 233 (by decide))).trans (eA_c gA_sI)).trans hv488))
                    have x490 := HI.eqA hI0 (p := 233) (j := 0) (hv472)
                    have x491 := HI.eqA hI0 (p := 233) (j := 4) (hv484)
                    have x492 := HI.eqA hI0 (p := 233) (j := 5) (hv486)
                    have x493 := HI.eqA hI0 (p := 233) (j := 6) (hv488)
                    exact ⟨_, rfl, hI477, hF481, _, rfl, by omega, ⟨⟨by omega, by omega, by omega, by omega⟩, (by intro i i0 i1; refine (eA_ti (((hF478.2.1 233 (by decide)).trans (gA_sI)))).trans ?_; (first | rfl | exact eA_ix (by omega) | omega)), (by intro i i0 i1; refine (eA_ti (((hF478.2.1 233 (by decide)).trans (gA_sI)))).trans ?_; (first | rfl | exact eA_ix (by omega) | omega))⟩⟩
                  · have c475_ : v471.toInt ≥ 0 := en_j_lt_f c475
                    refine At.enter rfl ?_
                    refine r_lload_n rfl ?_
                    refine r_lload rfl ?_
                    refine r_lcmp _ rfl ?_
                    refine r_ifs 13 rfl (fun c494 => ?_) (fun c494 => ?_)
                    · have c494_ : v471.toInt > v474.toInt := en_j_gt_t c494
                      refine At.enter rfl ?_
                      refine r_iconst 0 rfl ?_
                      refine Ar.fall 18 rfl ?_
                      refine At.enter rfl ?_
                      refine q_iretz (by decide) ?_
                      refine At.enter rfl ?_
                      refine q_iretz (by decide) ?_
                      refine At.enter rfl ?_
                      refine r_ift (by decide) ?_
                      refine At.enter rfl ?_
                      refine r_aload_n rfl ?_
                      refine r_bipush (-2) rfl ?_
                      refine r_callV 46 rfl [.ref 231, .int (-2)] [] (Nat.le_of_ble_eq_true rfl) rfl (T_X11_tell_231 _ hI305 (-2) (by decide)) ?_
                      rintro _ _ ⟨g495, rfl, hI496, hF497, v498, rfl, hr499⟩
                      refine At.sti ?_
                      have hF500 := Fr.tr hF306 hF497 rfl rfl
                      have zv501 : ((-2) : Int32).toInt = (-2) := rfl
                      refine At.enter rfl ?_
                      refine r_ireti ?_
                      have x502 := HI.eqA hI496 (p := 233) (j := 0) ((((eA_c (hF497.2.1 233 (by decide))).trans (eA_c gA_sI)).trans hv472))
                      obtain ⟨v503, hv503⟩ : ∃ v, eA g0 233 4 = v := ⟨_, rfl⟩
                      have wv503 := HI.t4 hI0
                      rw [hv503] at wv503
                      have tv503 := congrArg Int32.toInt hv503
                      have x504 := HI.eqA hI496 (p := 233) (j := 4) ((((eA_c (hF497.2.1 233 (by decide))).trans (eA_c gA_sI)).trans hv503))
                      obtain ⟨v505, hv505⟩ : ∃ v, eA g0 233 5 = v := ⟨_, rfl⟩
                      have wv505 := HI.t5 hI0
                      rw [hv505] at wv505
                      have tv505 := congrArg Int32.toInt hv505
                      have x506 := HI.eqA hI496 (p := 233) (j := 5) ((((eA_c (hF497.2.1 233 (by decide))).trans (eA_c gA_sI)).trans hv505))
                      obtain ⟨v507, hv507⟩ : ∃ v, eA g0 233 6 = v := ⟨_, rfl⟩
                      have wv507 := HI.t6 hI0
                      rw [hv507] at wv507
                      have tv507 := congrArg Int32.toInt hv507
                      have x508 := HI.eqA hI496 (p := 233) (j := 6) ((((eA_c (hF497.2.1 233 (by decide))).trans (eA_c gA_sI)).trans hv507))
                      have x509 := HI.eqA hI0 (p := 233) (j := 0) (hv472)
                      have x510 := HI.eqA hI0 (p := 233) (j := 4) (hv503)
                      have x511 := HI.eqA hI0 (p := 233) (j := 5) (hv505)
                      have x512 := HI.eqA hI0 (p := 233) (j := 6) (hv507)
                      exact ⟨_, rfl, hI496, hF500, _, rfl, by omega, ⟨⟨by omega, by omega, by omega, by omega⟩, (by intro i i0 i1; refine (eA_ti (((hF497.2.1 233 (by decide)).trans (gA_sI)))).trans ?_; (first | rfl | exact eA_ix (by omega) | omega)), (by intro i i0 i1; refine (eA_ti (((hF497.2.1 233 (by decide)).trans (gA_sI)))).trans ?_; (first | rfl | exact eA_ix (by omega) | omega))⟩⟩
                    · have c494_ : v471.toInt ≤ v474.toInt := en_j_gt_f c494
                      refine At.enter rfl ?_
                      refine r_iconst 1 rfl ?_
                      refine r_goto ?_
                      refine At.enter rfl ?_
                      refine q_iretz (by decide) ?_
                      refine At.enter rfl ?_
                      refine q_iretz (by decide) ?_
                      refine At.enter rfl ?_
                      refine r_iff 32 rfl (by decide) ?_
                      refine At.enter rfl ?_
                      refine r_aload_n rfl ?_
                      refine r_iload_n rfl ?_
                      refine q_inlV 37 rfl [.ref 231, .int a3] [] (Nat.le_of_ble_eq_true rfl) rfl ?_
                      refine Ev.mk rfl rfl ⟨Nat.le_of_ble_eq_true rfl, Or.inr (q_rc hI305.1 kx_231 rfl)⟩ ?_
                      show At _ none _ _ (0, [(0, .ref 231), (1, .int a3)], [], (_, _)) _
                      refine At.enter rfl ?_
                      refine r_iload_n rfl ?_
                      refine q_i2l (fun v513 hv513 => ?_)
                      refine r_lconst 0 rfl ?_
                      refine r_aload_n rfl ?_
                      refine q_getR (Sh.ref hI305.1 kx_231 rfl) ?_
                      refine r_iconst 0 rfl ?_
                      refine q_iald (Sh.arr hI305.1 ka_233) 0 rfl (by decide) v472 ((eA_c (gA_sI)).trans hv472) ?_
                      refine q_i2l (fun v514 hv514 => ?_)
                      refine r_lconst 1 rfl ?_
                      refine q_lsub (v514.toInt - 1) rfl (by omega) (fun v515 hv515 => ?_)
                      refine q_inlS 15 rfl [.long v513, .long 0, .long v515] [] (Nat.le_of_ble_eq_true rfl) rfl ?_
                      refine Ev.mk rfl rfl ⟨Nat.le_of_ble_eq_true rfl, Or.inl rfl⟩ ?_
                      show At _ none _ _ (0, [(0, .long v513), (2, .long 0), (4, .long v515)], [], (_, _)) _
                      refine At.enter rfl ?_
                      refine r_lload_n rfl ?_
                      refine r_lload_n rfl ?_
                      refine r_lcmp _ rfl ?_
                      refine r_ifs 6 rfl (fun c516 => ?_) (fun c516 => ?_)
                      · have c516_ : v513.toInt < 0 := en_j_lt_t c516
                        refine At.enter rfl ?_
                        refine r_iconst 0 rfl ?_
                        refine Ar.fall 18 rfl ?_
                        refine At.enter rfl ?_
                        refine q_iretz (by decide) ?_
                        refine At.enter rfl ?_
                        refine q_iretz (by decide) ?_
                        refine At.enter rfl ?_
                        refine r_iff 40 rfl (by decide) ?_
                        refine At.enter rfl ?_
                        refine r_aload_n rfl ?_
                        refine r_bipush (-2) rfl ?_
                        refine r_callV 46 rfl [.ref 231, .int (-2)] [] (Nat.le_of_ble_eq_true rfl) rfl (T_X11_tell_231 _ hI305 (-2) (by decide)) ?_
                        rintro _ _ ⟨g517, rfl, hI518, hF519, v520, rfl, hr521⟩
                        refine At.sti ?_
                        have hF522 := Fr.tr hF306 hF519 rfl rfl
                        have zv523 : ((-2) : Int32).toInt = (-2) := rfl
                        refine At.enter rfl ?_
                        refine r_ireti ?_
                        have x524 := HI.eqA hI518 (p := 233) (j := 0) ((((eA_c (hF519.2.1 233 (by decide))).trans (eA_c gA_sI)).trans hv472))
                        obtain ⟨v525, hv525⟩ : ∃ v, eA g0 233 4 = v := ⟨_, rfl⟩
                        have wv525 := HI.t4 hI0
                        rw [hv525] at wv525
                        have tv525 := congrArg Int32.toInt hv525
                        have x526 := HI.eqA hI518 (p := 233) (j := 4) ((((eA_c (hF519.2.1 233 (by decide))).trans (eA_c gA_sI)).trans hv525))
                        obtain ⟨v527, hv527⟩ : ∃ v, eA g0 233 5 = v := ⟨_, rfl⟩
                        have wv527 := HI.t5 hI0
                        rw [hv527] at wv527
                        have tv527 := congrArg Int32.toInt hv527
                        have x528 := HI.eqA hI518 (p := 233) (j := 5) ((((eA_c (hF519.2.1 233 (by decide))).trans (eA_c gA_sI)).trans hv527))
                        obtain ⟨v529, hv529⟩ : ∃ v, eA g0 233 6 = v := ⟨_, rfl⟩
                        have wv529 := HI.t6 hI0
                        rw [hv529] at wv529
                        have tv529 := congrArg Int32.toInt hv529
                        have x530 := HI.eqA hI518 (p := 233) (j := 6) ((((eA_c (hF519.2.1 233 (by decide))).trans (eA_c gA_sI)).trans hv529))
                        have x531 := HI.eqA hI0 (p := 233) (j := 0) (hv472)
                        have x532 := HI.eqA hI0 (p := 233) (j := 4) (hv525)
                        have x533 := HI.eqA hI0 (p := 233) (j := 5) (hv527)
                        have x534 := HI.eqA hI0 (p := 233) (j := 6) (hv529)
                        exact ⟨_, rfl, hI518, hF522, _, rfl, by omega, ⟨⟨by omega, by omega, by omega, by omega⟩, (by intro i i0 i1; refine (eA_ti (((hF519.2.1 233 (by decide)).trans (gA_sI)))).trans ?_; (first | rfl | exact eA_ix (by omega) | omega)), (by intro i i0 i1; refine (eA_ti (((hF519.2.1 233 (by decide)).trans (gA_sI)))).trans ?_; (first | rfl | exact eA_ix (by omega) | omega))⟩⟩
                      · have c516_ : v513.toInt ≥ 0 := en_j_lt_f c516
                        refine At.enter rfl ?_
                        refine r_lload_n rfl ?_
                        refine r_lload rfl ?_
                        refine r_lcmp _ rfl ?_
                        refine r_ifs 13 rfl (fun c535 => ?_) (fun c535 => ?_)
                        · have c535_ : v513.toInt > v515.toInt := en_j_gt_t c535
                          refine At.enter rfl ?_
                          refine r_iconst 0 rfl ?_
                          refine Ar.fall 18 rfl ?_
                          refine At.enter rfl ?_
                          refine q_iretz (by decide) ?_
                          refine At.enter rfl ?_
                          refine q_iretz (by decide) ?_
                          refine At.enter rfl ?_
                          refine r_iff 40 rfl (by decide) ?_
                          refine At.enter rfl ?_
                          refine r_aload_n rfl ?_
                          refine r_bipush (-2) rfl ?_
                          refine r_callV 46 rfl [.ref 231, .int (-2)] [] (Nat.le_of_ble_eq_true rfl) rfl (T_X11_tell_231 _ hI305 (-2) (by decide)) ?_
                          rintro _ _ ⟨g536, rfl, hI537, hF538, v539, rfl, hr540⟩
                          refine At.sti ?_
                          have hF541 := Fr.tr hF306 hF538 rfl rfl
                          have zv542 : ((-2) : Int32).toInt = (-2) := rfl
                          refine At.enter rfl ?_
                          refine r_ireti ?_
                          have x543 := HI.eqA hI537 (p := 233) (j := 0) ((((eA_c (hF538.2.1 233 (by decide))).trans (eA_c gA_sI)).trans hv472))
                          obtain ⟨v544, hv544⟩ : ∃ v, eA g0 233 4 = v := ⟨_, rfl⟩
                          have wv544 := HI.t4 hI0
                          rw [hv544] at wv544
                          have tv544 := congrArg Int32.toInt hv544
                          have x545 := HI.eqA hI537 (p := 233) (j := 4) ((((eA_c (hF538.2.1 233 (by decide))).trans (eA_c gA_sI)).trans hv544))
                          obtain ⟨v546, hv546⟩ : ∃ v, eA g0 233 5 = v := ⟨_, rfl⟩
                          have wv546 := HI.t5 hI0
                          rw [hv546] at wv546
                          have tv546 := congrArg Int32.toInt hv546
                          have x547 := HI.eqA hI537 (p := 233) (j := 5) ((((eA_c (hF538.2.1 233 (by decide))).trans (eA_c gA_sI)).trans hv546))
                          obtain ⟨v548, hv548⟩ : ∃ v, eA g0 233 6 = v := ⟨_, rfl⟩
                          have wv548 := HI.t6 hI0
                          rw [hv548] at wv548
                          have tv548 := congrArg Int32.toInt hv548
                          have x549 := HI.eqA hI537 (p := 233) (j := 6) ((((eA_c (hF538.2.1 233 (by decide))).trans (eA_c gA_sI)).trans hv548))
                          have x550 := HI.eqA hI0 (p := 233) (j := 0) (hv472)
                          have x551 := HI.eqA hI0 (p := 233) (j := 4) (hv544)
                          have x552 := HI.eqA hI0 (p := 233) (j := 5) (hv546)
                          have x553 := HI.eqA hI0 (p := 233) (j := 6) (hv548)
                          exact ⟨_, rfl, hI537, hF541, _, rfl, by omega, ⟨⟨by omega, by omega, by omega, by omega⟩, (by intro i i0 i1; refine (eA_ti (((hF538.2.1 233 (by decide)).trans (gA_sI)))).trans ?_; (first | rfl | exact eA_ix (by omega) | omega)), (by intro i i0 i1; refine (eA_ti (((hF538.2.1 233 (by decide)).trans (gA_sI)))).trans ?_; (first | rfl | exact eA_ix (by omega) | omega))⟩⟩
                        · have c535_ : v513.toInt ≤ v515.toInt := en_j_gt_f c535
                          refine At.enter rfl ?_
                          refine r_iconst 1 rfl ?_
                          refine r_goto ?_
                          refine At.enter rfl ?_
                          refine q_iretz (by decide) ?_
                          refine At.enter rfl ?_
                          refine q_iretz (by decide) ?_
                          refine At.enter rfl ?_
                          refine r_ift (by decide) ?_
                          refine At.enter rfl ?_
                          refine r_aload_n rfl ?_
                          refine q_getR (Sh.ref hI305.1 kx_231 rfl) ?_
                          refine r_iconst 1 rfl ?_
                          obtain ⟨v554, hv554⟩ : ∃ v, eA g0 233 1 = v := ⟨_, rfl⟩
                          have tv554 := congrArg Int32.toInt hv554
                          have wv554 := HI.t1 hI0
                          rw [hv554] at wv554
                          refine q_iald (Sh.arr hI305.1 ka_233) 1 rfl (by decide) v554 ((eA_c (gA_sI)).trans hv554) ?_
                          refine r_bipush 8 rfl ?_
                          refine r_ics 58 rfl (fun c555 => ?_) (fun c555 => ?_)
                          · have c555_ : v554.toInt ≠ 8 := en_i_ne_t c555
                            refine At.enter rfl ?_
                            refine r_aload_n rfl ?_
                            refine r_iload_n rfl ?_
                            refine r_iload_n rfl ?_
                            refine r_iload_n rfl ?_
                            refine r_iload rfl ?_
                            refine r_iload rfl ?_
                            refine r_iload rfl ?_
                            refine q_inlV 78 rfl [.ref 231, .int a1, .int a2, .int a3, .int a4, .int a5, .int a6] [] (Nat.le_of_ble_eq_true rfl) rfl ?_
                            refine Ev.mk rfl rfl ⟨Nat.le_of_ble_eq_true rfl, Or.inr (q_rc hI305.1 kx_231 rfl)⟩ ?_
                            show At _ none _ _ (0, [(0, .ref 231), (1, .int a1), (2, .int a2), (3, .int a3), (4, .int a4), (5, .int a5), (6, .int a6)], [], (_, _)) _
                            refine At.enter rfl ?_
                            refine r_bipush 46 rfl ?_
                            refine r_bipush 6 rfl ?_
                            refine r_aload_n rfl ?_
                            refine q_getR (Sh.ref hI305.1 kx_231 rfl) ?_
                            refine r_iconst 1 rfl ?_
                            refine q_iald (Sh.arr hI305.1 ka_233) 1 rfl (by decide) v554 ((eA_c (gA_sI)).trans hv554) ?_
                            refine q_imul (6 * v554.toInt) rfl (by omega) (fun v556 hv556 => ?_)
                            refine q_iadd (46 + v556.toInt) rfl (by omega) (fun v557 hv557 => ?_)
                            refine r_istore ([(7, .int v557), (0, .ref 231), (1, .int a1), (2, .int a2), (3, .int a3), (4, .int a4), (5, .int a5), (6, .int a6)]) rfl ?_
                            refine r_aload_n rfl ?_
                            refine q_getR (Sh.ref hI305.1 kx_231 rfl) ?_
                            refine r_iload rfl ?_
                            refine r_iload_n rfl ?_
                            refine q_iast (Sh.arr hI305.1 ka_233) ((6 * v554.toInt + 46)) (by omega) (by omega) ?_
                            have hI558 := HI.wl hI305 (j := (6 * v554.toInt + 46)) (v := a1) (v554.toInt) 0 (by omega) (by decide) (by omega) (by omega)
                            have hF559 := Fr.wA (p := 233) (j := (6 * v554.toInt + 46)) (v := a1) hF306 rfl
                            refine r_aload_n rfl ?_
                            refine q_getR (Sh.ref hI558.1 kx_231 rfl) ?_
                            refine r_iload rfl ?_
                            refine r_iconst 1 rfl ?_
                            refine q_iadd (v557.toInt + 1) rfl (by omega) (fun v560 hv560 => ?_)
                            refine r_iload_n rfl ?_
                            refine q_iast (Sh.arr hI558.1 ka_233) ((6 * v554.toInt + 47)) (by omega) (by omega) ?_
                            have x563 := HI.eqA hI558 (p := 233) (j := 0) ((((eA_sA_ne hI305.1 ka_233 (by first | decide | omega) (by first | decide | omega) (by first | decide | omega)).trans (eA_c gA_sI)).trans hv472))
                            have hI561 := HI.wl hI558 (j := (6 * v554.toInt + 47)) (v := a2) (v554.toInt) 1 (by omega) (by decide) (by omega) (by omega)
                            have hF562 := Fr.wA (p := 233) (j := (6 * v554.toInt + 47)) (v := a2) hF559 rfl
                            refine r_aload_n rfl ?_
                            refine q_getR (Sh.ref hI561.1 kx_231 rfl) ?_
                            refine r_iload rfl ?_
                            refine r_iconst 2 rfl ?_
                            refine q_iadd (v557.toInt + 2) rfl (by omega) (fun v564 hv564 => ?_)
                            refine r_iload_n rfl ?_
                            refine q_iast (Sh.arr hI561.1 ka_233) ((6 * v554.toInt + 48)) (by omega) (by omega) ?_
                            have x567 := HI.eqA hI561 (p := 233) (j := 0) ((((eA_sA_ne hI558.1 ka_233 (by first | decide | omega) (by first | decide | omega) (by first | decide | omega)).trans ((eA_sA_ne hI305.1 ka_233 (by first | decide | omega) (by first | decide | omega) (by first | decide | omega)).trans (eA_c gA_sI))).trans hv472))
                            have hI565 := HI.wl hI561 (j := (6 * v554.toInt + 48)) (v := a3) (v554.toInt) 2 (by omega) (by decide) (by omega) (by omega)
                            have hF566 := Fr.wA (p := 233) (j := (6 * v554.toInt + 48)) (v := a3) hF562 rfl
                            refine r_aload_n rfl ?_
                            refine q_getR (Sh.ref hI565.1 kx_231 rfl) ?_
                            refine r_iload rfl ?_
                            refine r_iconst 3 rfl ?_
                            refine q_iadd (v557.toInt + 3) rfl (by omega) (fun v568 hv568 => ?_)
                            refine r_iload rfl ?_
                            refine q_iast (Sh.arr hI565.1 ka_233) ((6 * v554.toInt + 49)) (by omega) (by omega) ?_
                            have hI569 := HI.wl hI565 (j := (6 * v554.toInt + 49)) (v := a4) (v554.toInt) 3 (by omega) (by decide) (by omega) (by omega)
                            have hF570 := Fr.wA (p := 233) (j := (6 * v554.toInt + 49)) (v := a4) hF566 rfl
                            refine r_aload_n rfl ?_
                            refine q_getR (Sh.ref hI569.1 kx_231 rfl) ?_
                            refine r_iload rfl ?_
                            refine r_iconst 4 rfl ?_
                            refine q_iadd (v557.toInt + 4) rfl (by omega) (fun v571 hv571 => ?_)
                            refine r_iload rfl ?_
                            refine q_iast (Sh.arr hI569.1 ka_233) ((6 * v554.toInt + 50)) (by omega) (by omega) ?_
                            have hI572 := HI.wl hI569 (j := (6 * v554.toInt + 50)) (v := a5) (v554.toInt) 4 (by omega) (by decide) (by omega) (by omega)
                            have hF573 := Fr.wA (p := 233) (j := (6 * v554.toInt + 50)) (v := a5) hF570 rfl
                            refine r_aload_n rfl ?_
                            refine q_getR (Sh.ref hI572.1 kx_231 rfl) ?_
                            refine r_iload rfl ?_
                            refine r_iconst 5 rfl ?_
                            refine q_iadd (v557.toInt + 5) rfl (by omega) (fun v574 hv574 => ?_)
                            refine r_iload rfl ?_
                            refine q_iast (Sh.arr hI572.1 ka_233) ((6 * v554.toInt + 51)) (by omega) (by omega) ?_
                            have hI575 := HI.wl hI572 (j := (6 * v554.toInt + 51)) (v := a6) (v554.toInt) 5 (by omega) (by decide) (by omega) (by omega)
                            have hF576 := Fr.wA (p := 233) (j := (6 * v554.toInt + 51)) (v := a6) hF573 rfl
                            refine r_aload_n rfl ?_
                            refine q_getR (Sh.ref hI575.1 kx_231 rfl) ?_
                            refine r_iconst 1 rfl ?_
                            refine r_dup2 ⟨rfl, rfl⟩ ?_
                            refine q_iald (Sh.arr hI575.1 ka_233) 1 rfl (by decide) v554 (((eA_sA_ne hI572.1 ka_233 (by first | decide | omega) (by first | decide | omega) (by first | decide | omega)).trans ((eA_sA_ne hI569.1 ka_233 (by first | decide | omega) (by first | decide | omega) (by first | decide | omega)).trans ((eA_sA_ne hI565.1 ka_233 (by first | decide | omega) (by first | decide | omega) (by first | decide | omega)).trans ((eA_sA_ne hI561.1 ka_233 (by first | decide | omega) (by first | decide | omega) (by first | decide | omega)).trans ((eA_sA_ne hI558.1 ka_233 (by first | decide | omega) (by first | decide | omega) (by first | decide | omega)).trans ((eA_sA_ne hI305.1 ka_233 (by first | decide | omega) (by first | decide | omega) (by first | decide | omega)).trans (eA_c gA_sI))))))).trans hv554) ?_
                            refine r_iconst 1 rfl ?_
                            refine q_iadd (v554.toInt + 1) rfl (by omega) (fun v577 hv577 => ?_)
                            refine q_iast (Sh.arr hI575.1 ka_233) (1) rfl (by decide) ?_
                            have x580 := HI.eqA hI575 (p := 233) (j := 0) ((((eA_sA_ne hI572.1 ka_233 (by first | decide | omega) (by first | decide | omega) (by first | decide | omega)).trans ((eA_sA_ne hI569.1 ka_233 (by first | decide | omega) (by first | decide | omega) (by first | decide | omega)).trans ((eA_sA_ne hI565.1 ka_233 (by first | decide | omega) (by first | decide | omega) (by first | decide | omega)).trans ((eA_sA_ne hI561.1 ka_233 (by first | decide | omega) (by first | decide | omega) (by first | decide | omega)).trans ((eA_sA_ne hI558.1 ka_233 (by first | decide | omega) (by first | decide | omega) (by first | decide | omega)).trans ((eA_sA_ne hI305.1 ka_233 (by first | decide | omega) (by first | decide | omega) (by first | decide | omega)).trans (eA_c gA_sI))))))).trans hv472))
                            have x581 := HI.eqA hI575 (p := 233) (j := 1) ((((eA_sA_ne hI572.1 ka_233 (by first | decide | omega) (by first | decide | omega) (by first | decide | omega)).trans ((eA_sA_ne hI569.1 ka_233 (by first | decide | omega) (by first | decide | omega) (by first | decide | omega)).trans ((eA_sA_ne hI565.1 ka_233 (by first | decide | omega) (by first | decide | omega) (by first | decide | omega)).trans ((eA_sA_ne hI561.1 ka_233 (by first | decide | omega) (by first | decide | omega) (by first | decide | omega)).trans ((eA_sA_ne hI558.1 ka_233 (by first | decide | omega) (by first | decide | omega) (by first | decide | omega)).trans ((eA_sA_ne hI305.1 ka_233 (by first | decide | omega) (by first | decide | omega) (by first | decide | omega)).trans (eA_c gA_sI))))))).trans hv554))
                            have yv582 := HI.lt hI575
                            have hI578 := HI.wt hI575 (j := 1) (v := v577) (by omega) (by omega)
                            have hF579 := Fr.wA (p := 233) (j := 1) (v := v577) hF576 rfl
                            refine q_vret ?_
                            refine At.enter rfl ?_
                            refine r_aload_n rfl ?_
                            refine r_aload_n rfl ?_
                            refine q_getR (Sh.ref hI578.1 kx_231 rfl) ?_
                            refine r_iconst 1 rfl ?_
                            refine q_iald (Sh.arr hI578.1 ka_233) 1 rfl (by decide) v577 (eA_sA_eq hI575.1 ka_233 (by first | rfl | omega) (by first | decide | omega) (by first | decide | omega)) ?_
                            refine r_iconst 1 rfl ?_
                            refine q_isub (v577.toInt - 1) rfl (by omega) (fun v583 hv583 => ?_)
                            refine r_callV 90 rfl [.ref 231, .int v583] [] (Nat.le_of_ble_eq_true rfl) rfl (T_X11_tell_231 _ hI578 v583 (by omega)) ?_
                            rintro _ _ ⟨g584, rfl, hI585, hF586, v587, rfl, hr588⟩
                            refine At.sti ?_
                            have hF589 := Fr.tr hF579 hF586 rfl rfl
                            refine At.enter rfl ?_
                            refine r_ireti ?_
                            have x590 := HI.eqA hI585 (p := 233) (j := 0) ((((eA_c (hF586.2.1 233 (by decide))).trans ((eA_sA_ne hI575.1 ka_233 (by first | decide | omega) (by first | decide | omega) (by first | decide | omega)).trans ((eA_sA_ne hI572.1 ka_233 (by first | decide | omega) (by first | decide | omega) (by first | decide | omega)).trans ((eA_sA_ne hI569.1 ka_233 (by first | decide | omega) (by first | decide | omega) (by first | decide | omega)).trans ((eA_sA_ne hI565.1 ka_233 (by first | decide | omega) (by first | decide | omega) (by first | decide | omega)).trans ((eA_sA_ne hI561.1 ka_233 (by first | decide | omega) (by first | decide | omega) (by first | decide | omega)).trans ((eA_sA_ne hI558.1 ka_233 (by first | decide | omega) (by first | decide | omega) (by first | decide | omega)).trans ((eA_sA_ne hI305.1 ka_233 (by first | decide | omega) (by first | decide | omega) (by first | decide | omega)).trans (eA_c gA_sI))))))))).trans hv472))
                            obtain ⟨v591, hv591⟩ : ∃ v, eA g0 233 4 = v := ⟨_, rfl⟩
                            have wv591 := HI.t4 hI0
                            rw [hv591] at wv591
                            have tv591 := congrArg Int32.toInt hv591
                            have x592 := HI.eqA hI585 (p := 233) (j := 4) ((((eA_c (hF586.2.1 233 (by decide))).trans ((eA_sA_ne hI575.1 ka_233 (by first | decide | omega) (by first | decide | omega) (by first | decide | omega)).trans ((eA_sA_ne hI572.1 ka_233 (by first | decide | omega) (by first | decide | omega) (by first | decide | omega)).trans ((eA_sA_ne hI569.1 ka_233 (by first | decide | omega) (by first | decide | omega) (by first | decide | omega)).trans ((eA_sA_ne hI565.1 ka_233 (by first | decide | omega) (by first | decide | omega) (by first | decide | omega)).trans ((eA_sA_ne hI561.1 ka_233 (by first | decide | omega) (by first | decide | omega) (by first | decide | omega)).trans ((eA_sA_ne hI558.1 ka_233 (by first | decide | omega) (by first | decide | omega) (by first | decide | omega)).trans ((eA_sA_ne hI305.1 ka_233 (by first | decide | omega) (by first | decide | omega) (by first | decide | omega)).trans (eA_c gA_sI))))))))).trans hv591))
                            obtain ⟨v593, hv593⟩ : ∃ v, eA g0 233 5 = v := ⟨_, rfl⟩
                            have wv593 := HI.t5 hI0
                            rw [hv593] at wv593
                            have tv593 := congrArg Int32.toInt hv593
                            have x594 := HI.eqA hI585 (p := 233) (j := 5) ((((eA_c (hF586.2.1 233 (by decide))).trans ((eA_sA_ne hI575.1 ka_233 (by first | decide | omega) (by first | decide | omega) (by first | decide | omega)).trans ((eA_sA_ne hI572.1 ka_233 (by first | decide | omega) (by first | decide | omega) (by first | decide | omega)).trans ((eA_sA_ne hI569.1 ka_233 (by first | decide | omega) (by first | decide | omega) (by first | decide | omega)).trans ((eA_sA_ne hI565.1 ka_233 (by first | decide | omega) (by first | decide | omega) (by first | decide | omega)).trans ((eA_sA_ne hI561.1 ka_233 (by first | decide | omega) (by first | decide | omega) (by first | decide | omega)).trans ((eA_sA_ne hI558.1 ka_233 (by first | decide | omega) (by first | decide | omega) (by first | decide | omega)).trans ((eA_sA_ne hI305.1 ka_233 (by first | decide | omega) (by first | decide | omega) (by first | decide | omega)).trans (eA_c gA_sI))))))))).trans hv593))
                            obtain ⟨v595, hv595⟩ : ∃ v, eA g0 233 6 = v := ⟨_, rfl⟩
                            have wv595 := HI.t6 hI0
                            rw [hv595] at wv595
                            have tv595 := congrArg Int32.toInt hv595
                            have x596 := HI.eqA hI585 (p := 233) (j := 6) ((((eA_c (hF586.2.1 233 (by decide))).trans ((eA_sA_ne hI575.1 ka_233 (by first | decide | omega) (by first | decide | omega) (by first | decide | omega)).trans ((eA_sA_ne hI572.1 ka_233 (by first | decide | omega) (by first | decide | omega) (by first | decide | omega)).trans ((eA_sA_ne hI569.1 ka_233 (by first | decide | omega) (by first | decide | omega) (by first | decide | omega)).trans ((eA_sA_ne hI565.1 ka_233 (by first | decide | omega) (by first | decide | omega) (by first | decide | omega)).trans ((eA_sA_ne hI561.1 ka_233 (by first | decide | omega) (by first | decide | omega) (by first | decide | omega)).trans ((eA_sA_ne hI558.1 ka_233 (by first | decide | omega) (by first | decide | omega) (by first | decide | omega)).trans ((eA_sA_ne hI305.1 ka_233 (by first | decide | omega) (by first | decide | omega) (by first | decide | omega)).trans (eA_c gA_sI))))))))).trans hv595))
                            have x597 := HI.eqA hI0 (p := 233) (j := 0) (hv472)
                            have x598 := HI.eqA hI0 (p := 233) (j := 4) (hv591)
                            have x599 := HI.eqA hI0 (p := 233) (j := 5) (hv593)
                            have x600 := HI.eqA hI0 (p := 233) (j := 6) (hv595)
                            exact ⟨_, rfl, hI585, hF589, _, rfl, by omega, ⟨⟨by omega, by omega, by omega, by omega⟩, (by intro i i0 i1; refine (eA_ti ((hF586.2.1 233 (by decide)))).trans ?_; exact (Decidable.em (i = 1)).elim (fun k109_ => by refine (eA_eqT hI575.1 ka_233 k109_ (by first | decide | omega) (by first | decide | omega)).trans ?_; (first | (rfl) | (omega))) (fun k109_ => by refine (eA_neT hI575.1 ka_233 k109_ (by first | decide | omega) (by omega)).trans ?_; exact (Decidable.em (i = (6 * v554.toInt + 51))).elim (fun k110_ => by refine (eA_eqT hI572.1 ka_233 k110_ (by first | decide | omega) (by first | decide | omega)).trans ?_; (first | (rfl) | (omega))) (fun k110_ => by refine (eA_neT hI572.1 ka_233 k110_ (by first | decide | omega) (by omega)).trans ?_; exact (Decidable.em (i = (6 * v554.toInt + 50))).elim (fun k111_ => by refine (eA_eqT hI569.1 ka_233 k111_ (by first | decide | omega) (by first | decide | omega)).trans ?_; (first | (rfl) | (omega))) (fun k111_ => by refine (eA_neT hI569.1 ka_233 k111_ (by first | decide | omega) (by omega)).trans ?_; exact (Decidable.em (i = (6 * v554.toInt + 49))).elim (fun k112_ => by refine (eA_eqT hI565.1 ka_233 k112_ (by first | decide | omega) (by first | decide | omega)).trans ?_; (first | (rfl) | (omega))) (fun k112_ => by refine (eA_neT hI565.1 ka_233 k112_ (by first | decide | omega) (by omega)).trans ?_; exact (Decidable.em (i = (6 * v554.toInt + 48))).elim (fun k113_ => by refine (eA_eqT hI561.1 ka_233 k113_ (by first | decide | omega) (by first | decide | omega)).trans ?_; (first | (rfl) | (omega))) (fun k113_ => by refine (eA_neT hI561.1 ka_233 k113_ (by first | decide | omega) (by omega)).trans ?_; exact (Decidable.em (i = (6 * v554.toInt + 47))).elim (fun k114_ => by refine (eA_eqT hI558.1 ka_233 k114_ (by first | decide | omega) (by first | decide | omega)).trans ?_; (first | (rfl) | (omega))) (fun k114_ => by refine (eA_neT hI558.1 ka_233 k114_ (by first | decide | omega) (by omega)).trans ?_; exact (Decidable.em (i = (6 * v554.toInt + 46))).elim (fun k115_ => by refine (eA_eqT hI305.1 ka_233 k115_ (by first | decide | omega) (by first | decide | omega)).trans ?_; (first | (rfl) | (omega))) (fun k115_ => by refine (eA_neT hI305.1 ka_233 k115_ (by first | decide | omega) (by omega)).trans ?_; refine (eA_ti ((gA_sI))).trans ?_; (first | rfl | exact eA_ix (by omega) | omega))))))))), (by intro i i0 i1; refine (eA_ti ((hF586.2.1 233 (by decide)))).trans ?_; exact (Decidable.em (i = 1)).elim (fun k116_ => by refine (eA_eqT hI575.1 ka_233 k116_ (by first | decide | omega) (by first | decide | omega)).trans ?_; (first | (rfl) | (omega))) (fun k116_ => by refine (eA_neT hI575.1 ka_233 k116_ (by first | decide | omega) (by omega)).trans ?_; exact (Decidable.em (i = (6 * v554.toInt + 51))).elim (fun k117_ => by refine (eA_eqT hI572.1 ka_233 k117_ (by first | decide | omega) (by first | decide | omega)).trans ?_; (first | (rfl) | (omega))) (fun k117_ => by refine (eA_neT hI572.1 ka_233 k117_ (by first | decide | omega) (by omega)).trans ?_; exact (Decidable.em (i = (6 * v554.toInt + 50))).elim (fun k118_ => by refine (eA_eqT hI569.1 ka_233 k118_ (by first | decide | omega) (by first | decide | omega)).trans ?_; (first | (rfl) | (omega))) (fun k118_ => by refine (eA_neT hI569.1 ka_233 k118_ (by first | decide | omega) (by omega)).trans ?_; exact (Decidable.em (i = (6 * v554.toInt + 49))).elim (fun k119_ => by refine (eA_eqT hI565.1 ka_233 k119_ (by first | decide | omega) (by first | decide | omega)).trans ?_; (first | (rfl) | (omega))) (fun k119_ => by refine (eA_neT hI565.1 ka_233 k119_ (by first | decide | omega) (by omega)).trans ?_; exact (Decidable.em (i = (6 * v554.toInt + 48))).elim (fun k120_ => by refine (eA_eqT hI561.1 ka_233 k120_ (by first | decide | omega) (by first | decide | omega)).trans ?_; (first | (rfl) | (omega))) (fun k120_ => by refine (eA_neT hI561.1 ka_233 k120_ (by first | decide | omega) (by omega)).trans ?_; exact (Decidable.em (i = (6 * v554.toInt + 47))).elim (fun k121_ => by refine (eA_eqT hI558.1 ka_233 k121_ (by first | decide | omega) (by first | decide | omega)).trans ?_; (first | (rfl) | (omega))) (fun k121_ => by refine (eA_neT hI558.1 ka_233 k121_ (by first | decide | omega) (by omega)).trans ?_; exact (Decidable.em (i = (6 * v554.toInt + 46))).elim (fun k122_ => by refine (eA_eqT hI305.1 ka_233 k122_ (by first | decide | omega) (by first | decide | omega)).trans ?_; (first | (rfl) | (omega))) (fun k122_ => by refine (eA_neT hI305.1 ka_233 k122_ (by first | decide | omega) (by omega)).trans ?_; refine (eA_ti ((gA_sI))).trans ?_; (first | rfl | exact eA_ix (by omega) | omega)))))))))⟩⟩
                          · have c555_ : v554.toInt = 8 := en_i_ne_f c555
                            refine At.enter rfl ?_
                            refine r_aload_n rfl ?_
                            refine r_bipush (-5) rfl ?_
                            refine r_callV 64 rfl [.ref 231, .int (-5)] [] (Nat.le_of_ble_eq_true rfl) rfl (T_X11_tell_231 _ hI305 (-5) (by decide)) ?_
                            rintro _ _ ⟨g601, rfl, hI602, hF603, v604, rfl, hr605⟩
                            refine At.sti ?_
                            have hF606 := Fr.tr hF306 hF603 rfl rfl
                            have zv607 : ((-5) : Int32).toInt = (-5) := rfl
                            refine At.enter rfl ?_
                            refine r_ireti ?_
                            have x608 := HI.eqA hI602 (p := 233) (j := 0) ((((eA_c (hF603.2.1 233 (by decide))).trans (eA_c gA_sI)).trans hv472))
                            obtain ⟨v609, hv609⟩ : ∃ v, eA g0 233 4 = v := ⟨_, rfl⟩
                            have wv609 := HI.t4 hI0
                            rw [hv609] at wv609
                            have tv609 := congrArg Int32.toInt hv609
                            have x610 := HI.eqA hI602 (p := 233) (j := 4) ((((eA_c (hF603.2.1 233 (by decide))).trans (eA_c gA_sI)).trans hv609))
                            obtain ⟨v611, hv611⟩ : ∃ v, eA g0 233 5 = v := ⟨_, rfl⟩
                            have wv611 := HI.t5 hI0
                            rw [hv611] at wv611
                            have tv611 := congrArg Int32.toInt hv611
                            have x612 := HI.eqA hI602 (p := 233) (j := 5) ((((eA_c (hF603.2.1 233 (by decide))).trans (eA_c gA_sI)).trans hv611))
                            obtain ⟨v613, hv613⟩ : ∃ v, eA g0 233 6 = v := ⟨_, rfl⟩
                            have wv613 := HI.t6 hI0
                            rw [hv613] at wv613
                            have tv613 := congrArg Int32.toInt hv613
                            have x614 := HI.eqA hI602 (p := 233) (j := 6) ((((eA_c (hF603.2.1 233 (by decide))).trans (eA_c gA_sI)).trans hv613))
                            have x615 := HI.eqA hI0 (p := 233) (j := 0) (hv472)
                            have x616 := HI.eqA hI0 (p := 233) (j := 4) (hv609)
                            have x617 := HI.eqA hI0 (p := 233) (j := 5) (hv611)
                            have x618 := HI.eqA hI0 (p := 233) (j := 6) (hv613)
                            exact ⟨_, rfl, hI602, hF606, _, rfl, by omega, ⟨⟨by omega, by omega, by omega, by omega⟩, (by intro i i0 i1; refine (eA_ti (((hF603.2.1 233 (by decide)).trans (gA_sI)))).trans ?_; (first | rfl | exact eA_ix (by omega) | omega)), (by intro i i0 i1; refine (eA_ti (((hF603.2.1 233 (by decide)).trans (gA_sI)))).trans ?_; (first | rfl | exact eA_ix (by omega) | omega))⟩⟩
