def F_X11_put_231 : List (Nat × Nat) := [(231, 0), (231, 1)]
def A_X11_put_231 : List Nat := [232, 233]
set_option maxRecDepth 100000 in
set_option maxHeartbeats 4000000 in
theorem T_X11_put_231 (d : Nat) {N : Nat} {g0 : List en_E} (hI0 : HI g0) (a1 : Int32) (a2 : Int32) (a3 : Int32) : Ev (d + 3) 173 [.ref 231, .int a1, .int a2, .int a3] (g0, N) (fun w h' => ∃ g', h' = (g', N) ∧ HI g' ∧ Fr F_X11_put_231 A_X11_put_231 g0 g' ∧ ∃ r : Int32, w = some (.int r) ∧ ((-2) ≤ r.toInt ∧ r.toInt ≤ 99) ∧ (((((eA g' 233 0).toInt = (eA g0 233 0).toInt ∧ (eA g' 233 4).toInt = (eA g0 233 4).toInt ∧ (eA g' 233 5).toInt = (eA g0 233 5).toInt ∧ (eA g' 233 6).toInt = (eA g0 233 6).toInt ∧ (eA g' 233 1).toInt = (eA g0 233 1).toInt ∧ (eA g' 233 2).toInt = (eA g0 233 2).toInt ∧ (eA g' 233 3).toInt = (eA g0 233 3).toInt) ∧ (¬ ((a2.toInt = 0 ∧ -1 ≤ a3.toInt ∧ a3.toInt ≤ 11) ∨ (a2.toInt = 1 ∧ 1 ≤ a3.toInt ∧ a3.toInt ≤ 9) ∨ (a2.toInt = 2 ∧ 0 ≤ a3.toInt ∧ a3.toInt ≤ 99)) → r.toInt = -1) ∧ (((a2.toInt = 0 ∧ -1 ≤ a3.toInt ∧ a3.toInt ≤ 11) ∨ (a2.toInt = 1 ∧ 1 ≤ a3.toInt ∧ a3.toInt ≤ 9) ∨ (a2.toInt = 2 ∧ 0 ≤ a3.toInt ∧ a3.toInt ≤ 99)) ∧ ¬ (0 ≤ a1.toInt ∧ a1.toInt < (eA g0 233 0).toInt) → r.toInt = -2) ∧ (((a2.toInt = 0 ∧ -1 ≤ a3.toInt ∧ a3.toInt ≤ 11) ∨ (a2.toInt = 1 ∧ 1 ≤ a3.toInt ∧ a3.toInt ≤ 9) ∨ (a2.toInt = 2 ∧ 0 ≤ a3.toInt ∧ a3.toInt ≤ 99)) ∧ 0 ≤ a1.toInt ∧ a1.toInt < (eA g0 233 0).toInt → r.toInt = (eA g0 233 (10 + 3 * a1.toInt + a2.toInt)).toInt)) ∧ (∀ i : Int, 10 ≤ i → i < 110 → (eA g' 233 (i)).toInt = if (((a2.toInt = 0 ∧ -1 ≤ a3.toInt ∧ a3.toInt ≤ 11) ∨ (a2.toInt = 1 ∧ 1 ≤ a3.toInt ∧ a3.toInt ≤ 9) ∨ (a2.toInt = 2 ∧ 0 ≤ a3.toInt ∧ a3.toInt ≤ 99)) ∧ 0 ≤ a1.toInt ∧ a1.toInt < (eA g0 233 0).toInt) ∧ i = 10 + 3 * a1.toInt + a2.toInt then a3.toInt else (eA g0 233 (i)).toInt)) ∧ SU3 ((a2.toInt = 0 ∧ -1 ≤ a3.toInt ∧ a3.toInt ≤ 11) ∨ (a2.toInt = 1 ∧ 1 ≤ a3.toInt ∧ a3.toInt ≤ 9) ∨ (a2.toInt = 2 ∧ 0 ≤ a3.toInt ∧ a3.toInt ≤ 99)) (0 ≤ a1.toInt ∧ a1.toInt < (eA g0 233 0).toInt) (gI g' 231 1).toInt)) := by
  have hF0 : Fr F_X11_put_231 A_X11_put_231 g0 g0 := Fr.rf
  refine Ev.mk rfl rfl ⟨Nat.le_of_ble_eq_true rfl, Or.inr (q_rc hI0.1 kx_231 rfl)⟩ ?_
  show At _ none _ _ (0, [(0, .ref 231), (1, .int a1), (2, .int a2), (3, .int a3)], [], (_, _)) _
  refine At.enter rfl ?_
  refine r_aload_n rfl ?_
  refine r_iconst 0 rfl ?_
  refine q_putI (Sh.int hI0.1 kx_231 rfl) rfl ?_
  have hI293 := HI.wI0 hI0 kx_231 rfl (p := 231) (b := 0) (v := 0) rfl
  have hF294 := Fr.wI (p := 231) (b := 0) (v := 0) hF0 rfl
  refine r_iload_n rfl ?_
  refine r_iload_n rfl ?_
  refine q_inlS 10 rfl [.int a2, .int a3] [] (Nat.le_of_ble_eq_true rfl) rfl ?_
  refine Ev.mk rfl rfl ⟨Nat.le_of_ble_eq_true rfl, Or.inl rfl⟩ ?_
  show At _ none _ _ (0, [(0, .int a2), (1, .int a3)], [], (_, _)) _
  refine At.enter rfl ?_
  refine r_iload_n rfl ?_
  by_cases c295_0 : a2.toInt = 0
  · refine r_tsw 28 (by rw [c295_0]; rfl) ?_
    refine At.enter rfl ?_
    refine r_iload_n rfl ?_
    refine q_i2l (fun v296 hv296 => ?_)
    refine r_ldc2 (-1) rfl ?_
    refine r_ldc2 11 rfl ?_
    refine q_inlS 39 rfl [.long v296, .long (-1), .long 11] [] (Nat.le_of_ble_eq_true rfl) rfl ?_
    refine Ev.mk rfl rfl ⟨Nat.le_of_ble_eq_true rfl, Or.inl rfl⟩ ?_
    show At _ none _ _ (0, [(0, .long v296), (2, .long (-1)), (4, .long 11)], [], (_, _)) _
    refine At.enter rfl ?_
    refine r_lload_n rfl ?_
    refine r_lload_n rfl ?_
    refine r_lcmp _ rfl ?_
    refine r_ifs 6 rfl (fun c297 => ?_) (fun c297 => ?_)
    · have c297_ : v296.toInt < (-1) := en_j_lt_t c297
      refine At.enter rfl ?_
      refine r_iconst 0 rfl ?_
      refine Ar.fall 18 rfl ?_
      refine At.enter rfl ?_
      refine q_iretz (by decide) ?_
      refine At.enter rfl ?_
      refine q_iretz (by decide) ?_
      refine At.enter rfl ?_
      refine r_iff 13 rfl (by decide) ?_
      refine At.enter rfl ?_
      refine r_aload_n rfl ?_
      refine r_iconst (-1) rfl ?_
      refine r_callV 18 rfl [.ref 231, .int (-1)] [] (Nat.le_of_ble_eq_true rfl) rfl (T_X11_tell_231 _ hI293 (-1) (by decide)) ?_
      rintro _ _ ⟨g298, rfl, hI299, hF300, v301, rfl, hr302⟩
      refine At.sti ?_
      have hF303 := Fr.tr hF294 hF300 rfl rfl
      have zv304 : ((-1) : Int32).toInt = (-1) := rfl
      refine At.enter rfl ?_
      refine r_ireti ?_
      obtain ⟨v305, hv305⟩ : ∃ v, eA g0 233 0 = v := ⟨_, rfl⟩
      have tv305 := congrArg Int32.toInt hv305
      have wv305 := HI.t0 hI0
      rw [hv305] at wv305
      have tv305 := congrArg Int32.toInt hv305
      have x306 := HI.eqA hI0 (p := 233) (j := 0) (hv305)
      have y307 := congrArg Int32.toInt hv305
      have x308 := HI.eqA hI299 (p := 233) (j := 0) ((((eA_c (hF300.2.1 233 ma_X11_tell_231_233)).trans (eA_c gA_sI)).trans hv305))
      obtain ⟨v309, hv309⟩ : ∃ v, eA g0 233 4 = v := ⟨_, rfl⟩
      have wv309 := HI.t4 hI0
      rw [hv309] at wv309
      have tv309 := congrArg Int32.toInt hv309
      have x310 := HI.eqA hI299 (p := 233) (j := 4) ((((eA_c (hF300.2.1 233 ma_X11_tell_231_233)).trans (eA_c gA_sI)).trans hv309))
      obtain ⟨v311, hv311⟩ : ∃ v, eA g0 233 5 = v := ⟨_, rfl⟩
      have wv311 := HI.t5 hI0
      rw [hv311] at wv311
      have tv311 := congrArg Int32.toInt hv311
      have x312 := HI.eqA hI299 (p := 233) (j := 5) ((((eA_c (hF300.2.1 233 ma_X11_tell_231_233)).trans (eA_c gA_sI)).trans hv311))
      obtain ⟨v313, hv313⟩ : ∃ v, eA g0 233 6 = v := ⟨_, rfl⟩
      have wv313 := HI.t6 hI0
      rw [hv313] at wv313
      have tv313 := congrArg Int32.toInt hv313
      have x314 := HI.eqA hI299 (p := 233) (j := 6) ((((eA_c (hF300.2.1 233 ma_X11_tell_231_233)).trans (eA_c gA_sI)).trans hv313))
      obtain ⟨v315, hv315⟩ : ∃ v, eA g0 233 1 = v := ⟨_, rfl⟩
      have tv315 := congrArg Int32.toInt hv315
      have wv315 := HI.t1 hI0
      rw [hv315] at wv315
      have tv315 := congrArg Int32.toInt hv315
      have x316 := HI.eqA hI299 (p := 233) (j := 1) ((((eA_c (hF300.2.1 233 ma_X11_tell_231_233)).trans (eA_c gA_sI)).trans hv315))
      obtain ⟨v317, hv317⟩ : ∃ v, eA g0 233 2 = v := ⟨_, rfl⟩
      have tv317 := congrArg Int32.toInt hv317
      have wv317 := HI.t2 hI0
      rw [hv317] at wv317
      have tv317 := congrArg Int32.toInt hv317
      have x318 := HI.eqA hI299 (p := 233) (j := 2) ((((eA_c (hF300.2.1 233 ma_X11_tell_231_233)).trans (eA_c gA_sI)).trans hv317))
      obtain ⟨v319, hv319⟩ : ∃ v, eA g0 233 3 = v := ⟨_, rfl⟩
      have wv319 := HI.t3 hI0
      rw [hv319] at wv319
      have tv319 := congrArg Int32.toInt hv319
      have x320 := HI.eqA hI299 (p := 233) (j := 3) ((((eA_c (hF300.2.1 233 ma_X11_tell_231_233)).trans (eA_c gA_sI)).trans hv319))
      have x321 := HI.eqA hI0 (p := 233) (j := 0) (hv305)
      have x322 := HI.eqA hI0 (p := 233) (j := 4) (hv309)
      have x323 := HI.eqA hI0 (p := 233) (j := 5) (hv311)
      have x324 := HI.eqA hI0 (p := 233) (j := 6) (hv313)
      have x325 := HI.eqA hI0 (p := 233) (j := 1) (hv315)
      have x326 := HI.eqA hI0 (p := 233) (j := 2) (hv317)
      have x327 := HI.eqA hI0 (p := 233) (j := 3) (hv319)
      have x328 := HI.eqA hI0 (p := 233) (j := 0) (hv305)
      obtain ⟨v329, hv329⟩ : ∃ v, gI g298 231 1 = v := ⟨_, rfl⟩
      have tv329 := congrArg Int32.toInt hv329
      have x331 := HI.eqA hI0 (p := 233) (j := 0) (hv305)
      exact ⟨_, rfl, hI299, hF303, _, rfl, by omega, ⟨⟨⟨⟨by omega, by omega, by omega, by omega, by omega, by omega, by omega⟩, by omega, by omega, by omega⟩, (by intro i i0 i1; refine Eq.trans ?_ (if_neg (show ¬ ((((a2.toInt = 0 ∧ -1 ≤ a3.toInt ∧ a3.toInt ≤ 11) ∨ (a2.toInt = 1 ∧ 1 ≤ a3.toInt ∧ a3.toInt ≤ 9) ∨ (a2.toInt = 2 ∧ 0 ≤ a3.toInt ∧ a3.toInt ≤ 99)) ∧ 0 ≤ a1.toInt ∧ a1.toInt < (eA g0 233 0).toInt) ∧ i = 10 + 3 * a1.toInt + a2.toInt) from by omega)).symm; refine (eA_ti (((hF300.2.1 233 ma_X11_tell_231_233).trans (gA_sI)))).trans ?_; (first | with_reducible rfl | omega | exact eA_ix (by omega) | rfl))⟩, (SU3.mk (by omega))⟩⟩
    · have c297_ : v296.toInt ≥ (-1) := en_j_lt_f c297
      refine At.enter rfl ?_
      refine r_lload_n rfl ?_
      refine r_lload rfl ?_
      refine r_lcmp _ rfl ?_
      refine r_ifs 13 rfl (fun c332 => ?_) (fun c332 => ?_)
      · have c332_ : v296.toInt > 11 := en_j_gt_t c332
        refine At.enter rfl ?_
        refine r_iconst 0 rfl ?_
        refine Ar.fall 18 rfl ?_
        refine At.enter rfl ?_
        refine q_iretz (by decide) ?_
        refine At.enter rfl ?_
        refine q_iretz (by decide) ?_
        refine At.enter rfl ?_
        refine r_iff 13 rfl (by decide) ?_
        refine At.enter rfl ?_
        refine r_aload_n rfl ?_
        refine r_iconst (-1) rfl ?_
        refine r_callV 18 rfl [.ref 231, .int (-1)] [] (Nat.le_of_ble_eq_true rfl) rfl (T_X11_tell_231 _ hI293 (-1) (by decide)) ?_
        rintro _ _ ⟨g333, rfl, hI334, hF335, v336, rfl, hr337⟩
        refine At.sti ?_
        have hF338 := Fr.tr hF294 hF335 rfl rfl
        have zv339 : ((-1) : Int32).toInt = (-1) := rfl
        refine At.enter rfl ?_
        refine r_ireti ?_
        obtain ⟨v340, hv340⟩ : ∃ v, eA g0 233 0 = v := ⟨_, rfl⟩
        have tv340 := congrArg Int32.toInt hv340
        have wv340 := HI.t0 hI0
        rw [hv340] at wv340
        have tv340 := congrArg Int32.toInt hv340
        have x341 := HI.eqA hI0 (p := 233) (j := 0) (hv340)
        have y342 := congrArg Int32.toInt hv340
        have x343 := HI.eqA hI334 (p := 233) (j := 0) ((((eA_c (hF335.2.1 233 ma_X11_tell_231_233)).trans (eA_c gA_sI)).trans hv340))
        obtain ⟨v344, hv344⟩ : ∃ v, eA g0 233 4 = v := ⟨_, rfl⟩
        have wv344 := HI.t4 hI0
        rw [hv344] at wv344
        have tv344 := congrArg Int32.toInt hv344
        have x345 := HI.eqA hI334 (p := 233) (j := 4) ((((eA_c (hF335.2.1 233 ma_X11_tell_231_233)).trans (eA_c gA_sI)).trans hv344))
        obtain ⟨v346, hv346⟩ : ∃ v, eA g0 233 5 = v := ⟨_, rfl⟩
        have wv346 := HI.t5 hI0
        rw [hv346] at wv346
        have tv346 := congrArg Int32.toInt hv346
        have x347 := HI.eqA hI334 (p := 233) (j := 5) ((((eA_c (hF335.2.1 233 ma_X11_tell_231_233)).trans (eA_c gA_sI)).trans hv346))
        obtain ⟨v348, hv348⟩ : ∃ v, eA g0 233 6 = v := ⟨_, rfl⟩
        have wv348 := HI.t6 hI0
        rw [hv348] at wv348
        have tv348 := congrArg Int32.toInt hv348
        have x349 := HI.eqA hI334 (p := 233) (j := 6) ((((eA_c (hF335.2.1 233 ma_X11_tell_231_233)).trans (eA_c gA_sI)).trans hv348))
        obtain ⟨v350, hv350⟩ : ∃ v, eA g0 233 1 = v := ⟨_, rfl⟩
        have tv350 := congrArg Int32.toInt hv350
        have wv350 := HI.t1 hI0
        rw [hv350] at wv350
        have tv350 := congrArg Int32.toInt hv350
        have x351 := HI.eqA hI334 (p := 233) (j := 1) ((((eA_c (hF335.2.1 233 ma_X11_tell_231_233)).trans (eA_c gA_sI)).trans hv350))
        obtain ⟨v352, hv352⟩ : ∃ v, eA g0 233 2 = v := ⟨_, rfl⟩
        have tv352 := congrArg Int32.toInt hv352
        have wv352 := HI.t2 hI0
        rw [hv352] at wv352
        have tv352 := congrArg Int32.toInt hv352
        have x353 := HI.eqA hI334 (p := 233) (j := 2) ((((eA_c (hF335.2.1 233 ma_X11_tell_231_233)).trans (eA_c gA_sI)).trans hv352))
        obtain ⟨v354, hv354⟩ : ∃ v, eA g0 233 3 = v := ⟨_, rfl⟩
        have wv354 := HI.t3 hI0
        rw [hv354] at wv354
        have tv354 := congrArg Int32.toInt hv354
        have x355 := HI.eqA hI334 (p := 233) (j := 3) ((((eA_c (hF335.2.1 233 ma_X11_tell_231_233)).trans (eA_c gA_sI)).trans hv354))
        have x356 := HI.eqA hI0 (p := 233) (j := 0) (hv340)
        have x357 := HI.eqA hI0 (p := 233) (j := 4) (hv344)
        have x358 := HI.eqA hI0 (p := 233) (j := 5) (hv346)
        have x359 := HI.eqA hI0 (p := 233) (j := 6) (hv348)
        have x360 := HI.eqA hI0 (p := 233) (j := 1) (hv350)
        have x361 := HI.eqA hI0 (p := 233) (j := 2) (hv352)
        have x362 := HI.eqA hI0 (p := 233) (j := 3) (hv354)
        have x363 := HI.eqA hI0 (p := 233) (j := 0) (hv340)
        obtain ⟨v364, hv364⟩ : ∃ v, gI g333 231 1 = v := ⟨_, rfl⟩
        have tv364 := congrArg Int32.toInt hv364
        have x366 := HI.eqA hI0 (p := 233) (j := 0) (hv340)
        exact ⟨_, rfl, hI334, hF338, _, rfl, by omega, ⟨⟨⟨⟨by omega, by omega, by omega, by omega, by omega, by omega, by omega⟩, by omega, by omega, by omega⟩, (by intro i i0 i1; refine Eq.trans ?_ (if_neg (show ¬ ((((a2.toInt = 0 ∧ -1 ≤ a3.toInt ∧ a3.toInt ≤ 11) ∨ (a2.toInt = 1 ∧ 1 ≤ a3.toInt ∧ a3.toInt ≤ 9) ∨ (a2.toInt = 2 ∧ 0 ≤ a3.toInt ∧ a3.toInt ≤ 99)) ∧ 0 ≤ a1.toInt ∧ a1.toInt < (eA g0 233 0).toInt) ∧ i = 10 + 3 * a1.toInt + a2.toInt) from by omega)).symm; refine (eA_ti (((hF335.2.1 233 ma_X11_tell_231_233).trans (gA_sI)))).trans ?_; (first | with_reducible rfl | omega | exact eA_ix (by omega) | rfl))⟩, (SU3.mk (by omega))⟩⟩
      · have c332_ : v296.toInt ≤ 11 := en_j_gt_f c332
        refine At.enter rfl ?_
        refine r_iconst 1 rfl ?_
        refine r_goto ?_
        refine At.enter rfl ?_
        refine q_iretz (by decide) ?_
        refine At.enter rfl ?_
        refine q_iretz (by decide) ?_
        refine At.enter rfl ?_
        refine r_ift (by decide) ?_
        refine At.enter rfl ?_
        refine r_aload_n rfl ?_
        refine r_iload_n rfl ?_
        refine q_inlV 24 rfl [.ref 231, .int a1] [] (Nat.le_of_ble_eq_true rfl) rfl ?_
        refine Ev.mk rfl rfl ⟨Nat.le_of_ble_eq_true rfl, Or.inr (q_rc hI293.1 kx_231 rfl)⟩ ?_
        show At _ none _ _ (0, [(0, .ref 231), (1, .int a1)], [], (_, _)) _
        refine At.enter rfl ?_
        refine r_iload_n rfl ?_
        refine q_i2l (fun v367 hv367 => ?_)
        refine r_lconst 0 rfl ?_
        refine r_aload_n rfl ?_
        refine q_getR (Sh.ref hI293.1 kx_231 rfl) ?_
        refine r_iconst 0 rfl ?_
        obtain ⟨v368, hv368⟩ : ∃ v, eA g0 233 0 = v := ⟨_, rfl⟩
        have tv368 := congrArg Int32.toInt hv368
        have wv368 := HI.t0 hI0
        rw [hv368] at wv368
        refine q_iald (Sh.arr hI293.1 ka_233) 0 rfl (by decide) v368 ((eA_c (gA_sI)).trans hv368) ?_
        refine q_i2l (fun v369 hv369 => ?_)
        refine r_lconst 1 rfl ?_
        refine q_lsub (v369.toInt - 1) rfl (by omega) (fun v370 hv370 => ?_)
        refine q_inlS 15 rfl [.long v367, .long 0, .long v370] [] (Nat.le_of_ble_eq_true rfl) rfl ?_
        refine Ev.mk rfl rfl ⟨Nat.le_of_ble_eq_true rfl, Or.inl rfl⟩ ?_
        show At _ none _ _ (0, [(0, .long v367), (2, .long 0), (4, .long v370)], [], (_, _)) _
        refine At.enter rfl ?_
        refine r_lload_n rfl ?_
        refine r_lload_n rfl ?_
        refine r_lcmp _ rfl ?_
        refine r_ifs 6 rfl (fun c371 => ?_) (fun c371 => ?_)
        · have c371_ : v367.toInt < 0 := en_j_lt_t c371
          refine At.enter rfl ?_
          refine r_iconst 0 rfl ?_
          refine Ar.fall 18 rfl ?_
          refine At.enter rfl ?_
          refine q_iretz (by decide) ?_
          refine At.enter rfl ?_
          refine q_iretz (by decide) ?_
          refine At.enter rfl ?_
          refine r_ift (by decide) ?_
          refine At.enter rfl ?_
          refine r_aload_n rfl ?_
          refine r_bipush (-2) rfl ?_
          refine r_callV 49 rfl [.ref 231, .int (-2)] [] (Nat.le_of_ble_eq_true rfl) rfl (T_X11_tell_231 _ hI293 (-2) (by decide)) ?_
          rintro _ _ ⟨g372, rfl, hI373, hF374, v375, rfl, hr376⟩
          refine At.sti ?_
          have hF377 := Fr.tr hF294 hF374 rfl rfl
          have zv378 : ((-2) : Int32).toInt = (-2) := rfl
          refine At.enter rfl ?_
          refine r_ireti ?_
          have x379 := HI.eqA hI0 (p := 233) (j := 0) (hv368)
          have y380 := congrArg Int32.toInt hv368
          have x381 := HI.eqA hI373 (p := 233) (j := 0) ((((eA_c (hF374.2.1 233 ma_X11_tell_231_233)).trans (eA_c gA_sI)).trans hv368))
          obtain ⟨v382, hv382⟩ : ∃ v, eA g0 233 4 = v := ⟨_, rfl⟩
          have wv382 := HI.t4 hI0
          rw [hv382] at wv382
          have tv382 := congrArg Int32.toInt hv382
          have x383 := HI.eqA hI373 (p := 233) (j := 4) ((((eA_c (hF374.2.1 233 ma_X11_tell_231_233)).trans (eA_c gA_sI)).trans hv382))
          obtain ⟨v384, hv384⟩ : ∃ v, eA g0 233 5 = v := ⟨_, rfl⟩
          have wv384 := HI.t5 hI0
          rw [hv384] at wv384
          have tv384 := congrArg Int32.toInt hv384
          have x385 := HI.eqA hI373 (p := 233) (j := 5) ((((eA_c (hF374.2.1 233 ma_X11_tell_231_233)).trans (eA_c gA_sI)).trans hv384))
          obtain ⟨v386, hv386⟩ : ∃ v, eA g0 233 6 = v := ⟨_, rfl⟩
          have wv386 := HI.t6 hI0
          rw [hv386] at wv386
          have tv386 := congrArg Int32.toInt hv386
          have x387 := HI.eqA hI373 (p := 233) (j := 6) ((((eA_c (hF374.2.1 233 ma_X11_tell_231_233)).trans (eA_c gA_sI)).trans hv386))
          obtain ⟨v388, hv388⟩ : ∃ v, eA g0 233 1 = v := ⟨_, rfl⟩
          have tv388 := congrArg Int32.toInt hv388
          have wv388 := HI.t1 hI0
          rw [hv388] at wv388
          have tv388 := congrArg Int32.toInt hv388
          have x389 := HI.eqA hI373 (p := 233) (j := 1) ((((eA_c (hF374.2.1 233 ma_X11_tell_231_233)).trans (eA_c gA_sI)).trans hv388))
          obtain ⟨v390, hv390⟩ : ∃ v, eA g0 233 2 = v := ⟨_, rfl⟩
          have tv390 := congrArg Int32.toInt hv390
          have wv390 := HI.t2 hI0
          rw [hv390] at wv390
          have tv390 := congrArg Int32.toInt hv390
          have x391 := HI.eqA hI373 (p := 233) (j := 2) ((((eA_c (hF374.2.1 233 ma_X11_tell_231_233)).trans (eA_c gA_sI)).trans hv390))
          obtain ⟨v392, hv392⟩ : ∃ v, eA g0 233 3 = v := ⟨_, rfl⟩
          have wv392 := HI.t3 hI0
          rw [hv392] at wv392
          have tv392 := congrArg Int32.toInt hv392
          have x393 := HI.eqA hI373 (p := 233) (j := 3) ((((eA_c (hF374.2.1 233 ma_X11_tell_231_233)).trans (eA_c gA_sI)).trans hv392))
          have x394 := HI.eqA hI0 (p := 233) (j := 0) (hv368)
          have x395 := HI.eqA hI0 (p := 233) (j := 4) (hv382)
          have x396 := HI.eqA hI0 (p := 233) (j := 5) (hv384)
          have x397 := HI.eqA hI0 (p := 233) (j := 6) (hv386)
          have x398 := HI.eqA hI0 (p := 233) (j := 1) (hv388)
          have x399 := HI.eqA hI0 (p := 233) (j := 2) (hv390)
          have x400 := HI.eqA hI0 (p := 233) (j := 3) (hv392)
          have x401 := HI.eqA hI0 (p := 233) (j := 0) (hv368)
          obtain ⟨v402, hv402⟩ : ∃ v, gI g372 231 1 = v := ⟨_, rfl⟩
          have tv402 := congrArg Int32.toInt hv402
          have x404 := HI.eqA hI0 (p := 233) (j := 0) (hv368)
          exact ⟨_, rfl, hI373, hF377, _, rfl, by omega, ⟨⟨⟨⟨by omega, by omega, by omega, by omega, by omega, by omega, by omega⟩, by omega, by omega, by omega⟩, (by intro i i0 i1; refine Eq.trans ?_ (if_neg (show ¬ ((((a2.toInt = 0 ∧ -1 ≤ a3.toInt ∧ a3.toInt ≤ 11) ∨ (a2.toInt = 1 ∧ 1 ≤ a3.toInt ∧ a3.toInt ≤ 9) ∨ (a2.toInt = 2 ∧ 0 ≤ a3.toInt ∧ a3.toInt ≤ 99)) ∧ 0 ≤ a1.toInt ∧ a1.toInt < (eA g0 233 0).toInt) ∧ i = 10 + 3 * a1.toInt + a2.toInt) from by omega)).symm; refine (eA_ti (((hF374.2.1 233 ma_X11_tell_231_233).trans (gA_sI)))).trans ?_; (first | with_reducible rfl | omega | exact eA_ix (by omega) | rfl))⟩, (SU3.mk (by omega))⟩⟩
        · have c371_ : v367.toInt ≥ 0 := en_j_lt_f c371
          refine At.enter rfl ?_
          refine r_lload_n rfl ?_
          refine r_lload rfl ?_
          refine r_lcmp _ rfl ?_
          refine r_ifs 13 rfl (fun c405 => ?_) (fun c405 => ?_)
          · have c405_ : v367.toInt > v370.toInt := en_j_gt_t c405
            refine At.enter rfl ?_
            refine r_iconst 0 rfl ?_
            refine Ar.fall 18 rfl ?_
            refine At.enter rfl ?_
            refine q_iretz (by decide) ?_
            refine At.enter rfl ?_
            refine q_iretz (by decide) ?_
            refine At.enter rfl ?_
            refine r_ift (by decide) ?_
            refine At.enter rfl ?_
            refine r_aload_n rfl ?_
            refine r_bipush (-2) rfl ?_
            refine r_callV 49 rfl [.ref 231, .int (-2)] [] (Nat.le_of_ble_eq_true rfl) rfl (T_X11_tell_231 _ hI293 (-2) (by decide)) ?_
            rintro _ _ ⟨g406, rfl, hI407, hF408, v409, rfl, hr410⟩
            refine At.sti ?_
            have hF411 := Fr.tr hF294 hF408 rfl rfl
            have zv412 : ((-2) : Int32).toInt = (-2) := rfl
            refine At.enter rfl ?_
            refine r_ireti ?_
            have x413 := HI.eqA hI0 (p := 233) (j := 0) (hv368)
            have y414 := congrArg Int32.toInt hv368
            have x415 := HI.eqA hI407 (p := 233) (j := 0) ((((eA_c (hF408.2.1 233 ma_X11_tell_231_233)).trans (eA_c gA_sI)).trans hv368))
            obtain ⟨v416, hv416⟩ : ∃ v, eA g0 233 4 = v := ⟨_, rfl⟩
            have wv416 := HI.t4 hI0
            rw [hv416] at wv416
            have tv416 := congrArg Int32.toInt hv416
            have x417 := HI.eqA hI407 (p := 233) (j := 4) ((((eA_c (hF408.2.1 233 ma_X11_tell_231_233)).trans (eA_c gA_sI)).trans hv416))
            obtain ⟨v418, hv418⟩ : ∃ v, eA g0 233 5 = v := ⟨_, rfl⟩
            have wv418 := HI.t5 hI0
            rw [hv418] at wv418
            have tv418 := congrArg Int32.toInt hv418
            have x419 := HI.eqA hI407 (p := 233) (j := 5) ((((eA_c (hF408.2.1 233 ma_X11_tell_231_233)).trans (eA_c gA_sI)).trans hv418))
            obtain ⟨v420, hv420⟩ : ∃ v, eA g0 233 6 = v := ⟨_, rfl⟩
            have wv420 := HI.t6 hI0
            rw [hv420] at wv420
            have tv420 := congrArg Int32.toInt hv420
            have x421 := HI.eqA hI407 (p := 233) (j := 6) ((((eA_c (hF408.2.1 233 ma_X11_tell_231_233)).trans (eA_c gA_sI)).trans hv420))
            obtain ⟨v422, hv422⟩ : ∃ v, eA g0 233 1 = v := ⟨_, rfl⟩
            have tv422 := congrArg Int32.toInt hv422
            have wv422 := HI.t1 hI0
            rw [hv422] at wv422
            have tv422 := congrArg Int32.toInt hv422
            have x423 := HI.eqA hI407 (p := 233) (j := 1) ((((eA_c (hF408.2.1 233 ma_X11_tell_231_233)).trans (eA_c gA_sI)).trans hv422))
            obtain ⟨v424, hv424⟩ : ∃ v, eA g0 233 2 = v := ⟨_, rfl⟩
            have tv424 := congrArg Int32.toInt hv424
            have wv424 := HI.t2 hI0
            rw [hv424] at wv424
            have tv424 := congrArg Int32.toInt hv424
            have x425 := HI.eqA hI407 (p := 233) (j := 2) ((((eA_c (hF408.2.1 233 ma_X11_tell_231_233)).trans (eA_c gA_sI)).trans hv424))
            obtain ⟨v426, hv426⟩ : ∃ v, eA g0 233 3 = v := ⟨_, rfl⟩
            have wv426 := HI.t3 hI0
            rw [hv426] at wv426
            have tv426 := congrArg Int32.toInt hv426
            have x427 := HI.eqA hI407 (p := 233) (j := 3) ((((eA_c (hF408.2.1 233 ma_X11_tell_231_233)).trans (eA_c gA_sI)).trans hv426))
            have x428 := HI.eqA hI0 (p := 233) (j := 0) (hv368)
            have x429 := HI.eqA hI0 (p := 233) (j := 4) (hv416)
            have x430 := HI.eqA hI0 (p := 233) (j := 5) (hv418)
            have x431 := HI.eqA hI0 (p := 233) (j := 6) (hv420)
            have x432 := HI.eqA hI0 (p := 233) (j := 1) (hv422)
            have x433 := HI.eqA hI0 (p := 233) (j := 2) (hv424)
            have x434 := HI.eqA hI0 (p := 233) (j := 3) (hv426)
            have x435 := HI.eqA hI0 (p := 233) (j := 0) (hv368)
            obtain ⟨v436, hv436⟩ : ∃ v, gI g406 231 1 = v := ⟨_, rfl⟩
            have tv436 := congrArg Int32.toInt hv436
            have x438 := HI.eqA hI0 (p := 233) (j := 0) (hv368)
            exact ⟨_, rfl, hI407, hF411, _, rfl, by omega, ⟨⟨⟨⟨by omega, by omega, by omega, by omega, by omega, by omega, by omega⟩, by omega, by omega, by omega⟩, (by intro i i0 i1; refine Eq.trans ?_ (if_neg (show ¬ ((((a2.toInt = 0 ∧ -1 ≤ a3.toInt ∧ a3.toInt ≤ 11) ∨ (a2.toInt = 1 ∧ 1 ≤ a3.toInt ∧ a3.toInt ≤ 9) ∨ (a2.toInt = 2 ∧ 0 ≤ a3.toInt ∧ a3.toInt ≤ 99)) ∧ 0 ≤ a1.toInt ∧ a1.toInt < (eA g0 233 0).toInt) ∧ i = 10 + 3 * a1.toInt + a2.toInt) from by omega)).symm; refine (eA_ti (((hF408.2.1 233 ma_X11_tell_231_233).trans (gA_sI)))).trans ?_; (first | with_reducible rfl | omega | exact eA_ix (by omega) | rfl))⟩, (SU3.mk (by omega))⟩⟩
          · have c405_ : v367.toInt ≤ v370.toInt := en_j_gt_f c405
            refine At.enter rfl ?_
            refine r_iconst 1 rfl ?_
            refine r_goto ?_
            refine At.enter rfl ?_
            refine q_iretz (by decide) ?_
            refine At.enter rfl ?_
            refine q_iretz (by decide) ?_
            refine At.enter rfl ?_
            refine r_iff 27 rfl (by decide) ?_
            refine At.enter rfl ?_
            refine r_aload_n rfl ?_
            refine r_bipush 10 rfl ?_
            refine r_iconst 3 rfl ?_
            refine r_iload_n rfl ?_
            refine q_imul (3 * a1.toInt) rfl (by omega) (fun v439 hv439 => ?_)
            refine q_iadd (10 + v439.toInt) rfl (by omega) (fun v440 hv440 => ?_)
            refine r_iload_n rfl ?_
            refine q_iadd (v440.toInt + a2.toInt) rfl (by omega) (fun v441 hv441 => ?_)
            refine r_iload_n rfl ?_
            refine q_inlV 40 rfl [.ref 231, .int v441, .int a3] [] (Nat.le_of_ble_eq_true rfl) rfl ?_
            refine Ev.mk rfl rfl ⟨Nat.le_of_ble_eq_true rfl, Or.inr (q_rc hI293.1 kx_231 rfl)⟩ ?_
            show At _ none _ _ (0, [(0, .ref 231), (1, .int v441), (2, .int a3)], [], (_, _)) _
            refine At.enter rfl ?_
            refine r_aload_n rfl ?_
            refine q_getR (Sh.ref hI293.1 kx_231 rfl) ?_
            refine r_iload_n rfl ?_
            obtain ⟨v442, hv442⟩ : ∃ v, eA g0 233 (3 * a1.toInt + a2.toInt + 10) = v := ⟨_, rfl⟩
            have wv442 := HI.s0 hI0 (j := (3 * a1.toInt + a2.toInt + 10)) (a1.toInt) (by omega) (by omega)
            rw [hv442] at wv442
            refine q_iald (Sh.arr hI293.1 ka_233) (3 * a1.toInt + a2.toInt + 10) (by omega) (by omega) v442 ((eA_c (gA_sI)).trans hv442) ?_
            refine r_istore_n ([(3, .int v442), (0, .ref 231), (1, .int v441), (2, .int a3)]) rfl ?_
            refine r_aload_n rfl ?_
            refine q_getR (Sh.ref hI293.1 kx_231 rfl) ?_
            refine r_iload_n rfl ?_
            refine r_iload_n rfl ?_
            refine q_iast (Sh.arr hI293.1 ka_233) ((3 * a1.toInt + a2.toInt + 10)) (by omega) (by omega) ?_
            have hI443 := HI.ws hI293 (j := (3 * a1.toInt + a2.toInt + 10)) (v := a3) (a1.toInt) 0 (by omega) (by decide) (by omega) (by omega)
            have hF444 := Fr.wA (p := 233) (j := (3 * a1.toInt + a2.toInt + 10)) (v := a3) hF294 rfl
            refine r_aload_n rfl ?_
            refine r_iload_n rfl ?_
            refine q_inlV 19 rfl [.ref 231, .int v442] [] (Nat.le_of_ble_eq_true rfl) rfl ?_
            refine Ev.mk rfl rfl ⟨Nat.le_of_ble_eq_true rfl, Or.inr (q_rc hI443.1 kx_231 rfl)⟩ ?_
            show At _ none _ _ (0, [(0, .ref 231), (1, .int v442)], [], (_, _)) _
            refine At.enter rfl ?_
            refine r_aload_n rfl ?_
            refine r_iconst 0 rfl ?_
            refine q_putI (Sh.int hI443.1 kx_231 rfl) rfl ?_
            have hI445 := HI.wI0 hI443 kx_231 rfl (p := 231) (b := 1) (v := 0) rfl
            have hF446 := Fr.wI (p := 231) (b := 1) (v := 0) hF444 rfl
            refine r_iload_n rfl ?_
            refine q_ireti ?_
            refine At.enter rfl ?_
            refine q_ireti ?_
            refine At.enter rfl ?_
            refine r_goto ?_
            refine At.enter rfl ?_
            refine r_ireti ?_
            have x447 := HI.eqA hI0 (p := 233) (j := 0) (hv368)
            have y448 := congrArg Int32.toInt hv368
            have y449 := (eA_ix (g := g0) (p := 233) (show 10 + 3 * a1.toInt + a2.toInt = (3 * a1.toInt + a2.toInt + 10) from by omega)).trans (congrArg Int32.toInt hv442)
            have x450 := HI.eqA hI445 (p := 233) (j := 0) ((((eA_c gA_sI).trans ((eA_sA_ne hI293.1 ka_233 (by first | decide | omega) (by first | decide | omega) (by first | decide | omega)).trans (eA_c gA_sI))).trans hv368))
            obtain ⟨v451, hv451⟩ : ∃ v, eA g0 233 4 = v := ⟨_, rfl⟩
            have wv451 := HI.t4 hI0
            rw [hv451] at wv451
            have tv451 := congrArg Int32.toInt hv451
            have x452 := HI.eqA hI445 (p := 233) (j := 4) ((((eA_c gA_sI).trans ((eA_sA_ne hI293.1 ka_233 (by first | decide | omega) (by first | decide | omega) (by first | decide | omega)).trans (eA_c gA_sI))).trans hv451))
            obtain ⟨v453, hv453⟩ : ∃ v, eA g0 233 5 = v := ⟨_, rfl⟩
            have wv453 := HI.t5 hI0
            rw [hv453] at wv453
            have tv453 := congrArg Int32.toInt hv453
            have x454 := HI.eqA hI445 (p := 233) (j := 5) ((((eA_c gA_sI).trans ((eA_sA_ne hI293.1 ka_233 (by first | decide | omega) (by first | decide | omega) (by first | decide | omega)).trans (eA_c gA_sI))).trans hv453))
            obtain ⟨v455, hv455⟩ : ∃ v, eA g0 233 6 = v := ⟨_, rfl⟩
            have wv455 := HI.t6 hI0
            rw [hv455] at wv455
            have tv455 := congrArg Int32.toInt hv455
            have x456 := HI.eqA hI445 (p := 233) (j := 6) ((((eA_c gA_sI).trans ((eA_sA_ne hI293.1 ka_233 (by first | decide | omega) (by first | decide | omega) (by first | decide | omega)).trans (eA_c gA_sI))).trans hv455))
            obtain ⟨v457, hv457⟩ : ∃ v, eA g0 233 1 = v := ⟨_, rfl⟩
            have tv457 := congrArg Int32.toInt hv457
            have wv457 := HI.t1 hI0
            rw [hv457] at wv457
            have tv457 := congrArg Int32.toInt hv457
            have x458 := HI.eqA hI445 (p := 233) (j := 1) ((((eA_c gA_sI).trans ((eA_sA_ne hI293.1 ka_233 (by first | decide | omega) (by first | decide | omega) (by first | decide | omega)).trans (eA_c gA_sI))).trans hv457))
            obtain ⟨v459, hv459⟩ : ∃ v, eA g0 233 2 = v := ⟨_, rfl⟩
            have tv459 := congrArg Int32.toInt hv459
            have wv459 := HI.t2 hI0
            rw [hv459] at wv459
            have tv459 := congrArg Int32.toInt hv459
            have x460 := HI.eqA hI445 (p := 233) (j := 2) ((((eA_c gA_sI).trans ((eA_sA_ne hI293.1 ka_233 (by first | decide | omega) (by first | decide | omega) (by first | decide | omega)).trans (eA_c gA_sI))).trans hv459))
            obtain ⟨v461, hv461⟩ : ∃ v, eA g0 233 3 = v := ⟨_, rfl⟩
            have wv461 := HI.t3 hI0
            rw [hv461] at wv461
            have tv461 := congrArg Int32.toInt hv461
            have x462 := HI.eqA hI445 (p := 233) (j := 3) ((((eA_c gA_sI).trans ((eA_sA_ne hI293.1 ka_233 (by first | decide | omega) (by first | decide | omega) (by first | decide | omega)).trans (eA_c gA_sI))).trans hv461))
            have x463 := HI.eqA hI0 (p := 233) (j := 0) (hv368)
            have x464 := HI.eqA hI0 (p := 233) (j := 4) (hv451)
            have x465 := HI.eqA hI0 (p := 233) (j := 5) (hv453)
            have x466 := HI.eqA hI0 (p := 233) (j := 6) (hv455)
            have x467 := HI.eqA hI0 (p := 233) (j := 1) (hv457)
            have x468 := HI.eqA hI0 (p := 233) (j := 2) (hv459)
            have x469 := HI.eqA hI0 (p := 233) (j := 3) (hv461)
            have x470 := HI.eqA hI0 (p := 233) (j := 0) (hv368)
            have x471 := HI.eqI hI445 (p := 231) (b := 1) ((gI_sI_eq hI443.1 kx_231 rfl _))
            have zv472 : (0 : Int32).toInt = 0 := rfl
            have x473 := HI.eqA hI0 (p := 233) (j := 0) (hv368)
            exact ⟨_, rfl, hI445, hF446, _, rfl, by omega, ⟨⟨⟨⟨by omega, by omega, by omega, by omega, by omega, by omega, by omega⟩, by omega, by omega, by omega⟩, (by intro i i0 i1; exact (Decidable.em ((((a2.toInt = 0 ∧ -1 ≤ a3.toInt ∧ a3.toInt ≤ 11) ∨ (a2.toInt = 1 ∧ 1 ≤ a3.toInt ∧ a3.toInt ≤ 9) ∨ (a2.toInt = 2 ∧ 0 ≤ a3.toInt ∧ a3.toInt ≤ 99)) ∧ 0 ≤ a1.toInt ∧ a1.toInt < (eA g0 233 0).toInt) ∧ i = 10 + 3 * a1.toInt + a2.toInt)).elim (fun k162_ => by refine Eq.trans ?_ (if_pos k162_).symm; refine (eA_ti ((gA_sI))).trans ?_; exact (Decidable.em (i = (3 * a1.toInt + a2.toInt + 10))).elim (fun k163_ => by refine (eA_eqT hI293.1 ka_233 k163_ (by first | decide | omega) (by first | decide | omega)).trans ?_; (first | (with_reducible rfl) | (omega) | (rfl))) (fun k163_ => by refine (eA_neT hI293.1 ka_233 k163_ (by first | decide | omega) (by omega)).trans ?_; refine (eA_ti ((gA_sI))).trans ?_; (first | with_reducible rfl | omega | exact eA_ix (by omega) | rfl))) (fun k162_ => by refine Eq.trans ?_ (if_neg k162_).symm; refine (eA_ti ((gA_sI))).trans ?_; exact (Decidable.em (i = (3 * a1.toInt + a2.toInt + 10))).elim (fun k164_ => by refine (eA_eqT hI293.1 ka_233 k164_ (by first | decide | omega) (by first | decide | omega)).trans ?_; (first | (with_reducible rfl) | (omega) | (rfl))) (fun k164_ => by refine (eA_neT hI293.1 ka_233 k164_ (by first | decide | omega) (by omega)).trans ?_; refine (eA_ti ((gA_sI))).trans ?_; (first | with_reducible rfl | omega | exact eA_ix (by omega) | rfl))))⟩, (SU3.mk (by omega))⟩⟩
  by_cases c295_1 : a2.toInt = 1
  · refine r_tsw 40 (by rw [c295_1]; rfl) ?_
    refine At.enter rfl ?_
    refine r_iload_n rfl ?_
    refine q_i2l (fun v474 hv474 => ?_)
    refine r_lconst 1 rfl ?_
    refine r_ldc2 9 rfl ?_
    refine q_inlS 49 rfl [.long v474, .long 1, .long 9] [] (Nat.le_of_ble_eq_true rfl) rfl ?_
    refine Ev.mk rfl rfl ⟨Nat.le_of_ble_eq_true rfl, Or.inl rfl⟩ ?_
    show At _ none _ _ (0, [(0, .long v474), (2, .long 1), (4, .long 9)], [], (_, _)) _
    refine At.enter rfl ?_
    refine r_lload_n rfl ?_
    refine r_lload_n rfl ?_
    refine r_lcmp _ rfl ?_
    refine r_ifs 6 rfl (fun c475 => ?_) (fun c475 => ?_)
    · have c475_ : v474.toInt < 1 := en_j_lt_t c475
      refine At.enter rfl ?_
      refine r_iconst 0 rfl ?_
      refine Ar.fall 18 rfl ?_
      refine At.enter rfl ?_
      refine q_iretz (by decide) ?_
      refine At.enter rfl ?_
      refine q_iretz (by decide) ?_
      refine At.enter rfl ?_
      refine r_iff 13 rfl (by decide) ?_
      refine At.enter rfl ?_
      refine r_aload_n rfl ?_
      refine r_iconst (-1) rfl ?_
      refine r_callV 18 rfl [.ref 231, .int (-1)] [] (Nat.le_of_ble_eq_true rfl) rfl (T_X11_tell_231 _ hI293 (-1) (by decide)) ?_
      rintro _ _ ⟨g476, rfl, hI477, hF478, v479, rfl, hr480⟩
      refine At.sti ?_
      have hF481 := Fr.tr hF294 hF478 rfl rfl
      have zv482 : ((-1) : Int32).toInt = (-1) := rfl
      refine At.enter rfl ?_
      refine r_ireti ?_
      obtain ⟨v483, hv483⟩ : ∃ v, eA g0 233 0 = v := ⟨_, rfl⟩
      have tv483 := congrArg Int32.toInt hv483
      have wv483 := HI.t0 hI0
      rw [hv483] at wv483
      have tv483 := congrArg Int32.toInt hv483
      have x484 := HI.eqA hI0 (p := 233) (j := 0) (hv483)
      have y485 := congrArg Int32.toInt hv483
      have x486 := HI.eqA hI477 (p := 233) (j := 0) ((((eA_c (hF478.2.1 233 ma_X11_tell_231_233)).trans (eA_c gA_sI)).trans hv483))
      obtain ⟨v487, hv487⟩ : ∃ v, eA g0 233 4 = v := ⟨_, rfl⟩
      have wv487 := HI.t4 hI0
      rw [hv487] at wv487
      have tv487 := congrArg Int32.toInt hv487
      have x488 := HI.eqA hI477 (p := 233) (j := 4) ((((eA_c (hF478.2.1 233 ma_X11_tell_231_233)).trans (eA_c gA_sI)).trans hv487))
      obtain ⟨v489, hv489⟩ : ∃ v, eA g0 233 5 = v := ⟨_, rfl⟩
      have wv489 := HI.t5 hI0
      rw [hv489] at wv489
      have tv489 := congrArg Int32.toInt hv489
      have x490 := HI.eqA hI477 (p := 233) (j := 5) ((((eA_c (hF478.2.1 233 ma_X11_tell_231_233)).trans (eA_c gA_sI)).trans hv489))
      obtain ⟨v491, hv491⟩ : ∃ v, eA g0 233 6 = v := ⟨_, rfl⟩
      have wv491 := HI.t6 hI0
      rw [hv491] at wv491
      have tv491 := congrArg Int32.toInt hv491
      have x492 := HI.eqA hI477 (p := 233) (j := 6) ((((eA_c (hF478.2.1 233 ma_X11_tell_231_233)).trans (eA_c gA_sI)).trans hv491))
      obtain ⟨v493, hv493⟩ : ∃ v, eA g0 233 1 = v := ⟨_, rfl⟩
      have tv493 := congrArg Int32.toInt hv493
      have wv493 := HI.t1 hI0
      rw [hv493] at wv493
      have tv493 := congrArg Int32.toInt hv493
      have x494 := HI.eqA hI477 (p := 233) (j := 1) ((((eA_c (hF478.2.1 233 ma_X11_tell_231_233)).trans (eA_c gA_sI)).trans hv493))
      obtain ⟨v495, hv495⟩ : ∃ v, eA g0 233 2 = v := ⟨_, rfl⟩
      have tv495 := congrArg Int32.toInt hv495
      have wv495 := HI.t2 hI0
      rw [hv495] at wv495
      have tv495 := congrArg Int32.toInt hv495
      have x496 := HI.eqA hI477 (p := 233) (j := 2) ((((eA_c (hF478.2.1 233 ma_X11_tell_231_233)).trans (eA_c gA_sI)).trans hv495))
      obtain ⟨v497, hv497⟩ : ∃ v, eA g0 233 3 = v := ⟨_, rfl⟩
      have wv497 := HI.t3 hI0
      rw [hv497] at wv497
      have tv497 := congrArg Int32.toInt hv497
      have x498 := HI.eqA hI477 (p := 233) (j := 3) ((((eA_c (hF478.2.1 233 ma_X11_tell_231_233)).trans (eA_c gA_sI)).trans hv497))
      have x499 := HI.eqA hI0 (p := 233) (j := 0) (hv483)
      have x500 := HI.eqA hI0 (p := 233) (j := 4) (hv487)
      have x501 := HI.eqA hI0 (p := 233) (j := 5) (hv489)
      have x502 := HI.eqA hI0 (p := 233) (j := 6) (hv491)
      have x503 := HI.eqA hI0 (p := 233) (j := 1) (hv493)
      have x504 := HI.eqA hI0 (p := 233) (j := 2) (hv495)
      have x505 := HI.eqA hI0 (p := 233) (j := 3) (hv497)
      have x506 := HI.eqA hI0 (p := 233) (j := 0) (hv483)
      obtain ⟨v507, hv507⟩ : ∃ v, gI g476 231 1 = v := ⟨_, rfl⟩
      have tv507 := congrArg Int32.toInt hv507
      have x509 := HI.eqA hI0 (p := 233) (j := 0) (hv483)
      exact ⟨_, rfl, hI477, hF481, _, rfl, by omega, ⟨⟨⟨⟨by omega, by omega, by omega, by omega, by omega, by omega, by omega⟩, by omega, by omega, by omega⟩, (by intro i i0 i1; refine Eq.trans ?_ (if_neg (show ¬ ((((a2.toInt = 0 ∧ -1 ≤ a3.toInt ∧ a3.toInt ≤ 11) ∨ (a2.toInt = 1 ∧ 1 ≤ a3.toInt ∧ a3.toInt ≤ 9) ∨ (a2.toInt = 2 ∧ 0 ≤ a3.toInt ∧ a3.toInt ≤ 99)) ∧ 0 ≤ a1.toInt ∧ a1.toInt < (eA g0 233 0).toInt) ∧ i = 10 + 3 * a1.toInt + a2.toInt) from by omega)).symm; refine (eA_ti (((hF478.2.1 233 ma_X11_tell_231_233).trans (gA_sI)))).trans ?_; (first | with_reducible rfl | omega | exact eA_ix (by omega) | rfl))⟩, (SU3.mk (by omega))⟩⟩
    · have c475_ : v474.toInt ≥ 1 := en_j_lt_f c475
      refine At.enter rfl ?_
      refine r_lload_n rfl ?_
      refine r_lload rfl ?_
      refine r_lcmp _ rfl ?_
      refine r_ifs 13 rfl (fun c510 => ?_) (fun c510 => ?_)
      · have c510_ : v474.toInt > 9 := en_j_gt_t c510
        refine At.enter rfl ?_
        refine r_iconst 0 rfl ?_
        refine Ar.fall 18 rfl ?_
        refine At.enter rfl ?_
        refine q_iretz (by decide) ?_
        refine At.enter rfl ?_
        refine q_iretz (by decide) ?_
        refine At.enter rfl ?_
        refine r_iff 13 rfl (by decide) ?_
        refine At.enter rfl ?_
        refine r_aload_n rfl ?_
        refine r_iconst (-1) rfl ?_
        refine r_callV 18 rfl [.ref 231, .int (-1)] [] (Nat.le_of_ble_eq_true rfl) rfl (T_X11_tell_231 _ hI293 (-1) (by decide)) ?_
        rintro _ _ ⟨g511, rfl, hI512, hF513, v514, rfl, hr515⟩
        refine At.sti ?_
        have hF516 := Fr.tr hF294 hF513 rfl rfl
        have zv517 : ((-1) : Int32).toInt = (-1) := rfl
        refine At.enter rfl ?_
        refine r_ireti ?_
        obtain ⟨v518, hv518⟩ : ∃ v, eA g0 233 0 = v := ⟨_, rfl⟩
        have tv518 := congrArg Int32.toInt hv518
        have wv518 := HI.t0 hI0
        rw [hv518] at wv518
        have tv518 := congrArg Int32.toInt hv518
        have x519 := HI.eqA hI0 (p := 233) (j := 0) (hv518)
        have y520 := congrArg Int32.toInt hv518
        have x521 := HI.eqA hI512 (p := 233) (j := 0) ((((eA_c (hF513.2.1 233 ma_X11_tell_231_233)).trans (eA_c gA_sI)).trans hv518))
        obtain ⟨v522, hv522⟩ : ∃ v, eA g0 233 4 = v := ⟨_, rfl⟩
        have wv522 := HI.t4 hI0
        rw [hv522] at wv522
        have tv522 := congrArg Int32.toInt hv522
        have x523 := HI.eqA hI512 (p := 233) (j := 4) ((((eA_c (hF513.2.1 233 ma_X11_tell_231_233)).trans (eA_c gA_sI)).trans hv522))
        obtain ⟨v524, hv524⟩ : ∃ v, eA g0 233 5 = v := ⟨_, rfl⟩
        have wv524 := HI.t5 hI0
        rw [hv524] at wv524
        have tv524 := congrArg Int32.toInt hv524
        have x525 := HI.eqA hI512 (p := 233) (j := 5) ((((eA_c (hF513.2.1 233 ma_X11_tell_231_233)).trans (eA_c gA_sI)).trans hv524))
        obtain ⟨v526, hv526⟩ : ∃ v, eA g0 233 6 = v := ⟨_, rfl⟩
        have wv526 := HI.t6 hI0
        rw [hv526] at wv526
        have tv526 := congrArg Int32.toInt hv526
        have x527 := HI.eqA hI512 (p := 233) (j := 6) ((((eA_c (hF513.2.1 233 ma_X11_tell_231_233)).trans (eA_c gA_sI)).trans hv526))
        obtain ⟨v528, hv528⟩ : ∃ v, eA g0 233 1 = v := ⟨_, rfl⟩
        have tv528 := congrArg Int32.toInt hv528
        have wv528 := HI.t1 hI0
        rw [hv528] at wv528
        have tv528 := congrArg Int32.toInt hv528
        have x529 := HI.eqA hI512 (p := 233) (j := 1) ((((eA_c (hF513.2.1 233 ma_X11_tell_231_233)).trans (eA_c gA_sI)).trans hv528))
        obtain ⟨v530, hv530⟩ : ∃ v, eA g0 233 2 = v := ⟨_, rfl⟩
        have tv530 := congrArg Int32.toInt hv530
        have wv530 := HI.t2 hI0
        rw [hv530] at wv530
        have tv530 := congrArg Int32.toInt hv530
        have x531 := HI.eqA hI512 (p := 233) (j := 2) ((((eA_c (hF513.2.1 233 ma_X11_tell_231_233)).trans (eA_c gA_sI)).trans hv530))
        obtain ⟨v532, hv532⟩ : ∃ v, eA g0 233 3 = v := ⟨_, rfl⟩
        have wv532 := HI.t3 hI0
        rw [hv532] at wv532
        have tv532 := congrArg Int32.toInt hv532
        have x533 := HI.eqA hI512 (p := 233) (j := 3) ((((eA_c (hF513.2.1 233 ma_X11_tell_231_233)).trans (eA_c gA_sI)).trans hv532))
        have x534 := HI.eqA hI0 (p := 233) (j := 0) (hv518)
        have x535 := HI.eqA hI0 (p := 233) (j := 4) (hv522)
        have x536 := HI.eqA hI0 (p := 233) (j := 5) (hv524)
        have x537 := HI.eqA hI0 (p := 233) (j := 6) (hv526)
        have x538 := HI.eqA hI0 (p := 233) (j := 1) (hv528)
        have x539 := HI.eqA hI0 (p := 233) (j := 2) (hv530)
        have x540 := HI.eqA hI0 (p := 233) (j := 3) (hv532)
        have x541 := HI.eqA hI0 (p := 233) (j := 0) (hv518)
        obtain ⟨v542, hv542⟩ : ∃ v, gI g511 231 1 = v := ⟨_, rfl⟩
        have tv542 := congrArg Int32.toInt hv542
        have x544 := HI.eqA hI0 (p := 233) (j := 0) (hv518)
        exact ⟨_, rfl, hI512, hF516, _, rfl, by omega, ⟨⟨⟨⟨by omega, by omega, by omega, by omega, by omega, by omega, by omega⟩, by omega, by omega, by omega⟩, (by intro i i0 i1; refine Eq.trans ?_ (if_neg (show ¬ ((((a2.toInt = 0 ∧ -1 ≤ a3.toInt ∧ a3.toInt ≤ 11) ∨ (a2.toInt = 1 ∧ 1 ≤ a3.toInt ∧ a3.toInt ≤ 9) ∨ (a2.toInt = 2 ∧ 0 ≤ a3.toInt ∧ a3.toInt ≤ 99)) ∧ 0 ≤ a1.toInt ∧ a1.toInt < (eA g0 233 0).toInt) ∧ i = 10 + 3 * a1.toInt + a2.toInt) from by omega)).symm; refine (eA_ti (((hF513.2.1 233 ma_X11_tell_231_233).trans (gA_sI)))).trans ?_; (first | with_reducible rfl | omega | exact eA_ix (by omega) | rfl))⟩, (SU3.mk (by omega))⟩⟩
      · have c510_ : v474.toInt ≤ 9 := en_j_gt_f c510
        refine At.enter rfl ?_
        refine r_iconst 1 rfl ?_
        refine r_goto ?_
        refine At.enter rfl ?_
        refine q_iretz (by decide) ?_
        refine At.enter rfl ?_
        refine q_iretz (by decide) ?_
        refine At.enter rfl ?_
        refine r_ift (by decide) ?_
        refine At.enter rfl ?_
        refine r_aload_n rfl ?_
        refine r_iload_n rfl ?_
        refine q_inlV 24 rfl [.ref 231, .int a1] [] (Nat.le_of_ble_eq_true rfl) rfl ?_
        refine Ev.mk rfl rfl ⟨Nat.le_of_ble_eq_true rfl, Or.inr (q_rc hI293.1 kx_231 rfl)⟩ ?_
        show At _ none _ _ (0, [(0, .ref 231), (1, .int a1)], [], (_, _)) _
        refine At.enter rfl ?_
        refine r_iload_n rfl ?_
        refine q_i2l (fun v545 hv545 => ?_)
        refine r_lconst 0 rfl ?_
        refine r_aload_n rfl ?_
        refine q_getR (Sh.ref hI293.1 kx_231 rfl) ?_
        refine r_iconst 0 rfl ?_
        obtain ⟨v546, hv546⟩ : ∃ v, eA g0 233 0 = v := ⟨_, rfl⟩
        have tv546 := congrArg Int32.toInt hv546
        have wv546 := HI.t0 hI0
        rw [hv546] at wv546
        refine q_iald (Sh.arr hI293.1 ka_233) 0 rfl (by decide) v546 ((eA_c (gA_sI)).trans hv546) ?_
        refine q_i2l (fun v547 hv547 => ?_)
        refine r_lconst 1 rfl ?_
        refine q_lsub (v547.toInt - 1) rfl (by omega) (fun v548 hv548 => ?_)
        refine q_inlS 15 rfl [.long v545, .long 0, .long v548] [] (Nat.le_of_ble_eq_true rfl) rfl ?_
        refine Ev.mk rfl rfl ⟨Nat.le_of_ble_eq_true rfl, Or.inl rfl⟩ ?_
        show At _ none _ _ (0, [(0, .long v545), (2, .long 0), (4, .long v548)], [], (_, _)) _
        refine At.enter rfl ?_
        refine r_lload_n rfl ?_
        refine r_lload_n rfl ?_
        refine r_lcmp _ rfl ?_
        refine r_ifs 6 rfl (fun c549 => ?_) (fun c549 => ?_)
        · have c549_ : v545.toInt < 0 := en_j_lt_t c549
          refine At.enter rfl ?_
          refine r_iconst 0 rfl ?_
          refine Ar.fall 18 rfl ?_
          refine At.enter rfl ?_
          refine q_iretz (by decide) ?_
          refine At.enter rfl ?_
          refine q_iretz (by decide) ?_
          refine At.enter rfl ?_
          refine r_ift (by decide) ?_
          refine At.enter rfl ?_
          refine r_aload_n rfl ?_
          refine r_bipush (-2) rfl ?_
          refine r_callV 49 rfl [.ref 231, .int (-2)] [] (Nat.le_of_ble_eq_true rfl) rfl (T_X11_tell_231 _ hI293 (-2) (by decide)) ?_
          rintro _ _ ⟨g550, rfl, hI551, hF552, v553, rfl, hr554⟩
          refine At.sti ?_
          have hF555 := Fr.tr hF294 hF552 rfl rfl
          have zv556 : ((-2) : Int32).toInt = (-2) := rfl
          refine At.enter rfl ?_
          refine r_ireti ?_
          have x557 := HI.eqA hI0 (p := 233) (j := 0) (hv546)
          have y558 := congrArg Int32.toInt hv546
          have x559 := HI.eqA hI551 (p := 233) (j := 0) ((((eA_c (hF552.2.1 233 ma_X11_tell_231_233)).trans (eA_c gA_sI)).trans hv546))
          obtain ⟨v560, hv560⟩ : ∃ v, eA g0 233 4 = v := ⟨_, rfl⟩
          have wv560 := HI.t4 hI0
          rw [hv560] at wv560
          have tv560 := congrArg Int32.toInt hv560
          have x561 := HI.eqA hI551 (p := 233) (j := 4) ((((eA_c (hF552.2.1 233 ma_X11_tell_231_233)).trans (eA_c gA_sI)).trans hv560))
          obtain ⟨v562, hv562⟩ : ∃ v, eA g0 233 5 = v := ⟨_, rfl⟩
          have wv562 := HI.t5 hI0
          rw [hv562] at wv562
          have tv562 := congrArg Int32.toInt hv562
          have x563 := HI.eqA hI551 (p := 233) (j := 5) ((((eA_c (hF552.2.1 233 ma_X11_tell_231_233)).trans (eA_c gA_sI)).trans hv562))
          obtain ⟨v564, hv564⟩ : ∃ v, eA g0 233 6 = v := ⟨_, rfl⟩
          have wv564 := HI.t6 hI0
          rw [hv564] at wv564
          have tv564 := congrArg Int32.toInt hv564
          have x565 := HI.eqA hI551 (p := 233) (j := 6) ((((eA_c (hF552.2.1 233 ma_X11_tell_231_233)).trans (eA_c gA_sI)).trans hv564))
          obtain ⟨v566, hv566⟩ : ∃ v, eA g0 233 1 = v := ⟨_, rfl⟩
          have tv566 := congrArg Int32.toInt hv566
          have wv566 := HI.t1 hI0
          rw [hv566] at wv566
          have tv566 := congrArg Int32.toInt hv566
          have x567 := HI.eqA hI551 (p := 233) (j := 1) ((((eA_c (hF552.2.1 233 ma_X11_tell_231_233)).trans (eA_c gA_sI)).trans hv566))
          obtain ⟨v568, hv568⟩ : ∃ v, eA g0 233 2 = v := ⟨_, rfl⟩
          have tv568 := congrArg Int32.toInt hv568
          have wv568 := HI.t2 hI0
          rw [hv568] at wv568
          have tv568 := congrArg Int32.toInt hv568
          have x569 := HI.eqA hI551 (p := 233) (j := 2) ((((eA_c (hF552.2.1 233 ma_X11_tell_231_233)).trans (eA_c gA_sI)).trans hv568))
          obtain ⟨v570, hv570⟩ : ∃ v, eA g0 233 3 = v := ⟨_, rfl⟩
          have wv570 := HI.t3 hI0
          rw [hv570] at wv570
          have tv570 := congrArg Int32.toInt hv570
          have x571 := HI.eqA hI551 (p := 233) (j := 3) ((((eA_c (hF552.2.1 233 ma_X11_tell_231_233)).trans (eA_c gA_sI)).trans hv570))
          have x572 := HI.eqA hI0 (p := 233) (j := 0) (hv546)
          have x573 := HI.eqA hI0 (p := 233) (j := 4) (hv560)
          have x574 := HI.eqA hI0 (p := 233) (j := 5) (hv562)
          have x575 := HI.eqA hI0 (p := 233) (j := 6) (hv564)
          have x576 := HI.eqA hI0 (p := 233) (j := 1) (hv566)
          have x577 := HI.eqA hI0 (p := 233) (j := 2) (hv568)
          have x578 := HI.eqA hI0 (p := 233) (j := 3) (hv570)
          have x579 := HI.eqA hI0 (p := 233) (j := 0) (hv546)
          obtain ⟨v580, hv580⟩ : ∃ v, gI g550 231 1 = v := ⟨_, rfl⟩
          have tv580 := congrArg Int32.toInt hv580
          have x582 := HI.eqA hI0 (p := 233) (j := 0) (hv546)
          exact ⟨_, rfl, hI551, hF555, _, rfl, by omega, ⟨⟨⟨⟨by omega, by omega, by omega, by omega, by omega, by omega, by omega⟩, by omega, by omega, by omega⟩, (by intro i i0 i1; refine Eq.trans ?_ (if_neg (show ¬ ((((a2.toInt = 0 ∧ -1 ≤ a3.toInt ∧ a3.toInt ≤ 11) ∨ (a2.toInt = 1 ∧ 1 ≤ a3.toInt ∧ a3.toInt ≤ 9) ∨ (a2.toInt = 2 ∧ 0 ≤ a3.toInt ∧ a3.toInt ≤ 99)) ∧ 0 ≤ a1.toInt ∧ a1.toInt < (eA g0 233 0).toInt) ∧ i = 10 + 3 * a1.toInt + a2.toInt) from by omega)).symm; refine (eA_ti (((hF552.2.1 233 ma_X11_tell_231_233).trans (gA_sI)))).trans ?_; (first | with_reducible rfl | omega | exact eA_ix (by omega) | rfl))⟩, (SU3.mk (by omega))⟩⟩
        · have c549_ : v545.toInt ≥ 0 := en_j_lt_f c549
          refine At.enter rfl ?_
          refine r_lload_n rfl ?_
          refine r_lload rfl ?_
          refine r_lcmp _ rfl ?_
          refine r_ifs 13 rfl (fun c583 => ?_) (fun c583 => ?_)
          · have c583_ : v545.toInt > v548.toInt := en_j_gt_t c583
            refine At.enter rfl ?_
            refine r_iconst 0 rfl ?_
            refine Ar.fall 18 rfl ?_
            refine At.enter rfl ?_
            refine q_iretz (by decide) ?_
            refine At.enter rfl ?_
            refine q_iretz (by decide) ?_
            refine At.enter rfl ?_
            refine r_ift (by decide) ?_
            refine At.enter rfl ?_
            refine r_aload_n rfl ?_
            refine r_bipush (-2) rfl ?_
            refine r_callV 49 rfl [.ref 231, .int (-2)] [] (Nat.le_of_ble_eq_true rfl) rfl (T_X11_tell_231 _ hI293 (-2) (by decide)) ?_
            rintro _ _ ⟨g584, rfl, hI585, hF586, v587, rfl, hr588⟩
            refine At.sti ?_
            have hF589 := Fr.tr hF294 hF586 rfl rfl
            have zv590 : ((-2) : Int32).toInt = (-2) := rfl
            refine At.enter rfl ?_
            refine r_ireti ?_
            have x591 := HI.eqA hI0 (p := 233) (j := 0) (hv546)
            have y592 := congrArg Int32.toInt hv546
            have x593 := HI.eqA hI585 (p := 233) (j := 0) ((((eA_c (hF586.2.1 233 ma_X11_tell_231_233)).trans (eA_c gA_sI)).trans hv546))
            obtain ⟨v594, hv594⟩ : ∃ v, eA g0 233 4 = v := ⟨_, rfl⟩
            have wv594 := HI.t4 hI0
            rw [hv594] at wv594
            have tv594 := congrArg Int32.toInt hv594
            have x595 := HI.eqA hI585 (p := 233) (j := 4) ((((eA_c (hF586.2.1 233 ma_X11_tell_231_233)).trans (eA_c gA_sI)).trans hv594))
            obtain ⟨v596, hv596⟩ : ∃ v, eA g0 233 5 = v := ⟨_, rfl⟩
            have wv596 := HI.t5 hI0
            rw [hv596] at wv596
            have tv596 := congrArg Int32.toInt hv596
            have x597 := HI.eqA hI585 (p := 233) (j := 5) ((((eA_c (hF586.2.1 233 ma_X11_tell_231_233)).trans (eA_c gA_sI)).trans hv596))
            obtain ⟨v598, hv598⟩ : ∃ v, eA g0 233 6 = v := ⟨_, rfl⟩
            have wv598 := HI.t6 hI0
            rw [hv598] at wv598
            have tv598 := congrArg Int32.toInt hv598
            have x599 := HI.eqA hI585 (p := 233) (j := 6) ((((eA_c (hF586.2.1 233 ma_X11_tell_231_233)).trans (eA_c gA_sI)).trans hv598))
            obtain ⟨v600, hv600⟩ : ∃ v, eA g0 233 1 = v := ⟨_, rfl⟩
            have tv600 := congrArg Int32.toInt hv600
            have wv600 := HI.t1 hI0
            rw [hv600] at wv600
            have tv600 := congrArg Int32.toInt hv600
            have x601 := HI.eqA hI585 (p := 233) (j := 1) ((((eA_c (hF586.2.1 233 ma_X11_tell_231_233)).trans (eA_c gA_sI)).trans hv600))
            obtain ⟨v602, hv602⟩ : ∃ v, eA g0 233 2 = v := ⟨_, rfl⟩
            have tv602 := congrArg Int32.toInt hv602
            have wv602 := HI.t2 hI0
            rw [hv602] at wv602
            have tv602 := congrArg Int32.toInt hv602
            have x603 := HI.eqA hI585 (p := 233) (j := 2) ((((eA_c (hF586.2.1 233 ma_X11_tell_231_233)).trans (eA_c gA_sI)).trans hv602))
            obtain ⟨v604, hv604⟩ : ∃ v, eA g0 233 3 = v := ⟨_, rfl⟩
            have wv604 := HI.t3 hI0
            rw [hv604] at wv604
            have tv604 := congrArg Int32.toInt hv604
            have x605 := HI.eqA hI585 (p := 233) (j := 3) ((((eA_c (hF586.2.1 233 ma_X11_tell_231_233)).trans (eA_c gA_sI)).trans hv604))
            have x606 := HI.eqA hI0 (p := 233) (j := 0) (hv546)
            have x607 := HI.eqA hI0 (p := 233) (j := 4) (hv594)
            have x608 := HI.eqA hI0 (p := 233) (j := 5) (hv596)
            have x609 := HI.eqA hI0 (p := 233) (j := 6) (hv598)
            have x610 := HI.eqA hI0 (p := 233) (j := 1) (hv600)
            have x611 := HI.eqA hI0 (p := 233) (j := 2) (hv602)
            have x612 := HI.eqA hI0 (p := 233) (j := 3) (hv604)
            have x613 := HI.eqA hI0 (p := 233) (j := 0) (hv546)
            obtain ⟨v614, hv614⟩ : ∃ v, gI g584 231 1 = v := ⟨_, rfl⟩
            have tv614 := congrArg Int32.toInt hv614
            have x616 := HI.eqA hI0 (p := 233) (j := 0) (hv546)
            exact ⟨_, rfl, hI585, hF589, _, rfl, by omega, ⟨⟨⟨⟨by omega, by omega, by omega, by omega, by omega, by omega, by omega⟩, by omega, by omega, by omega⟩, (by intro i i0 i1; refine Eq.trans ?_ (if_neg (show ¬ ((((a2.toInt = 0 ∧ -1 ≤ a3.toInt ∧ a3.toInt ≤ 11) ∨ (a2.toInt = 1 ∧ 1 ≤ a3.toInt ∧ a3.toInt ≤ 9) ∨ (a2.toInt = 2 ∧ 0 ≤ a3.toInt ∧ a3.toInt ≤ 99)) ∧ 0 ≤ a1.toInt ∧ a1.toInt < (eA g0 233 0).toInt) ∧ i = 10 + 3 * a1.toInt + a2.toInt) from by omega)).symm; refine (eA_ti (((hF586.2.1 233 ma_X11_tell_231_233).trans (gA_sI)))).trans ?_; (first | with_reducible rfl | omega | exact eA_ix (by omega) | rfl))⟩, (SU3.mk (by omega))⟩⟩
          · have c583_ : v545.toInt ≤ v548.toInt := en_j_gt_f c583
            refine At.enter rfl ?_
            refine r_iconst 1 rfl ?_
            refine r_goto ?_
            refine At.enter rfl ?_
            refine q_iretz (by decide) ?_
            refine At.enter rfl ?_
            refine q_iretz (by decide) ?_
            refine At.enter rfl ?_
            refine r_iff 27 rfl (by decide) ?_
            refine At.enter rfl ?_
            refine r_aload_n rfl ?_
            refine r_bipush 10 rfl ?_
            refine r_iconst 3 rfl ?_
            refine r_iload_n rfl ?_
            refine q_imul (3 * a1.toInt) rfl (by omega) (fun v617 hv617 => ?_)
            refine q_iadd (10 + v617.toInt) rfl (by omega) (fun v618 hv618 => ?_)
            refine r_iload_n rfl ?_
            refine q_iadd (v618.toInt + a2.toInt) rfl (by omega) (fun v619 hv619 => ?_)
            refine r_iload_n rfl ?_
            refine q_inlV 40 rfl [.ref 231, .int v619, .int a3] [] (Nat.le_of_ble_eq_true rfl) rfl ?_
            refine Ev.mk rfl rfl ⟨Nat.le_of_ble_eq_true rfl, Or.inr (q_rc hI293.1 kx_231 rfl)⟩ ?_
            show At _ none _ _ (0, [(0, .ref 231), (1, .int v619), (2, .int a3)], [], (_, _)) _
            refine At.enter rfl ?_
            refine r_aload_n rfl ?_
            refine q_getR (Sh.ref hI293.1 kx_231 rfl) ?_
            refine r_iload_n rfl ?_
            obtain ⟨v620, hv620⟩ : ∃ v, eA g0 233 (3 * a1.toInt + a2.toInt + 10) = v := ⟨_, rfl⟩
            have wv620 := HI.s1 hI0 (j := (3 * a1.toInt + a2.toInt + 10)) (a1.toInt) (by omega) (by omega)
            rw [hv620] at wv620
            refine q_iald (Sh.arr hI293.1 ka_233) (3 * a1.toInt + a2.toInt + 10) (by omega) (by omega) v620 ((eA_c (gA_sI)).trans hv620) ?_
            refine r_istore_n ([(3, .int v620), (0, .ref 231), (1, .int v619), (2, .int a3)]) rfl ?_
            refine r_aload_n rfl ?_
            refine q_getR (Sh.ref hI293.1 kx_231 rfl) ?_
            refine r_iload_n rfl ?_
            refine r_iload_n rfl ?_
            refine q_iast (Sh.arr hI293.1 ka_233) ((3 * a1.toInt + a2.toInt + 10)) (by omega) (by omega) ?_
            have hI621 := HI.ws hI293 (j := (3 * a1.toInt + a2.toInt + 10)) (v := a3) (a1.toInt) 1 (by omega) (by decide) (by omega) (by omega)
            have hF622 := Fr.wA (p := 233) (j := (3 * a1.toInt + a2.toInt + 10)) (v := a3) hF294 rfl
            refine r_aload_n rfl ?_
            refine r_iload_n rfl ?_
            refine q_inlV 19 rfl [.ref 231, .int v620] [] (Nat.le_of_ble_eq_true rfl) rfl ?_
            refine Ev.mk rfl rfl ⟨Nat.le_of_ble_eq_true rfl, Or.inr (q_rc hI621.1 kx_231 rfl)⟩ ?_
            show At _ none _ _ (0, [(0, .ref 231), (1, .int v620)], [], (_, _)) _
            refine At.enter rfl ?_
            refine r_aload_n rfl ?_
            refine r_iconst 0 rfl ?_
            refine q_putI (Sh.int hI621.1 kx_231 rfl) rfl ?_
            have hI623 := HI.wI0 hI621 kx_231 rfl (p := 231) (b := 1) (v := 0) rfl
            have hF624 := Fr.wI (p := 231) (b := 1) (v := 0) hF622 rfl
            refine r_iload_n rfl ?_
            refine q_ireti ?_
            refine At.enter rfl ?_
            refine q_ireti ?_
            refine At.enter rfl ?_
            refine r_goto ?_
            refine At.enter rfl ?_
            refine r_ireti ?_
            have x625 := HI.eqA hI0 (p := 233) (j := 0) (hv546)
            have y626 := congrArg Int32.toInt hv546
            have y627 := (eA_ix (g := g0) (p := 233) (show 10 + 3 * a1.toInt + a2.toInt = (3 * a1.toInt + a2.toInt + 10) from by omega)).trans (congrArg Int32.toInt hv620)
            have x628 := HI.eqA hI623 (p := 233) (j := 0) ((((eA_c gA_sI).trans ((eA_sA_ne hI293.1 ka_233 (by first | decide | omega) (by first | decide | omega) (by first | decide | omega)).trans (eA_c gA_sI))).trans hv546))
            obtain ⟨v629, hv629⟩ : ∃ v, eA g0 233 4 = v := ⟨_, rfl⟩
            have wv629 := HI.t4 hI0
            rw [hv629] at wv629
            have tv629 := congrArg Int32.toInt hv629
            have x630 := HI.eqA hI623 (p := 233) (j := 4) ((((eA_c gA_sI).trans ((eA_sA_ne hI293.1 ka_233 (by first | decide | omega) (by first | decide | omega) (by first | decide | omega)).trans (eA_c gA_sI))).trans hv629))
            obtain ⟨v631, hv631⟩ : ∃ v, eA g0 233 5 = v := ⟨_, rfl⟩
            have wv631 := HI.t5 hI0
            rw [hv631] at wv631
            have tv631 := congrArg Int32.toInt hv631
            have x632 := HI.eqA hI623 (p := 233) (j := 5) ((((eA_c gA_sI).trans ((eA_sA_ne hI293.1 ka_233 (by first | decide | omega) (by first | decide | omega) (by first | decide | omega)).trans (eA_c gA_sI))).trans hv631))
            obtain ⟨v633, hv633⟩ : ∃ v, eA g0 233 6 = v := ⟨_, rfl⟩
            have wv633 := HI.t6 hI0
            rw [hv633] at wv633
            have tv633 := congrArg Int32.toInt hv633
            have x634 := HI.eqA hI623 (p := 233) (j := 6) ((((eA_c gA_sI).trans ((eA_sA_ne hI293.1 ka_233 (by first | decide | omega) (by first | decide | omega) (by first | decide | omega)).trans (eA_c gA_sI))).trans hv633))
            obtain ⟨v635, hv635⟩ : ∃ v, eA g0 233 1 = v := ⟨_, rfl⟩
            have tv635 := congrArg Int32.toInt hv635
            have wv635 := HI.t1 hI0
            rw [hv635] at wv635
            have tv635 := congrArg Int32.toInt hv635
            have x636 := HI.eqA hI623 (p := 233) (j := 1) ((((eA_c gA_sI).trans ((eA_sA_ne hI293.1 ka_233 (by first | decide | omega) (by first | decide | omega) (by first | decide | omega)).trans (eA_c gA_sI))).trans hv635))
            obtain ⟨v637, hv637⟩ : ∃ v, eA g0 233 2 = v := ⟨_, rfl⟩
            have tv637 := congrArg Int32.toInt hv637
            have wv637 := HI.t2 hI0
            rw [hv637] at wv637
            have tv637 := congrArg Int32.toInt hv637
            have x638 := HI.eqA hI623 (p := 233) (j := 2) ((((eA_c gA_sI).trans ((eA_sA_ne hI293.1 ka_233 (by first | decide | omega) (by first | decide | omega) (by first | decide | omega)).trans (eA_c gA_sI))).trans hv637))
            obtain ⟨v639, hv639⟩ : ∃ v, eA g0 233 3 = v := ⟨_, rfl⟩
            have wv639 := HI.t3 hI0
            rw [hv639] at wv639
            have tv639 := congrArg Int32.toInt hv639
            have x640 := HI.eqA hI623 (p := 233) (j := 3) ((((eA_c gA_sI).trans ((eA_sA_ne hI293.1 ka_233 (by first | decide | omega) (by first | decide | omega) (by first | decide | omega)).trans (eA_c gA_sI))).trans hv639))
            have x641 := HI.eqA hI0 (p := 233) (j := 0) (hv546)
            have x642 := HI.eqA hI0 (p := 233) (j := 4) (hv629)
            have x643 := HI.eqA hI0 (p := 233) (j := 5) (hv631)
            have x644 := HI.eqA hI0 (p := 233) (j := 6) (hv633)
            have x645 := HI.eqA hI0 (p := 233) (j := 1) (hv635)
            have x646 := HI.eqA hI0 (p := 233) (j := 2) (hv637)
            have x647 := HI.eqA hI0 (p := 233) (j := 3) (hv639)
            have x648 := HI.eqA hI0 (p := 233) (j := 0) (hv546)
            have x649 := HI.eqI hI623 (p := 231) (b := 1) ((gI_sI_eq hI621.1 kx_231 rfl _))
            have zv650 : (0 : Int32).toInt = 0 := rfl
            have x651 := HI.eqA hI0 (p := 233) (j := 0) (hv546)
            exact ⟨_, rfl, hI623, hF624, _, rfl, by omega, ⟨⟨⟨⟨by omega, by omega, by omega, by omega, by omega, by omega, by omega⟩, by omega, by omega, by omega⟩, (by intro i i0 i1; exact (Decidable.em ((((a2.toInt = 0 ∧ -1 ≤ a3.toInt ∧ a3.toInt ≤ 11) ∨ (a2.toInt = 1 ∧ 1 ≤ a3.toInt ∧ a3.toInt ≤ 9) ∨ (a2.toInt = 2 ∧ 0 ≤ a3.toInt ∧ a3.toInt ≤ 99)) ∧ 0 ≤ a1.toInt ∧ a1.toInt < (eA g0 233 0).toInt) ∧ i = 10 + 3 * a1.toInt + a2.toInt)).elim (fun k165_ => by refine Eq.trans ?_ (if_pos k165_).symm; refine (eA_ti ((gA_sI))).trans ?_; exact (Decidable.em (i = (3 * a1.toInt + a2.toInt + 10))).elim (fun k166_ => by refine (eA_eqT hI293.1 ka_233 k166_ (by first | decide | omega) (by first | decide | omega)).trans ?_; (first | (with_reducible rfl) | (omega) | (rfl))) (fun k166_ => by refine (eA_neT hI293.1 ka_233 k166_ (by first | decide | omega) (by omega)).trans ?_; refine (eA_ti ((gA_sI))).trans ?_; (first | with_reducible rfl | omega | exact eA_ix (by omega) | rfl))) (fun k165_ => by refine Eq.trans ?_ (if_neg k165_).symm; refine (eA_ti ((gA_sI))).trans ?_; exact (Decidable.em (i = (3 * a1.toInt + a2.toInt + 10))).elim (fun k167_ => by refine (eA_eqT hI293.1 ka_233 k167_ (by first | decide | omega) (by first | decide | omega)).trans ?_; (first | (with_reducible rfl) | (omega) | (rfl))) (fun k167_ => by refine (eA_neT hI293.1 ka_233 k167_ (by first | decide | omega) (by omega)).trans ?_; refine (eA_ti ((gA_sI))).trans ?_; (first | with_reducible rfl | omega | exact eA_ix (by omega) | rfl))))⟩, (SU3.mk (by omega))⟩⟩
  by_cases c295_2 : a2.toInt = 2
  · refine r_tsw 50 (by rw [c295_2]; rfl) ?_
    refine At.enter rfl ?_
    refine r_iload_n rfl ?_
    refine q_i2l (fun v652 hv652 => ?_)
    refine r_lconst 0 rfl ?_
    refine r_ldc2 99 rfl ?_
    refine q_inlS 59 rfl [.long v652, .long 0, .long 99] [] (Nat.le_of_ble_eq_true rfl) rfl ?_
    refine Ev.mk rfl rfl ⟨Nat.le_of_ble_eq_true rfl, Or.inl rfl⟩ ?_
    show At _ none _ _ (0, [(0, .long v652), (2, .long 0), (4, .long 99)], [], (_, _)) _
    refine At.enter rfl ?_
    refine r_lload_n rfl ?_
    refine r_lload_n rfl ?_
    refine r_lcmp _ rfl ?_
    refine r_ifs 6 rfl (fun c653 => ?_) (fun c653 => ?_)
    · have c653_ : v652.toInt < 0 := en_j_lt_t c653
      refine At.enter rfl ?_
      refine r_iconst 0 rfl ?_
      refine Ar.fall 18 rfl ?_
      refine At.enter rfl ?_
      refine q_iretz (by decide) ?_
      refine At.enter rfl ?_
      refine q_iretz (by decide) ?_
      refine At.enter rfl ?_
      refine r_iff 13 rfl (by decide) ?_
      refine At.enter rfl ?_
      refine r_aload_n rfl ?_
      refine r_iconst (-1) rfl ?_
      refine r_callV 18 rfl [.ref 231, .int (-1)] [] (Nat.le_of_ble_eq_true rfl) rfl (T_X11_tell_231 _ hI293 (-1) (by decide)) ?_
      rintro _ _ ⟨g654, rfl, hI655, hF656, v657, rfl, hr658⟩
      refine At.sti ?_
      have hF659 := Fr.tr hF294 hF656 rfl rfl
      have zv660 : ((-1) : Int32).toInt = (-1) := rfl
      refine At.enter rfl ?_
      refine r_ireti ?_
      obtain ⟨v661, hv661⟩ : ∃ v, eA g0 233 0 = v := ⟨_, rfl⟩
      have tv661 := congrArg Int32.toInt hv661
      have wv661 := HI.t0 hI0
      rw [hv661] at wv661
      have tv661 := congrArg Int32.toInt hv661
      have x662 := HI.eqA hI0 (p := 233) (j := 0) (hv661)
      have y663 := congrArg Int32.toInt hv661
      have x664 := HI.eqA hI655 (p := 233) (j := 0) ((((eA_c (hF656.2.1 233 ma_X11_tell_231_233)).trans (eA_c gA_sI)).trans hv661))
      obtain ⟨v665, hv665⟩ : ∃ v, eA g0 233 4 = v := ⟨_, rfl⟩
      have wv665 := HI.t4 hI0
      rw [hv665] at wv665
      have tv665 := congrArg Int32.toInt hv665
      have x666 := HI.eqA hI655 (p := 233) (j := 4) ((((eA_c (hF656.2.1 233 ma_X11_tell_231_233)).trans (eA_c gA_sI)).trans hv665))
      obtain ⟨v667, hv667⟩ : ∃ v, eA g0 233 5 = v := ⟨_, rfl⟩
      have wv667 := HI.t5 hI0
      rw [hv667] at wv667
      have tv667 := congrArg Int32.toInt hv667
      have x668 := HI.eqA hI655 (p := 233) (j := 5) ((((eA_c (hF656.2.1 233 ma_X11_tell_231_233)).trans (eA_c gA_sI)).trans hv667))
      obtain ⟨v669, hv669⟩ : ∃ v, eA g0 233 6 = v := ⟨_, rfl⟩
      have wv669 := HI.t6 hI0
      rw [hv669] at wv669
      have tv669 := congrArg Int32.toInt hv669
      have x670 := HI.eqA hI655 (p := 233) (j := 6) ((((eA_c (hF656.2.1 233 ma_X11_tell_231_233)).trans (eA_c gA_sI)).trans hv669))
      obtain ⟨v671, hv671⟩ : ∃ v, eA g0 233 1 = v := ⟨_, rfl⟩
      have tv671 := congrArg Int32.toInt hv671
      have wv671 := HI.t1 hI0
      rw [hv671] at wv671
      have tv671 := congrArg Int32.toInt hv671
      have x672 := HI.eqA hI655 (p := 233) (j := 1) ((((eA_c (hF656.2.1 233 ma_X11_tell_231_233)).trans (eA_c gA_sI)).trans hv671))
      obtain ⟨v673, hv673⟩ : ∃ v, eA g0 233 2 = v := ⟨_, rfl⟩
      have tv673 := congrArg Int32.toInt hv673
      have wv673 := HI.t2 hI0
      rw [hv673] at wv673
      have tv673 := congrArg Int32.toInt hv673
      have x674 := HI.eqA hI655 (p := 233) (j := 2) ((((eA_c (hF656.2.1 233 ma_X11_tell_231_233)).trans (eA_c gA_sI)).trans hv673))
      obtain ⟨v675, hv675⟩ : ∃ v, eA g0 233 3 = v := ⟨_, rfl⟩
      have wv675 := HI.t3 hI0
      rw [hv675] at wv675
      have tv675 := congrArg Int32.toInt hv675
      have x676 := HI.eqA hI655 (p := 233) (j := 3) ((((eA_c (hF656.2.1 233 ma_X11_tell_231_233)).trans (eA_c gA_sI)).trans hv675))
      have x677 := HI.eqA hI0 (p := 233) (j := 0) (hv661)
      have x678 := HI.eqA hI0 (p := 233) (j := 4) (hv665)
      have x679 := HI.eqA hI0 (p := 233) (j := 5) (hv667)
      have x680 := HI.eqA hI0 (p := 233) (j := 6) (hv669)
      have x681 := HI.eqA hI0 (p := 233) (j := 1) (hv671)
      have x682 := HI.eqA hI0 (p := 233) (j := 2) (hv673)
      have x683 := HI.eqA hI0 (p := 233) (j := 3) (hv675)
      have x684 := HI.eqA hI0 (p := 233) (j := 0) (hv661)
      obtain ⟨v685, hv685⟩ : ∃ v, gI g654 231 1 = v := ⟨_, rfl⟩
      have tv685 := congrArg Int32.toInt hv685
      have x687 := HI.eqA hI0 (p := 233) (j := 0) (hv661)
      exact ⟨_, rfl, hI655, hF659, _, rfl, by omega, ⟨⟨⟨⟨by omega, by omega, by omega, by omega, by omega, by omega, by omega⟩, by omega, by omega, by omega⟩, (by intro i i0 i1; refine Eq.trans ?_ (if_neg (show ¬ ((((a2.toInt = 0 ∧ -1 ≤ a3.toInt ∧ a3.toInt ≤ 11) ∨ (a2.toInt = 1 ∧ 1 ≤ a3.toInt ∧ a3.toInt ≤ 9) ∨ (a2.toInt = 2 ∧ 0 ≤ a3.toInt ∧ a3.toInt ≤ 99)) ∧ 0 ≤ a1.toInt ∧ a1.toInt < (eA g0 233 0).toInt) ∧ i = 10 + 3 * a1.toInt + a2.toInt) from by omega)).symm; refine (eA_ti (((hF656.2.1 233 ma_X11_tell_231_233).trans (gA_sI)))).trans ?_; (first | with_reducible rfl | omega | exact eA_ix (by omega) | rfl))⟩, (SU3.mk (by omega))⟩⟩
    · have c653_ : v652.toInt ≥ 0 := en_j_lt_f c653
      refine At.enter rfl ?_
      refine r_lload_n rfl ?_
      refine r_lload rfl ?_
      refine r_lcmp _ rfl ?_
      refine r_ifs 13 rfl (fun c688 => ?_) (fun c688 => ?_)
      · have c688_ : v652.toInt > 99 := en_j_gt_t c688
        refine At.enter rfl ?_
        refine r_iconst 0 rfl ?_
        refine Ar.fall 18 rfl ?_
        refine At.enter rfl ?_
        refine q_iretz (by decide) ?_
        refine At.enter rfl ?_
        refine q_iretz (by decide) ?_
        refine At.enter rfl ?_
        refine r_iff 13 rfl (by decide) ?_
        refine At.enter rfl ?_
        refine r_aload_n rfl ?_
        refine r_iconst (-1) rfl ?_
        refine r_callV 18 rfl [.ref 231, .int (-1)] [] (Nat.le_of_ble_eq_true rfl) rfl (T_X11_tell_231 _ hI293 (-1) (by decide)) ?_
        rintro _ _ ⟨g689, rfl, hI690, hF691, v692, rfl, hr693⟩
        refine At.sti ?_
        have hF694 := Fr.tr hF294 hF691 rfl rfl
        have zv695 : ((-1) : Int32).toInt = (-1) := rfl
        refine At.enter rfl ?_
        refine r_ireti ?_
        obtain ⟨v696, hv696⟩ : ∃ v, eA g0 233 0 = v := ⟨_, rfl⟩
        have tv696 := congrArg Int32.toInt hv696
        have wv696 := HI.t0 hI0
        rw [hv696] at wv696
        have tv696 := congrArg Int32.toInt hv696
        have x697 := HI.eqA hI0 (p := 233) (j := 0) (hv696)
        have y698 := congrArg Int32.toInt hv696
        have x699 := HI.eqA hI690 (p := 233) (j := 0) ((((eA_c (hF691.2.1 233 ma_X11_tell_231_233)).trans (eA_c gA_sI)).trans hv696))
        obtain ⟨v700, hv700⟩ : ∃ v, eA g0 233 4 = v := ⟨_, rfl⟩
        have wv700 := HI.t4 hI0
        rw [hv700] at wv700
        have tv700 := congrArg Int32.toInt hv700
        have x701 := HI.eqA hI690 (p := 233) (j := 4) ((((eA_c (hF691.2.1 233 ma_X11_tell_231_233)).trans (eA_c gA_sI)).trans hv700))
        obtain ⟨v702, hv702⟩ : ∃ v, eA g0 233 5 = v := ⟨_, rfl⟩
        have wv702 := HI.t5 hI0
        rw [hv702] at wv702
        have tv702 := congrArg Int32.toInt hv702
        have x703 := HI.eqA hI690 (p := 233) (j := 5) ((((eA_c (hF691.2.1 233 ma_X11_tell_231_233)).trans (eA_c gA_sI)).trans hv702))
        obtain ⟨v704, hv704⟩ : ∃ v, eA g0 233 6 = v := ⟨_, rfl⟩
        have wv704 := HI.t6 hI0
        rw [hv704] at wv704
        have tv704 := congrArg Int32.toInt hv704
        have x705 := HI.eqA hI690 (p := 233) (j := 6) ((((eA_c (hF691.2.1 233 ma_X11_tell_231_233)).trans (eA_c gA_sI)).trans hv704))
        obtain ⟨v706, hv706⟩ : ∃ v, eA g0 233 1 = v := ⟨_, rfl⟩
        have tv706 := congrArg Int32.toInt hv706
        have wv706 := HI.t1 hI0
        rw [hv706] at wv706
        have tv706 := congrArg Int32.toInt hv706
        have x707 := HI.eqA hI690 (p := 233) (j := 1) ((((eA_c (hF691.2.1 233 ma_X11_tell_231_233)).trans (eA_c gA_sI)).trans hv706))
        obtain ⟨v708, hv708⟩ : ∃ v, eA g0 233 2 = v := ⟨_, rfl⟩
        have tv708 := congrArg Int32.toInt hv708
        have wv708 := HI.t2 hI0
        rw [hv708] at wv708
        have tv708 := congrArg Int32.toInt hv708
        have x709 := HI.eqA hI690 (p := 233) (j := 2) ((((eA_c (hF691.2.1 233 ma_X11_tell_231_233)).trans (eA_c gA_sI)).trans hv708))
        obtain ⟨v710, hv710⟩ : ∃ v, eA g0 233 3 = v := ⟨_, rfl⟩
        have wv710 := HI.t3 hI0
        rw [hv710] at wv710
        have tv710 := congrArg Int32.toInt hv710
        have x711 := HI.eqA hI690 (p := 233) (j := 3) ((((eA_c (hF691.2.1 233 ma_X11_tell_231_233)).trans (eA_c gA_sI)).trans hv710))
        have x712 := HI.eqA hI0 (p := 233) (j := 0) (hv696)
        have x713 := HI.eqA hI0 (p := 233) (j := 4) (hv700)
        have x714 := HI.eqA hI0 (p := 233) (j := 5) (hv702)
        have x715 := HI.eqA hI0 (p := 233) (j := 6) (hv704)
        have x716 := HI.eqA hI0 (p := 233) (j := 1) (hv706)
        have x717 := HI.eqA hI0 (p := 233) (j := 2) (hv708)
        have x718 := HI.eqA hI0 (p := 233) (j := 3) (hv710)
        have x719 := HI.eqA hI0 (p := 233) (j := 0) (hv696)
        obtain ⟨v720, hv720⟩ : ∃ v, gI g689 231 1 = v := ⟨_, rfl⟩
        have tv720 := congrArg Int32.toInt hv720
        have x722 := HI.eqA hI0 (p := 233) (j := 0) (hv696)
        exact ⟨_, rfl, hI690, hF694, _, rfl, by omega, ⟨⟨⟨⟨by omega, by omega, by omega, by omega, by omega, by omega, by omega⟩, by omega, by omega, by omega⟩, (by intro i i0 i1; refine Eq.trans ?_ (if_neg (show ¬ ((((a2.toInt = 0 ∧ -1 ≤ a3.toInt ∧ a3.toInt ≤ 11) ∨ (a2.toInt = 1 ∧ 1 ≤ a3.toInt ∧ a3.toInt ≤ 9) ∨ (a2.toInt = 2 ∧ 0 ≤ a3.toInt ∧ a3.toInt ≤ 99)) ∧ 0 ≤ a1.toInt ∧ a1.toInt < (eA g0 233 0).toInt) ∧ i = 10 + 3 * a1.toInt + a2.toInt) from by omega)).symm; refine (eA_ti (((hF691.2.1 233 ma_X11_tell_231_233).trans (gA_sI)))).trans ?_; (first | with_reducible rfl | omega | exact eA_ix (by omega) | rfl))⟩, (SU3.mk (by omega))⟩⟩
      · have c688_ : v652.toInt ≤ 99 := en_j_gt_f c688
        refine At.enter rfl ?_
        refine r_iconst 1 rfl ?_
        refine r_goto ?_
        refine At.enter rfl ?_
        refine q_iretz (by decide) ?_
        refine At.enter rfl ?_
        refine q_iretz (by decide) ?_
        refine At.enter rfl ?_
        refine r_ift (by decide) ?_
        refine At.enter rfl ?_
        refine r_aload_n rfl ?_
        refine r_iload_n rfl ?_
        refine q_inlV 24 rfl [.ref 231, .int a1] [] (Nat.le_of_ble_eq_true rfl) rfl ?_
        refine Ev.mk rfl rfl ⟨Nat.le_of_ble_eq_true rfl, Or.inr (q_rc hI293.1 kx_231 rfl)⟩ ?_
        show At _ none _ _ (0, [(0, .ref 231), (1, .int a1)], [], (_, _)) _
        refine At.enter rfl ?_
        refine r_iload_n rfl ?_
        refine q_i2l (fun v723 hv723 => ?_)
        refine r_lconst 0 rfl ?_
        refine r_aload_n rfl ?_
        refine q_getR (Sh.ref hI293.1 kx_231 rfl) ?_
        refine r_iconst 0 rfl ?_
        obtain ⟨v724, hv724⟩ : ∃ v, eA g0 233 0 = v := ⟨_, rfl⟩
        have tv724 := congrArg Int32.toInt hv724
        have wv724 := HI.t0 hI0
        rw [hv724] at wv724
        refine q_iald (Sh.arr hI293.1 ka_233) 0 rfl (by decide) v724 ((eA_c (gA_sI)).trans hv724) ?_
        refine q_i2l (fun v725 hv725 => ?_)
        refine r_lconst 1 rfl ?_
        refine q_lsub (v725.toInt - 1) rfl (by omega) (fun v726 hv726 => ?_)
        refine q_inlS 15 rfl [.long v723, .long 0, .long v726] [] (Nat.le_of_ble_eq_true rfl) rfl ?_
        refine Ev.mk rfl rfl ⟨Nat.le_of_ble_eq_true rfl, Or.inl rfl⟩ ?_
        show At _ none _ _ (0, [(0, .long v723), (2, .long 0), (4, .long v726)], [], (_, _)) _
        refine At.enter rfl ?_
        refine r_lload_n rfl ?_
        refine r_lload_n rfl ?_
        refine r_lcmp _ rfl ?_
        refine r_ifs 6 rfl (fun c727 => ?_) (fun c727 => ?_)
        · have c727_ : v723.toInt < 0 := en_j_lt_t c727
          refine At.enter rfl ?_
          refine r_iconst 0 rfl ?_
          refine Ar.fall 18 rfl ?_
          refine At.enter rfl ?_
          refine q_iretz (by decide) ?_
          refine At.enter rfl ?_
          refine q_iretz (by decide) ?_
          refine At.enter rfl ?_
          refine r_ift (by decide) ?_
          refine At.enter rfl ?_
          refine r_aload_n rfl ?_
          refine r_bipush (-2) rfl ?_
          refine r_callV 49 rfl [.ref 231, .int (-2)] [] (Nat.le_of_ble_eq_true rfl) rfl (T_X11_tell_231 _ hI293 (-2) (by decide)) ?_
          rintro _ _ ⟨g728, rfl, hI729, hF730, v731, rfl, hr732⟩
          refine At.sti ?_
          have hF733 := Fr.tr hF294 hF730 rfl rfl
          have zv734 : ((-2) : Int32).toInt = (-2) := rfl
          refine At.enter rfl ?_
          refine r_ireti ?_
          have x735 := HI.eqA hI0 (p := 233) (j := 0) (hv724)
          have y736 := congrArg Int32.toInt hv724
          have x737 := HI.eqA hI729 (p := 233) (j := 0) ((((eA_c (hF730.2.1 233 ma_X11_tell_231_233)).trans (eA_c gA_sI)).trans hv724))
          obtain ⟨v738, hv738⟩ : ∃ v, eA g0 233 4 = v := ⟨_, rfl⟩
          have wv738 := HI.t4 hI0
          rw [hv738] at wv738
          have tv738 := congrArg Int32.toInt hv738
          have x739 := HI.eqA hI729 (p := 233) (j := 4) ((((eA_c (hF730.2.1 233 ma_X11_tell_231_233)).trans (eA_c gA_sI)).trans hv738))
          obtain ⟨v740, hv740⟩ : ∃ v, eA g0 233 5 = v := ⟨_, rfl⟩
          have wv740 := HI.t5 hI0
          rw [hv740] at wv740
          have tv740 := congrArg Int32.toInt hv740
          have x741 := HI.eqA hI729 (p := 233) (j := 5) ((((eA_c (hF730.2.1 233 ma_X11_tell_231_233)).trans (eA_c gA_sI)).trans hv740))
          obtain ⟨v742, hv742⟩ : ∃ v, eA g0 233 6 = v := ⟨_, rfl⟩
          have wv742 := HI.t6 hI0
          rw [hv742] at wv742
          have tv742 := congrArg Int32.toInt hv742
          have x743 := HI.eqA hI729 (p := 233) (j := 6) ((((eA_c (hF730.2.1 233 ma_X11_tell_231_233)).trans (eA_c gA_sI)).trans hv742))
          obtain ⟨v744, hv744⟩ : ∃ v, eA g0 233 1 = v := ⟨_, rfl⟩
          have tv744 := congrArg Int32.toInt hv744
          have wv744 := HI.t1 hI0
          rw [hv744] at wv744
          have tv744 := congrArg Int32.toInt hv744
          have x745 := HI.eqA hI729 (p := 233) (j := 1) ((((eA_c (hF730.2.1 233 ma_X11_tell_231_233)).trans (eA_c gA_sI)).trans hv744))
          obtain ⟨v746, hv746⟩ : ∃ v, eA g0 233 2 = v := ⟨_, rfl⟩
          have tv746 := congrArg Int32.toInt hv746
          have wv746 := HI.t2 hI0
          rw [hv746] at wv746
          have tv746 := congrArg Int32.toInt hv746
          have x747 := HI.eqA hI729 (p := 233) (j := 2) ((((eA_c (hF730.2.1 233 ma_X11_tell_231_233)).trans (eA_c gA_sI)).trans hv746))
          obtain ⟨v748, hv748⟩ : ∃ v, eA g0 233 3 = v := ⟨_, rfl⟩
          have wv748 := HI.t3 hI0
          rw [hv748] at wv748
          have tv748 := congrArg Int32.toInt hv748
          have x749 := HI.eqA hI729 (p := 233) (j := 3) ((((eA_c (hF730.2.1 233 ma_X11_tell_231_233)).trans (eA_c gA_sI)).trans hv748))
          have x750 := HI.eqA hI0 (p := 233) (j := 0) (hv724)
          have x751 := HI.eqA hI0 (p := 233) (j := 4) (hv738)
          have x752 := HI.eqA hI0 (p := 233) (j := 5) (hv740)
          have x753 := HI.eqA hI0 (p := 233) (j := 6) (hv742)
          have x754 := HI.eqA hI0 (p := 233) (j := 1) (hv744)
          have x755 := HI.eqA hI0 (p := 233) (j := 2) (hv746)
          have x756 := HI.eqA hI0 (p := 233) (j := 3) (hv748)
          have x757 := HI.eqA hI0 (p := 233) (j := 0) (hv724)
          obtain ⟨v758, hv758⟩ : ∃ v, gI g728 231 1 = v := ⟨_, rfl⟩
          have tv758 := congrArg Int32.toInt hv758
          have x760 := HI.eqA hI0 (p := 233) (j := 0) (hv724)
          exact ⟨_, rfl, hI729, hF733, _, rfl, by omega, ⟨⟨⟨⟨by omega, by omega, by omega, by omega, by omega, by omega, by omega⟩, by omega, by omega, by omega⟩, (by intro i i0 i1; refine Eq.trans ?_ (if_neg (show ¬ ((((a2.toInt = 0 ∧ -1 ≤ a3.toInt ∧ a3.toInt ≤ 11) ∨ (a2.toInt = 1 ∧ 1 ≤ a3.toInt ∧ a3.toInt ≤ 9) ∨ (a2.toInt = 2 ∧ 0 ≤ a3.toInt ∧ a3.toInt ≤ 99)) ∧ 0 ≤ a1.toInt ∧ a1.toInt < (eA g0 233 0).toInt) ∧ i = 10 + 3 * a1.toInt + a2.toInt) from by omega)).symm; refine (eA_ti (((hF730.2.1 233 ma_X11_tell_231_233).trans (gA_sI)))).trans ?_; (first | with_reducible rfl | omega | exact eA_ix (by omega) | rfl))⟩, (SU3.mk (by omega))⟩⟩
        · have c727_ : v723.toInt ≥ 0 := en_j_lt_f c727
          refine At.enter rfl ?_
          refine r_lload_n rfl ?_
          refine r_lload rfl ?_
          refine r_lcmp _ rfl ?_
          refine r_ifs 13 rfl (fun c761 => ?_) (fun c761 => ?_)
          · have c761_ : v723.toInt > v726.toInt := en_j_gt_t c761
            refine At.enter rfl ?_
            refine r_iconst 0 rfl ?_
            refine Ar.fall 18 rfl ?_
            refine At.enter rfl ?_
            refine q_iretz (by decide) ?_
            refine At.enter rfl ?_
            refine q_iretz (by decide) ?_
            refine At.enter rfl ?_
            refine r_ift (by decide) ?_
            refine At.enter rfl ?_
            refine r_aload_n rfl ?_
            refine r_bipush (-2) rfl ?_
            refine r_callV 49 rfl [.ref 231, .int (-2)] [] (Nat.le_of_ble_eq_true rfl) rfl (T_X11_tell_231 _ hI293 (-2) (by decide)) ?_
            rintro _ _ ⟨g762, rfl, hI763, hF764, v765, rfl, hr766⟩
            refine At.sti ?_
            have hF767 := Fr.tr hF294 hF764 rfl rfl
            have zv768 : ((-2) : Int32).toInt = (-2) := rfl
            refine At.enter rfl ?_
            refine r_ireti ?_
            have x769 := HI.eqA hI0 (p := 233) (j := 0) (hv724)
            have y770 := congrArg Int32.toInt hv724
            have x771 := HI.eqA hI763 (p := 233) (j := 0) ((((eA_c (hF764.2.1 233 ma_X11_tell_231_233)).trans (eA_c gA_sI)).trans hv724))
            obtain ⟨v772, hv772⟩ : ∃ v, eA g0 233 4 = v := ⟨_, rfl⟩
            have wv772 := HI.t4 hI0
            rw [hv772] at wv772
            have tv772 := congrArg Int32.toInt hv772
            have x773 := HI.eqA hI763 (p := 233) (j := 4) ((((eA_c (hF764.2.1 233 ma_X11_tell_231_233)).trans (eA_c gA_sI)).trans hv772))
            obtain ⟨v774, hv774⟩ : ∃ v, eA g0 233 5 = v := ⟨_, rfl⟩
            have wv774 := HI.t5 hI0
            rw [hv774] at wv774
            have tv774 := congrArg Int32.toInt hv774
            have x775 := HI.eqA hI763 (p := 233) (j := 5) ((((eA_c (hF764.2.1 233 ma_X11_tell_231_233)).trans (eA_c gA_sI)).trans hv774))
            obtain ⟨v776, hv776⟩ : ∃ v, eA g0 233 6 = v := ⟨_, rfl⟩
            have wv776 := HI.t6 hI0
            rw [hv776] at wv776
            have tv776 := congrArg Int32.toInt hv776
            have x777 := HI.eqA hI763 (p := 233) (j := 6) ((((eA_c (hF764.2.1 233 ma_X11_tell_231_233)).trans (eA_c gA_sI)).trans hv776))
            obtain ⟨v778, hv778⟩ : ∃ v, eA g0 233 1 = v := ⟨_, rfl⟩
            have tv778 := congrArg Int32.toInt hv778
            have wv778 := HI.t1 hI0
            rw [hv778] at wv778
            have tv778 := congrArg Int32.toInt hv778
            have x779 := HI.eqA hI763 (p := 233) (j := 1) ((((eA_c (hF764.2.1 233 ma_X11_tell_231_233)).trans (eA_c gA_sI)).trans hv778))
            obtain ⟨v780, hv780⟩ : ∃ v, eA g0 233 2 = v := ⟨_, rfl⟩
            have tv780 := congrArg Int32.toInt hv780
            have wv780 := HI.t2 hI0
            rw [hv780] at wv780
            have tv780 := congrArg Int32.toInt hv780
            have x781 := HI.eqA hI763 (p := 233) (j := 2) ((((eA_c (hF764.2.1 233 ma_X11_tell_231_233)).trans (eA_c gA_sI)).trans hv780))
            obtain ⟨v782, hv782⟩ : ∃ v, eA g0 233 3 = v := ⟨_, rfl⟩
            have wv782 := HI.t3 hI0
            rw [hv782] at wv782
            have tv782 := congrArg Int32.toInt hv782
            have x783 := HI.eqA hI763 (p := 233) (j := 3) ((((eA_c (hF764.2.1 233 ma_X11_tell_231_233)).trans (eA_c gA_sI)).trans hv782))
            have x784 := HI.eqA hI0 (p := 233) (j := 0) (hv724)
            have x785 := HI.eqA hI0 (p := 233) (j := 4) (hv772)
            have x786 := HI.eqA hI0 (p := 233) (j := 5) (hv774)
            have x787 := HI.eqA hI0 (p := 233) (j := 6) (hv776)
            have x788 := HI.eqA hI0 (p := 233) (j := 1) (hv778)
            have x789 := HI.eqA hI0 (p := 233) (j := 2) (hv780)
            have x790 := HI.eqA hI0 (p := 233) (j := 3) (hv782)
            have x791 := HI.eqA hI0 (p := 233) (j := 0) (hv724)
            obtain ⟨v792, hv792⟩ : ∃ v, gI g762 231 1 = v := ⟨_, rfl⟩
            have tv792 := congrArg Int32.toInt hv792
            have x794 := HI.eqA hI0 (p := 233) (j := 0) (hv724)
            exact ⟨_, rfl, hI763, hF767, _, rfl, by omega, ⟨⟨⟨⟨by omega, by omega, by omega, by omega, by omega, by omega, by omega⟩, by omega, by omega, by omega⟩, (by intro i i0 i1; refine Eq.trans ?_ (if_neg (show ¬ ((((a2.toInt = 0 ∧ -1 ≤ a3.toInt ∧ a3.toInt ≤ 11) ∨ (a2.toInt = 1 ∧ 1 ≤ a3.toInt ∧ a3.toInt ≤ 9) ∨ (a2.toInt = 2 ∧ 0 ≤ a3.toInt ∧ a3.toInt ≤ 99)) ∧ 0 ≤ a1.toInt ∧ a1.toInt < (eA g0 233 0).toInt) ∧ i = 10 + 3 * a1.toInt + a2.toInt) from by omega)).symm; refine (eA_ti (((hF764.2.1 233 ma_X11_tell_231_233).trans (gA_sI)))).trans ?_; (first | with_reducible rfl | omega | exact eA_ix (by omega) | rfl))⟩, (SU3.mk (by omega))⟩⟩
          · have c761_ : v723.toInt ≤ v726.toInt := en_j_gt_f c761
            refine At.enter rfl ?_
            refine r_iconst 1 rfl ?_
            refine r_goto ?_
            refine At.enter rfl ?_
            refine q_iretz (by decide) ?_
            refine At.enter rfl ?_
            refine q_iretz (by decide) ?_
            refine At.enter rfl ?_
            refine r_iff 27 rfl (by decide) ?_
            refine At.enter rfl ?_
            refine r_aload_n rfl ?_
            refine r_bipush 10 rfl ?_
            refine r_iconst 3 rfl ?_
            refine r_iload_n rfl ?_
            refine q_imul (3 * a1.toInt) rfl (by omega) (fun v795 hv795 => ?_)
            refine q_iadd (10 + v795.toInt) rfl (by omega) (fun v796 hv796 => ?_)
            refine r_iload_n rfl ?_
            refine q_iadd (v796.toInt + a2.toInt) rfl (by omega) (fun v797 hv797 => ?_)
            refine r_iload_n rfl ?_
            refine q_inlV 40 rfl [.ref 231, .int v797, .int a3] [] (Nat.le_of_ble_eq_true rfl) rfl ?_
            refine Ev.mk rfl rfl ⟨Nat.le_of_ble_eq_true rfl, Or.inr (q_rc hI293.1 kx_231 rfl)⟩ ?_
            show At _ none _ _ (0, [(0, .ref 231), (1, .int v797), (2, .int a3)], [], (_, _)) _
            refine At.enter rfl ?_
            refine r_aload_n rfl ?_
            refine q_getR (Sh.ref hI293.1 kx_231 rfl) ?_
            refine r_iload_n rfl ?_
            obtain ⟨v798, hv798⟩ : ∃ v, eA g0 233 (3 * a1.toInt + a2.toInt + 10) = v := ⟨_, rfl⟩
            have wv798 := HI.s2 hI0 (j := (3 * a1.toInt + a2.toInt + 10)) (a1.toInt) (by omega) (by omega)
            rw [hv798] at wv798
            refine q_iald (Sh.arr hI293.1 ka_233) (3 * a1.toInt + a2.toInt + 10) (by omega) (by omega) v798 ((eA_c (gA_sI)).trans hv798) ?_
            refine r_istore_n ([(3, .int v798), (0, .ref 231), (1, .int v797), (2, .int a3)]) rfl ?_
            refine r_aload_n rfl ?_
            refine q_getR (Sh.ref hI293.1 kx_231 rfl) ?_
            refine r_iload_n rfl ?_
            refine r_iload_n rfl ?_
            refine q_iast (Sh.arr hI293.1 ka_233) ((3 * a1.toInt + a2.toInt + 10)) (by omega) (by omega) ?_
            have hI799 := HI.ws hI293 (j := (3 * a1.toInt + a2.toInt + 10)) (v := a3) (a1.toInt) 2 (by omega) (by decide) (by omega) (by omega)
            have hF800 := Fr.wA (p := 233) (j := (3 * a1.toInt + a2.toInt + 10)) (v := a3) hF294 rfl
            refine r_aload_n rfl ?_
            refine r_iload_n rfl ?_
            refine q_inlV 19 rfl [.ref 231, .int v798] [] (Nat.le_of_ble_eq_true rfl) rfl ?_
            refine Ev.mk rfl rfl ⟨Nat.le_of_ble_eq_true rfl, Or.inr (q_rc hI799.1 kx_231 rfl)⟩ ?_
            show At _ none _ _ (0, [(0, .ref 231), (1, .int v798)], [], (_, _)) _
            refine At.enter rfl ?_
            refine r_aload_n rfl ?_
            refine r_iconst 0 rfl ?_
            refine q_putI (Sh.int hI799.1 kx_231 rfl) rfl ?_
            have hI801 := HI.wI0 hI799 kx_231 rfl (p := 231) (b := 1) (v := 0) rfl
            have hF802 := Fr.wI (p := 231) (b := 1) (v := 0) hF800 rfl
            refine r_iload_n rfl ?_
            refine q_ireti ?_
            refine At.enter rfl ?_
            refine q_ireti ?_
            refine At.enter rfl ?_
            refine r_goto ?_
            refine At.enter rfl ?_
            refine r_ireti ?_
            have x803 := HI.eqA hI0 (p := 233) (j := 0) (hv724)
            have y804 := congrArg Int32.toInt hv724
            have y805 := (eA_ix (g := g0) (p := 233) (show 10 + 3 * a1.toInt + a2.toInt = (3 * a1.toInt + a2.toInt + 10) from by omega)).trans (congrArg Int32.toInt hv798)
            have x806 := HI.eqA hI801 (p := 233) (j := 0) ((((eA_c gA_sI).trans ((eA_sA_ne hI293.1 ka_233 (by first | decide | omega) (by first | decide | omega) (by first | decide | omega)).trans (eA_c gA_sI))).trans hv724))
            obtain ⟨v807, hv807⟩ : ∃ v, eA g0 233 4 = v := ⟨_, rfl⟩
            have wv807 := HI.t4 hI0
            rw [hv807] at wv807
            have tv807 := congrArg Int32.toInt hv807
            have x808 := HI.eqA hI801 (p := 233) (j := 4) ((((eA_c gA_sI).trans ((eA_sA_ne hI293.1 ka_233 (by first | decide | omega) (by first | decide | omega) (by first | decide | omega)).trans (eA_c gA_sI))).trans hv807))
            obtain ⟨v809, hv809⟩ : ∃ v, eA g0 233 5 = v := ⟨_, rfl⟩
            have wv809 := HI.t5 hI0
            rw [hv809] at wv809
            have tv809 := congrArg Int32.toInt hv809
            have x810 := HI.eqA hI801 (p := 233) (j := 5) ((((eA_c gA_sI).trans ((eA_sA_ne hI293.1 ka_233 (by first | decide | omega) (by first | decide | omega) (by first | decide | omega)).trans (eA_c gA_sI))).trans hv809))
            obtain ⟨v811, hv811⟩ : ∃ v, eA g0 233 6 = v := ⟨_, rfl⟩
            have wv811 := HI.t6 hI0
            rw [hv811] at wv811
            have tv811 := congrArg Int32.toInt hv811
            have x812 := HI.eqA hI801 (p := 233) (j := 6) ((((eA_c gA_sI).trans ((eA_sA_ne hI293.1 ka_233 (by first | decide | omega) (by first | decide | omega) (by first | decide | omega)).trans (eA_c gA_sI))).trans hv811))
            obtain ⟨v813, hv813⟩ : ∃ v, eA g0 233 1 = v := ⟨_, rfl⟩
            have tv813 := congrArg Int32.toInt hv813
            have wv813 := HI.t1 hI0
            rw [hv813] at wv813
            have tv813 := congrArg Int32.toInt hv813
            have x814 := HI.eqA hI801 (p := 233) (j := 1) ((((eA_c gA_sI).trans ((eA_sA_ne hI293.1 ka_233 (by first | decide | omega) (by first | decide | omega) (by first | decide | omega)).trans (eA_c gA_sI))).trans hv813))
            obtain ⟨v815, hv815⟩ : ∃ v, eA g0 233 2 = v := ⟨_, rfl⟩
            have tv815 := congrArg Int32.toInt hv815
            have wv815 := HI.t2 hI0
            rw [hv815] at wv815
            have tv815 := congrArg Int32.toInt hv815
            have x816 := HI.eqA hI801 (p := 233) (j := 2) ((((eA_c gA_sI).trans ((eA_sA_ne hI293.1 ka_233 (by first | decide | omega) (by first | decide | omega) (by first | decide | omega)).trans (eA_c gA_sI))).trans hv815))
            obtain ⟨v817, hv817⟩ : ∃ v, eA g0 233 3 = v := ⟨_, rfl⟩
            have wv817 := HI.t3 hI0
            rw [hv817] at wv817
            have tv817 := congrArg Int32.toInt hv817
            have x818 := HI.eqA hI801 (p := 233) (j := 3) ((((eA_c gA_sI).trans ((eA_sA_ne hI293.1 ka_233 (by first | decide | omega) (by first | decide | omega) (by first | decide | omega)).trans (eA_c gA_sI))).trans hv817))
            have x819 := HI.eqA hI0 (p := 233) (j := 0) (hv724)
            have x820 := HI.eqA hI0 (p := 233) (j := 4) (hv807)
            have x821 := HI.eqA hI0 (p := 233) (j := 5) (hv809)
            have x822 := HI.eqA hI0 (p := 233) (j := 6) (hv811)
            have x823 := HI.eqA hI0 (p := 233) (j := 1) (hv813)
            have x824 := HI.eqA hI0 (p := 233) (j := 2) (hv815)
            have x825 := HI.eqA hI0 (p := 233) (j := 3) (hv817)
            have x826 := HI.eqA hI0 (p := 233) (j := 0) (hv724)
            have x827 := HI.eqI hI801 (p := 231) (b := 1) ((gI_sI_eq hI799.1 kx_231 rfl _))
            have zv828 : (0 : Int32).toInt = 0 := rfl
            have x829 := HI.eqA hI0 (p := 233) (j := 0) (hv724)
            exact ⟨_, rfl, hI801, hF802, _, rfl, by omega, ⟨⟨⟨⟨by omega, by omega, by omega, by omega, by omega, by omega, by omega⟩, by omega, by omega, by omega⟩, (by intro i i0 i1; exact (Decidable.em ((((a2.toInt = 0 ∧ -1 ≤ a3.toInt ∧ a3.toInt ≤ 11) ∨ (a2.toInt = 1 ∧ 1 ≤ a3.toInt ∧ a3.toInt ≤ 9) ∨ (a2.toInt = 2 ∧ 0 ≤ a3.toInt ∧ a3.toInt ≤ 99)) ∧ 0 ≤ a1.toInt ∧ a1.toInt < (eA g0 233 0).toInt) ∧ i = 10 + 3 * a1.toInt + a2.toInt)).elim (fun k168_ => by refine Eq.trans ?_ (if_pos k168_).symm; refine (eA_ti ((gA_sI))).trans ?_; exact (Decidable.em (i = (3 * a1.toInt + a2.toInt + 10))).elim (fun k169_ => by refine (eA_eqT hI293.1 ka_233 k169_ (by first | decide | omega) (by first | decide | omega)).trans ?_; (first | (with_reducible rfl) | (omega) | (rfl))) (fun k169_ => by refine (eA_neT hI293.1 ka_233 k169_ (by first | decide | omega) (by omega)).trans ?_; refine (eA_ti ((gA_sI))).trans ?_; (first | with_reducible rfl | omega | exact eA_ix (by omega) | rfl))) (fun k168_ => by refine Eq.trans ?_ (if_neg k168_).symm; refine (eA_ti ((gA_sI))).trans ?_; exact (Decidable.em (i = (3 * a1.toInt + a2.toInt + 10))).elim (fun k170_ => by refine (eA_eqT hI293.1 ka_233 k170_ (by first | decide | omega) (by first | decide | omega)).trans ?_; (first | (with_reducible rfl) | (omega) | (rfl))) (fun k170_ => by refine (eA_neT hI293.1 ka_233 k170_ (by first | decide | omega) (by omega)).trans ?_; refine (eA_ti ((gA_sI))).trans ?_; (first | with_reducible rfl | omega | exact eA_ix (by omega) | rfl))))⟩, (SU3.mk (by omega))⟩⟩
  have c830 : a2.toInt < 0 ∨ 2 < a2.toInt := by omega
  refine r_tsw 60 (by unfold en_sw; rw [if_pos c830]; rfl) ?_
  refine At.enter rfl ?_
  refine r_iconst 0 rfl ?_
  refine q_iretz (by decide) ?_
  refine At.enter rfl ?_
  refine r_iff 13 rfl (by decide) ?_
  refine At.enter rfl ?_
  refine r_aload_n rfl ?_
  refine r_iconst (-1) rfl ?_
  refine r_callV 18 rfl [.ref 231, .int (-1)] [] (Nat.le_of_ble_eq_true rfl) rfl (T_X11_tell_231 _ hI293 (-1) (by decide)) ?_
  rintro _ _ ⟨g831, rfl, hI832, hF833, v834, rfl, hr835⟩
  refine At.sti ?_
  have hF836 := Fr.tr hF294 hF833 rfl rfl
  have zv837 : ((-1) : Int32).toInt = (-1) := rfl
  refine At.enter rfl ?_
  refine r_ireti ?_
  obtain ⟨v838, hv838⟩ : ∃ v, eA g0 233 0 = v := ⟨_, rfl⟩
  have tv838 := congrArg Int32.toInt hv838
  have wv838 := HI.t0 hI0
  rw [hv838] at wv838
  have tv838 := congrArg Int32.toInt hv838
  have x839 := HI.eqA hI0 (p := 233) (j := 0) (hv838)
  have y840 := congrArg Int32.toInt hv838
  have x841 := HI.eqA hI832 (p := 233) (j := 0) ((((eA_c (hF833.2.1 233 ma_X11_tell_231_233)).trans (eA_c gA_sI)).trans hv838))
  obtain ⟨v842, hv842⟩ : ∃ v, eA g0 233 4 = v := ⟨_, rfl⟩
  have wv842 := HI.t4 hI0
  rw [hv842] at wv842
  have tv842 := congrArg Int32.toInt hv842
  have x843 := HI.eqA hI832 (p := 233) (j := 4) ((((eA_c (hF833.2.1 233 ma_X11_tell_231_233)).trans (eA_c gA_sI)).trans hv842))
  obtain ⟨v844, hv844⟩ : ∃ v, eA g0 233 5 = v := ⟨_, rfl⟩
  have wv844 := HI.t5 hI0
  rw [hv844] at wv844
  have tv844 := congrArg Int32.toInt hv844
  have x845 := HI.eqA hI832 (p := 233) (j := 5) ((((eA_c (hF833.2.1 233 ma_X11_tell_231_233)).trans (eA_c gA_sI)).trans hv844))
  obtain ⟨v846, hv846⟩ : ∃ v, eA g0 233 6 = v := ⟨_, rfl⟩
  have wv846 := HI.t6 hI0
  rw [hv846] at wv846
  have tv846 := congrArg Int32.toInt hv846
  have x847 := HI.eqA hI832 (p := 233) (j := 6) ((((eA_c (hF833.2.1 233 ma_X11_tell_231_233)).trans (eA_c gA_sI)).trans hv846))
  obtain ⟨v848, hv848⟩ : ∃ v, eA g0 233 1 = v := ⟨_, rfl⟩
  have tv848 := congrArg Int32.toInt hv848
  have wv848 := HI.t1 hI0
  rw [hv848] at wv848
  have tv848 := congrArg Int32.toInt hv848
  have x849 := HI.eqA hI832 (p := 233) (j := 1) ((((eA_c (hF833.2.1 233 ma_X11_tell_231_233)).trans (eA_c gA_sI)).trans hv848))
  obtain ⟨v850, hv850⟩ : ∃ v, eA g0 233 2 = v := ⟨_, rfl⟩
  have tv850 := congrArg Int32.toInt hv850
  have wv850 := HI.t2 hI0
  rw [hv850] at wv850
  have tv850 := congrArg Int32.toInt hv850
  have x851 := HI.eqA hI832 (p := 233) (j := 2) ((((eA_c (hF833.2.1 233 ma_X11_tell_231_233)).trans (eA_c gA_sI)).trans hv850))
  obtain ⟨v852, hv852⟩ : ∃ v, eA g0 233 3 = v := ⟨_, rfl⟩
  have wv852 := HI.t3 hI0
  rw [hv852] at wv852
  have tv852 := congrArg Int32.toInt hv852
  have x853 := HI.eqA hI832 (p := 233) (j := 3) ((((eA_c (hF833.2.1 233 ma_X11_tell_231_233)).trans (eA_c gA_sI)).trans hv852))
  have x854 := HI.eqA hI0 (p := 233) (j := 0) (hv838)
  have x855 := HI.eqA hI0 (p := 233) (j := 4) (hv842)
  have x856 := HI.eqA hI0 (p := 233) (j := 5) (hv844)
  have x857 := HI.eqA hI0 (p := 233) (j := 6) (hv846)
  have x858 := HI.eqA hI0 (p := 233) (j := 1) (hv848)
  have x859 := HI.eqA hI0 (p := 233) (j := 2) (hv850)
  have x860 := HI.eqA hI0 (p := 233) (j := 3) (hv852)
  have x861 := HI.eqA hI0 (p := 233) (j := 0) (hv838)
  obtain ⟨v862, hv862⟩ : ∃ v, gI g831 231 1 = v := ⟨_, rfl⟩
  have tv862 := congrArg Int32.toInt hv862
  have x864 := HI.eqA hI0 (p := 233) (j := 0) (hv838)
  exact ⟨_, rfl, hI832, hF836, _, rfl, by omega, ⟨⟨⟨⟨by omega, by omega, by omega, by omega, by omega, by omega, by omega⟩, by omega, by omega, by omega⟩, (by intro i i0 i1; refine Eq.trans ?_ (if_neg (show ¬ ((((a2.toInt = 0 ∧ -1 ≤ a3.toInt ∧ a3.toInt ≤ 11) ∨ (a2.toInt = 1 ∧ 1 ≤ a3.toInt ∧ a3.toInt ≤ 9) ∨ (a2.toInt = 2 ∧ 0 ≤ a3.toInt ∧ a3.toInt ≤ 99)) ∧ 0 ≤ a1.toInt ∧ a1.toInt < (eA g0 233 0).toInt) ∧ i = 10 + 3 * a1.toInt + a2.toInt) from by omega)).symm; refine (eA_ti (((hF833.2.1 233 ma_X11_tell_231_233).trans (gA_sI)))).trans ?_; (first | with_reducible rfl | omega | exact eA_ix (by omega) | rfl))⟩, (SU3.mk (by omega))⟩⟩
