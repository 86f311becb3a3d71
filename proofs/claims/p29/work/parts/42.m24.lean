def F_X11_put_231 : List (Nat × Nat) := [(231, 0), (231, 1)]
def A_X11_put_231 : List Nat := [232, 233]
set_option maxRecDepth 100000 in
set_option maxHeartbeats 4000000 in
theorem T_X11_put_231 (d : Nat) {N : Nat} {g0 : List en_E} (hI0 : HI g0) (a1 : Int32) (a2 : Int32) (a3 : Int32) : Ev (d + 3) 173 [.ref 231, .int a1, .int a2, .int a3] (g0, N) (fun w h' => ∃ g', h' = (g', N) ∧ HI g' ∧ Fr F_X11_put_231 A_X11_put_231 g0 g' ∧ ∃ r : Int32, w = some (.int r) ∧ ((-2) ≤ r.toInt ∧ r.toInt ≤ 99) ∧ ((((eA g' 233 0).toInt = (eA g0 233 0).toInt ∧ (eA g' 233 4).toInt = (eA g0 233 4).toInt ∧ (eA g' 233 5).toInt = (eA g0 233 5).toInt ∧ (eA g' 233 6).toInt = (eA g0 233 6).toInt ∧ (eA g' 233 1).toInt = (eA g0 233 1).toInt ∧ (eA g' 233 2).toInt = (eA g0 233 2).toInt ∧ (eA g' 233 3).toInt = (eA g0 233 3).toInt) ∧ (¬ ((a2.toInt = 0 ∧ -1 ≤ a3.toInt ∧ a3.toInt ≤ 11) ∨ (a2.toInt = 1 ∧ 1 ≤ a3.toInt ∧ a3.toInt ≤ 9) ∨ (a2.toInt = 2 ∧ 0 ≤ a3.toInt ∧ a3.toInt ≤ 99)) → r.toInt = -1) ∧ (((a2.toInt = 0 ∧ -1 ≤ a3.toInt ∧ a3.toInt ≤ 11) ∨ (a2.toInt = 1 ∧ 1 ≤ a3.toInt ∧ a3.toInt ≤ 9) ∨ (a2.toInt = 2 ∧ 0 ≤ a3.toInt ∧ a3.toInt ≤ 99)) ∧ ¬ (0 ≤ a1.toInt ∧ a1.toInt < (eA g0 233 0).toInt) → r.toInt = -2) ∧ (((a2.toInt = 0 ∧ -1 ≤ a3.toInt ∧ a3.toInt ≤ 11) ∨ (a2.toInt = 1 ∧ 1 ≤ a3.toInt ∧ a3.toInt ≤ 9) ∨ (a2.toInt = 2 ∧ 0 ≤ a3.toInt ∧ a3.toInt ≤ 99)) ∧ 0 ≤ a1.toInt ∧ a1.toInt < (eA g0 233 0).toInt → r.toInt = (eA g0 233 (10 + 3 * a1.toInt + a2.toInt)).toInt)) ∧ (∀ i : Int, 10 ≤ i → i < 5510 → (eA g' 233 (i)).toInt = if (((a2.toInt = 0 ∧ -1 ≤ a3.toInt ∧ a3.toInt ≤ 11) ∨ (a2.toInt = 1 ∧ 1 ≤ a3.toInt ∧ a3.toInt ≤ 9) ∨ (a2.toInt = 2 ∧ 0 ≤ a3.toInt ∧ a3.toInt ≤ 99)) ∧ 0 ≤ a1.toInt ∧ a1.toInt < (eA g0 233 0).toInt) ∧ i = 10 + 3 * a1.toInt + a2.toInt then a3.toInt else (eA g0 233 (i)).toInt))) := by
  have hF0 : Fr F_X11_put_231 A_X11_put_231 g0 g0 := Fr.rf
  refine Ev.mk rfl rfl ⟨Nat.le_of_ble_eq_true rfl, Or.inr (q_rc hI0.1 kx_231 rfl)⟩ ?_
  show At _ none _ _ (0, [(0, .ref 231), (1, .int a1), (2, .int a2), (3, .int a3)], [], (_, _)) _
  refine At.enter rfl ?_
  refine r_aload_n rfl ?_
  refine r_iconst 0 rfl ?_
  refine q_putI (Sh.int hI0.1 kx_231 rfl) rfl ?_
  have hI293 := HI.wI0 hI0 kx_231 rfl (p := 231) (b := 0) (v := 0) rfl
  have hF294 := Fr.wI (p := 231) (b := 0) (v := 0) hF0 rfl
  refine r_iload_n rfl ?_
  refine r_iload_n rfl ?_
  refine q_inlS 10 rfl [.int a2, .int a3] [] (Nat.le_of_ble_eq_true rfl) rfl ?_
  refine Ev.mk rfl rfl ⟨Nat.le_of_ble_eq_true rfl, Or.inl rfl⟩ ?_
  show At _ none _ _ (0, [(0, .int a2), (1, .int a3)], [], (_, _)) _
  refine At.enter rfl ?_
  refine r_iload_n rfl ?_
  by_cases c295_0 : a2.toInt = 0
  · refine r_tsw 28 (by rw [c295_0]; rfl) ?_
    refine At.enter rfl ?_
    refine r_iload_n rfl ?_
    refine q_i2l (fun v296 hv296 => ?_)
    refine r_ldc2 (-1) rfl ?_
    refine r_ldc2 11 rfl ?_
    refine q_inlS 39 rfl [.long v296, .long (-1), .long 11] [] (Nat.le_of_ble_eq_true rfl) rfl ?_
    refine Ev.mk rfl rfl ⟨Nat.le_of_ble_eq_true rfl, Or.inl rfl⟩ ?_
    show At _ none _ _ (0, [(0, .long v296), (2, .long (-1)), (4, .long 11)], [], (_, _)) _
    refine At.enter rfl ?_
    refine r_lload_n rfl ?_
    refine r_lload_n rfl ?_
    refine r_lcmp _ rfl ?_
    refine r_ifs 6 rfl (fun c297 => ?_) (fun c297 => ?_)
    · have c297_ : v296.toInt < (-1) := en_j_lt_t c297
      refine At.enter rfl ?_
      refine r_iconst 0 rfl ?_
      refine Ar.fall 18 rfl ?_
      refine At.enter rfl ?_
      refine q_iretz (by decide) ?_
      refine At.enter rfl ?_
      refine q_iretz (by decide) ?_
      refine At.enter rfl ?_
      refine r_iff 13 rfl (by decide) ?_
      refine At.enter rfl ?_
      refine r_aload_n rfl ?_
      refine r_iconst (-1) rfl ?_
      refine r_callV 18 rfl [.ref 231, .int (-1)] [] (Nat.le_of_ble_eq_true rfl) rfl (T_X11_tell_231 _ hI293 (-1) (by decide)) ?_
      rintro _ _ ⟨g298, rfl, hI299, hF300, v301, rfl, hr302⟩
      refine At.sti ?_
      have hF303 := Fr.tr hF294 hF300 rfl rfl
      have zv304 : ((-1) : Int32).toInt = (-1) := rfl
      refine At.enter rfl ?_
      refine r_ireti ?_
      obtain ⟨v305, hv305⟩ : ∃ v, eA g0 233 0 = v := ⟨_, rfl⟩
      have tv305 := congrArg Int32.toInt hv305
      have wv305 := HI.t0 hI0
      rw [hv305] at wv305
      have tv305 := congrArg Int32.toInt hv305
      have x306 := HI.eqA hI0 (p := 233) (j := 0) (hv305)
      have y307 := congrArg Int32.toInt hv305
      have x308 := HI.eqA hI299 (p := 233) (j := 0) ((((eA_c (hF300.2.1 233 ma_X11_tell_231_233)).trans (eA_c gA_sI)).trans hv305))
      obtain ⟨v309, hv309⟩ : ∃ v, eA g0 233 4 = v := ⟨_, rfl⟩
      have wv309 := HI.t4 hI0
      rw [hv309] at wv309
      have tv309 := congrArg Int32.toInt hv309
      have x310 := HI.eqA hI299 (p := 233) (j := 4) ((((eA_c (hF300.2.1 233 ma_X11_tell_231_233)).trans (eA_c gA_sI)).trans hv309))
      obtain ⟨v311, hv311⟩ : ∃ v, eA g0 233 5 = v := ⟨_, rfl⟩
      have wv311 := HI.t5 hI0
      rw [hv311] at wv311
      have tv311 := congrArg Int32.toInt hv311
      have x312 := HI.eqA hI299 (p := 233) (j := 5) ((((eA_c (hF300.2.1 233 ma_X11_tell_231_233)).trans (eA_c gA_sI)).trans hv311))
      obtain ⟨v313, hv313⟩ : ∃ v, eA g0 233 6 = v := ⟨_, rfl⟩
      have wv313 := HI.t6 hI0
      rw [hv313] at wv313
      have tv313 := congrArg Int32.toInt hv313
      have x314 := HI.eqA hI299 (p := 233) (j := 6) ((((eA_c (hF300.2.1 233 ma_X11_tell_231_233)).trans (eA_c gA_sI)).trans hv313))
      obtain ⟨v315, hv315⟩ : ∃ v, eA g0 233 1 = v := ⟨_, rfl⟩
      have tv315 := congrArg Int32.toInt hv315
      have wv315 := HI.t1 hI0
      rw [hv315] at wv315
      have tv315 := congrArg Int32.toInt hv315
      have x316 := HI.eqA hI299 (p := 233) (j := 1) ((((eA_c (hF300.2.1 233 ma_X11_tell_231_233)).trans (eA_c gA_sI)).trans hv315))
      obtain ⟨v317, hv317⟩ : ∃ v, eA g0 233 2 = v := ⟨_, rfl⟩
      have tv317 := congrArg Int32.toInt hv317
      have wv317 := HI.t2 hI0
      rw [hv317] at wv317
      have tv317 := congrArg Int32.toInt hv317
      have x318 := HI.eqA hI299 (p := 233) (j := 2) ((((eA_c (hF300.2.1 233 ma_X11_tell_231_233)).trans (eA_c gA_sI)).trans hv317))
      obtain ⟨v319, hv319⟩ : ∃ v, eA g0 233 3 = v := ⟨_, rfl⟩
      have wv319 := HI.t3 hI0
      rw [hv319] at wv319
      have tv319 := congrArg Int32.toInt hv319
      have x320 := HI.eqA hI299 (p := 233) (j := 3) ((((eA_c (hF300.2.1 233 ma_X11_tell_231_233)).trans (eA_c gA_sI)).trans hv319))
      have x321 := HI.eqA hI0 (p := 233) (j := 0) (hv305)
      have x322 := HI.eqA hI0 (p := 233) (j := 4) (hv309)
      have x323 := HI.eqA hI0 (p := 233) (j := 5) (hv311)
      have x324 := HI.eqA hI0 (p := 233) (j := 6) (hv313)
      have x325 := HI.eqA hI0 (p := 233) (j := 1) (hv315)
      have x326 := HI.eqA hI0 (p := 233) (j := 2) (hv317)
      have x327 := HI.eqA hI0 (p := 233) (j := 3) (hv319)
      have x328 := HI.eqA hI0 (p := 233) (j := 0) (hv305)
      exact ⟨_, rfl, hI299, hF303, _, rfl, by omega, ⟨⟨⟨by omega, by omega, by omega, by omega, by omega, by omega, by omega⟩, by omega, by omega, by omega⟩, (by intro i i0 i1; refine Eq.trans ?_ (if_neg (show ¬ ((((a2.toInt = 0 ∧ -1 ≤ a3.toInt ∧ a3.toInt ≤ 11) ∨ (a2.toInt = 1 ∧ 1 ≤ a3.toInt ∧ a3.toInt ≤ 9) ∨ (a2.toInt = 2 ∧ 0 ≤ a3.toInt ∧ a3.toInt ≤ 99)) ∧ 0 ≤ a1.toInt ∧ a1.toInt < (eA g0 233 0).toInt) ∧ i = 10 + 3 * a1.toInt + a2.toInt) from by omega)).symm; refine (eA_ti (((hF300.2.1 233 ma_X11_tell_231_233).trans (gA_sI)))).trans ?_; (first | with_reducible rfl | omega | exact eA_ix (by omega) | rfl))⟩⟩
    · have c297_ : v296.toInt ≥ (-1) := en_j_lt_f c297
      refine At.enter rfl ?_
      refine r_lload_n rfl ?_
      refine r_lload rfl ?_
      refine r_lcmp _ rfl ?_
      refine r_ifs 13 rfl (fun c329 => ?_) (fun c329 => ?_)
      · have c329_ : v296.toInt > 11 := en_j_gt_t c329
        refine At.enter rfl ?_
        refine r_iconst 0 rfl ?_
        refine Ar.fall 18 rfl ?_
        refine At.enter rfl ?_
        refine q_iretz (by decide) ?_
        refine At.enter rfl ?_
        refine q_iretz (by decide) ?_
        refine At.enter rfl ?_
        refine r_iff 13 rfl (by decide) ?_
        refine At.enter rfl ?_
        refine r_aload_n rfl ?_
        refine r_iconst (-1) rfl ?_
        refine r_callV 18 rfl [.ref 231, .int (-1)] [] (Nat.le_of_ble_eq_true rfl) rfl (T_X11_tell_231 _ hI293 (-1) (by decide)) ?_
        rintro _ _ ⟨g330, rfl, hI331, hF332, v333, rfl, hr334⟩
        refine At.sti ?_
        have hF335 := Fr.tr hF294 hF332 rfl rfl
        have zv336 : ((-1) : Int32).toInt = (-1) := rfl
        refine At.enter rfl ?_
        refine r_ireti ?_
        obtain ⟨v337, hv337⟩ : ∃ v, eA g0 233 0 = v := ⟨_, rfl⟩
        have tv337 := congrArg Int32.toInt hv337
        have wv337 := HI.t0 hI0
        rw [hv337] at wv337
        have tv337 := congrArg Int32.toInt hv337
        have x338 := HI.eqA hI0 (p := 233) (j := 0) (hv337)
        have y339 := congrArg Int32.toInt hv337
        have x340 := HI.eqA hI331 (p := 233) (j := 0) ((((eA_c (hF332.2.1 233 ma_X11_tell_231_233)).trans (eA_c gA_sI)).trans hv337))
        obtain ⟨v341, hv341⟩ : ∃ v, eA g0 233 4 = v := ⟨_, rfl⟩
        have wv341 := HI.t4 hI0
        rw [hv341] at wv341
        have tv341 := congrArg Int32.toInt hv341
        have x342 := HI.eqA hI331 (p := 233) (j := 4) ((((eA_c (hF332.2.1 233 ma_X11_tell_231_233)).trans (eA_c gA_sI)).trans hv341))
        obtain ⟨v343, hv343⟩ : ∃ v, eA g0 233 5 = v := ⟨_, rfl⟩
        have wv343 := HI.t5 hI0
        rw [hv343] at wv343
        have tv343 := congrArg Int32.toInt hv343
        have x344 := HI.eqA hI331 (p := 233) (j := 5) ((((eA_c (hF332.2.1 233 ma_X11_tell_231_233)).trans (eA_c gA_sI)).trans hv343))
        obtain ⟨v345, hv345⟩ : ∃ v, eA g0 233 6 = v := ⟨_, rfl⟩
        have wv345 := HI.t6 hI0
        rw [hv345] at wv345
        have tv345 := congrArg Int32.toInt hv345
        have x346 := HI.eqA hI331 (p := 233) (j := 6) ((((eA_c (hF332.2.1 233 ma_X11_tell_231_233)).trans (eA_c gA_sI)).trans hv345))
        obtain ⟨v347, hv347⟩ : ∃ v, eA g0 233 1 = v := ⟨_, rfl⟩
        have tv347 := congrArg Int32.toInt hv347
        have wv347 := HI.t1 hI0
        rw [hv347] at wv347
        have tv347 := congrArg Int32.toInt hv347
        have x348 := HI.eqA hI331 (p := 233) (j := 1) ((((eA_c (hF332.2.1 233 ma_X11_tell_231_233)).trans (eA_c gA_sI)).trans hv347))
        obtain ⟨v349, hv349⟩ : ∃ v, eA g0 233 2 = v := ⟨_, rfl⟩
        have tv349 := congrArg Int32.toInt hv349
        have wv349 := HI.t2 hI0
        rw [hv349] at wv349
        have tv349 := congrArg Int32.toInt hv349
        have x350 := HI.eqA hI331 (p := 233) (j := 2) ((((eA_c (hF332.2.1 233 ma_X11_tell_231_233)).trans (eA_c gA_sI)).trans hv349))
        obtain ⟨v351, hv351⟩ : ∃ v, eA g0 233 3 = v := ⟨_, rfl⟩
        have wv351 := HI.t3 hI0
        rw [hv351] at wv351
        have tv351 := congrArg Int32.toInt hv351
        have x352 := HI.eqA hI331 (p := 233) (j := 3) ((((eA_c (hF332.2.1 233 ma_X11_tell_231_233)).trans (eA_c gA_sI)).trans hv351))
        have x353 := HI.eqA hI0 (p := 233) (j := 0) (hv337)
        have x354 := HI.eqA hI0 (p := 233) (j := 4) (hv341)
        have x355 := HI.eqA hI0 (p := 233) (j := 5) (hv343)
        have x356 := HI.eqA hI0 (p := 233) (j := 6) (hv345)
        have x357 := HI.eqA hI0 (p := 233) (j := 1) (hv347)
        have x358 := HI.eqA hI0 (p := 233) (j := 2) (hv349)
        have x359 := HI.eqA hI0 (p := 233) (j := 3) (hv351)
        have x360 := HI.eqA hI0 (p := 233) (j := 0) (hv337)
        exact ⟨_, rfl, hI331, hF335, _, rfl, by omega, ⟨⟨⟨by omega, by omega, by omega, by omega, by omega, by omega, by omega⟩, by omega, by omega, by omega⟩, (by intro i i0 i1; refine Eq.trans ?_ (if_neg (show ¬ ((((a2.toInt = 0 ∧ -1 ≤ a3.toInt ∧ a3.toInt ≤ 11) ∨ (a2.toInt = 1 ∧ 1 ≤ a3.toInt ∧ a3.toInt ≤ 9) ∨ (a2.toInt = 2 ∧ 0 ≤ a3.toInt ∧ a3.toInt ≤ 99)) ∧ 0 ≤ a1.toInt ∧ a1.toInt < (eA g0 233 0).toInt) ∧ i = 10 + 3 * a1.toInt + a2.toInt) from by omega)).symm; refine (eA_ti (((hF332.2.1 233 ma_X11_tell_231_233).trans (gA_sI)))).trans ?_; (first | with_reducible rfl | omega | exact eA_ix (by omega) | rfl))⟩⟩
      · have c329_ : v296.toInt ≤ 11 := en_j_gt_f c329
        refine At.enter rfl ?_
        refine r_iconst 1 rfl ?_
        refine r_goto ?_
        refine At.enter rfl ?_
        refine q_iretz (by decide) ?_
        refine At.enter rfl ?_
        refine q_iretz (by decide) ?_
        refine At.enter rfl ?_
        refine r_ift (by decide) ?_
        refine At.enter rfl ?_
        refine r_aload_n rfl ?_
        refine r_iload_n rfl ?_
        refine q_inlV 24 rfl [.ref 231, .int a1] [] (Nat.le_of_ble_eq_true rfl) rfl ?_
        refine Ev.mk rfl rfl ⟨Nat.le_of_ble_eq_true rfl, Or.inr (q_rc hI293.1 kx_231 rfl)⟩ ?_
        show At _ none _ _ (0, [(0, .ref 231), (1, .int a1)], [], (_, _)) _
        refine At.enter rfl ?_
        refine r_iload_n rfl ?_
        refine q_i2l (fun v361 hv361 => ?_)
        refine r_lconst 0 rfl ?_
        refine r_aload_n rfl ?_
        refine q_getR (Sh.ref hI293.1 kx_231 rfl) ?_
        refine r_iconst 0 rfl ?_
        obtain ⟨v362, hv362⟩ : ∃ v, eA g0 233 0 = v := ⟨_, rfl⟩
        have tv362 := congrArg Int32.toInt hv362
        have wv362 := HI.t0 hI0
        rw [hv362] at wv362
        refine q_iald (Sh.arr hI293.1 ka_233) 0 rfl (by decide) v362 ((eA_c (gA_sI)).trans hv362) ?_
        refine q_i2l (fun v363 hv363 => ?_)
        refine r_lconst 1 rfl ?_
        refine q_lsub (v363.toInt - 1) rfl (by omega) (fun v364 hv364 => ?_)
        refine q_inlS 15 rfl [.long v361, .long 0, .long v364] [] (Nat.le_of_ble_eq_true rfl) rfl ?_
        refine Ev.mk rfl rfl ⟨Nat.le_of_ble_eq_true rfl, Or.inl rfl⟩ ?_
        show At _ none _ _ (0, [(0, .long v361), (2, .long 0), (4, .long v364)], [], (_, _)) _
        refine At.enter rfl ?_
        refine r_lload_n rfl ?_
        refine r_lload_n rfl ?_
        refine r_lcmp _ rfl ?_
        refine r_ifs 6 rfl (fun c365 => ?_) (fun c365 => ?_)
        · have c365_ : v361.toInt < 0 := en_j_lt_t c365
          refine At.enter rfl ?_
          refine r_iconst 0 rfl ?_
          refine Ar.fall 18 rfl ?_
          refine At.enter rfl ?_
          refine q_iretz (by decide) ?_
          refine At.enter rfl ?_
          refine q_iretz (by decide) ?_
          refine At.enter rfl ?_
          refine r_ift (by decide) ?_
          refine At.enter rfl ?_
          refine r_aload_n rfl ?_
          refine r_bipush (-2) rfl ?_
          refine r_callV 49 rfl [.ref 231, .int (-2)] [] (Nat.le_of_ble_eq_true rfl) rfl (T_X11_tell_231 _ hI293 (-2) (by decide)) ?_
          rintro _ _ ⟨g366, rfl, hI367, hF368, v369, rfl, hr370⟩
          refine At.sti ?_
          have hF371 := Fr.tr hF294 hF368 rfl rfl
          have zv372 : ((-2) : Int32).toInt = (-2) := rfl
          refine At.enter rfl ?_
          refine r_ireti ?_
          have x373 := HI.eqA hI0 (p := 233) (j := 0) (hv362)
          have y374 := congrArg Int32.toInt hv362
          have x375 := HI.eqA hI367 (p := 233) (j := 0) ((((eA_c (hF368.2.1 233 ma_X11_tell_231_233)).trans (eA_c gA_sI)).trans hv362))
          obtain ⟨v376, hv376⟩ : ∃ v, eA g0 233 4 = v := ⟨_, rfl⟩
          have wv376 := HI.t4 hI0
          rw [hv376] at wv376
          have tv376 := congrArg Int32.toInt hv376
          have x377 := HI.eqA hI367 (p := 233) (j := 4) ((((eA_c (hF368.2.1 233 ma_X11_tell_231_233)).trans (eA_c gA_sI)).trans hv376))
          obtain ⟨v378, hv378⟩ : ∃ v, eA g0 233 5 = v := ⟨_, rfl⟩
          have wv378 := HI.t5 hI0
          rw [hv378] at wv378
          have tv378 := congrArg Int32.toInt hv378
          have x379 := HI.eqA hI367 (p := 233) (j := 5) ((((eA_c (hF368.2.1 233 ma_X11_tell_231_233)).trans (eA_c gA_sI)).trans hv378))
          obtain ⟨v380, hv380⟩ : ∃ v, eA g0 233 6 = v := ⟨_, rfl⟩
          have wv380 := HI.t6 hI0
          rw [hv380] at wv380
          have tv380 := congrArg Int32.toInt hv380
          have x381 := HI.eqA hI367 (p := 233) (j := 6) ((((eA_c (hF368.2.1 233 ma_X11_tell_231_233)).trans (eA_c gA_sI)).trans hv380))
          obtain ⟨v382, hv382⟩ : ∃ v, eA g0 233 1 = v := ⟨_, rfl⟩
          have tv382 := congrArg Int32.toInt hv382
          have wv382 := HI.t1 hI0
          rw [hv382] at wv382
          have tv382 := congrArg Int32.toInt hv382
          have x383 := HI.eqA hI367 (p := 233) (j := 1) ((((eA_c (hF368.2.1 233 ma_X11_tell_231_233)).trans (eA_c gA_sI)).trans hv382))
          obtain ⟨v384, hv384⟩ : ∃ v, eA g0 233 2 = v := ⟨_, rfl⟩
          have tv384 := congrArg Int32.toInt hv384
          have wv384 := HI.t2 hI0
          rw [hv384] at wv384
          have tv384 := congrArg Int32.toInt hv384
          have x385 := HI.eqA hI367 (p := 233) (j := 2) ((((eA_c (hF368.2.1 233 ma_X11_tell_231_233)).trans (eA_c gA_sI)).trans hv384))
          obtain ⟨v386, hv386⟩ : ∃ v, eA g0 233 3 = v := ⟨_, rfl⟩
          have wv386 := HI.t3 hI0
          rw [hv386] at wv386
          have tv386 := congrArg Int32.toInt hv386
          have x387 := HI.eqA hI367 (p := 233) (j := 3) ((((eA_c (hF368.2.1 233 ma_X11_tell_231_233)).trans (eA_c gA_sI)).trans hv386))
          have x388 := HI.eqA hI0 (p := 233) (j := 0) (hv362)
          have x389 := HI.eqA hI0 (p := 233) (j := 4) (hv376)
          have x390 := HI.eqA hI0 (p := 233) (j := 5) (hv378)
          have x391 := HI.eqA hI0 (p := 233) (j := 6) (hv380)
          have x392 := HI.eqA hI0 (p := 233) (j := 1) (hv382)
          have x393 := HI.eqA hI0 (p := 233) (j := 2) (hv384)
          have x394 := HI.eqA hI0 (p := 233) (j := 3) (hv386)
          have x395 := HI.eqA hI0 (p := 233) (j := 0) (hv362)
          exact ⟨_, rfl, hI367, hF371, _, rfl, by omega, ⟨⟨⟨by omega, by omega, by omega, by omega, by omega, by omega, by omega⟩, by omega, by omega, by omega⟩, (by intro i i0 i1; refine Eq.trans ?_ (if_neg (show ¬ ((((a2.toInt = 0 ∧ -1 ≤ a3.toInt ∧ a3.toInt ≤ 11) ∨ (a2.toInt = 1 ∧ 1 ≤ a3.toInt ∧ a3.toInt ≤ 9) ∨ (a2.toInt = 2 ∧ 0 ≤ a3.toInt ∧ a3.toInt ≤ 99)) ∧ 0 ≤ a1.toInt ∧ a1.toInt < (eA g0 233 0).toInt) ∧ i = 10 + 3 * a1.toInt + a2.toInt) from by omega)).symm; refine (eA_ti (((hF368.2.1 233 ma_X11_tell_231_233).trans (gA_sI)))).trans ?_; (first | with_reducible rfl | omega | exact eA_ix (by omega) | rfl))⟩⟩
        · have c365_ : v361.toInt ≥ 0 := en_j_lt_f c365
          refine At.enter rfl ?_
          refine r_lload_n rfl ?_
          refine r_lload rfl ?_
          refine r_lcmp _ rfl ?_
          refine r_ifs 13 rfl (fun c396 => ?_) (fun c396 => ?_)
          · have c396_ : v361.toInt > v364.toInt := en_j_gt_t c396
            refine At.enter rfl ?_
            refine r_iconst 0 rfl ?_
            refine Ar.fall 18 rfl ?_
            refine At.enter rfl ?_
            refine q_iretz (by decide) ?_
            refine At.enter rfl ?_
            refine q_iretz (by decide) ?_
            refine At.enter rfl ?_
            refine r_ift (by decide) ?_
            refine At.enter rfl ?_
            refine r_aload_n rfl ?_
            refine r_bipush (-2) rfl ?_
            refine r_callV 49 rfl [.ref 231, .int (-2)] [] (Nat.le_of_ble_eq_true rfl) rfl (T_X11_tell_231 _ hI293 (-2) (by decide)) ?_
            rintro _ _ ⟨g397, rfl, hI398, hF399, v400, rfl, hr401⟩
            refine At.sti ?_
            have hF402 := Fr.tr hF294 hF399 rfl rfl
            have zv403 : ((-2) : Int32).toInt = (-2) := rfl
            refine At.enter rfl ?_
            refine r_ireti ?_
            have x404 := HI.eqA hI0 (p := 233) (j := 0) (hv362)
            have y405 := congrArg Int32.toInt hv362
            have x406 := HI.eqA hI398 (p := 233) (j := 0) ((((eA_c (hF399.2.1 233 ma_X11_tell_231_233)).trans (eA_c gA_sI)).trans hv362))
            obtain ⟨v407, hv407⟩ : ∃ v, eA g0 233 4 = v := ⟨_, rfl⟩
            have wv407 := HI.t4 hI0
            rw [hv407] at wv407
            have tv407 := congrArg Int32.toInt hv407
            have x408 := HI.eqA hI398 (p := 233) (j := 4) ((((eA_c (hF399.2.1 233 ma_X11_tell_231_233)).trans (eA_c gA_sI)).trans hv407))
            obtain ⟨v409, hv409⟩ : ∃ v, eA g0 233 5 = v := ⟨_, rfl⟩
            have wv409 := HI.t5 hI0
            rw [hv409] at wv409
            have tv409 := congrArg Int32.toInt hv409
            have x410 := HI.eqA hI398 (p := 233) (j := 5) ((((eA_c (hF399.2.1 233 ma_X11_tell_231_233)).trans (eA_c gA_sI)).trans hv409))
            obtain ⟨v411, hv411⟩ : ∃ v, eA g0 233 6 = v := ⟨_, rfl⟩
            have wv411 := HI.t6 hI0
            rw [hv411] at wv411
            have tv411 := congrArg Int32.toInt hv411
            have x412 := HI.eqA hI398 (p := 233) (j := 6) ((((eA_c (hF399.2.1 233 ma_X11_tell_231_233)).trans (eA_c gA_sI)).trans hv411))
            obtain ⟨v413, hv413⟩ : ∃ v, eA g0 233 1 = v := ⟨_, rfl⟩
            have tv413 := congrArg Int32.toInt hv413
            have wv413 := HI.t1 hI0
            rw [hv413] at wv413
            have tv413 := congrArg Int32.toInt hv413
            have x414 := HI.eqA hI398 (p := 233) (j := 1) ((((eA_c (hF399.2.1 233 ma_X11_tell_231_233)).trans (eA_c gA_sI)).trans hv413))
            obtain ⟨v415, hv415⟩ : ∃ v, eA g0 233 2 = v := ⟨_, rfl⟩
            have tv415 := congrArg Int32.toInt hv415
            have wv415 := HI.t2 hI0
            rw [hv415] at wv415
            have tv415 := congrArg Int32.toInt hv415
            have x416 := HI.eqA hI398 (p := 233) (j := 2) ((((eA_c (hF399.2.1 233 ma_X11_tell_231_233)).trans (eA_c gA_sI)).trans hv415))
            obtain ⟨v417, hv417⟩ : ∃ v, eA g0 233 3 = v := ⟨_, rfl⟩
            have wv417 := HI.t3 hI0
            rw [hv417] at wv417
            have tv417 := congrArg Int32.toInt hv417
            have x418 := HI.eqA hI398 (p := 233) (j := 3) ((((eA_c (hF399.2.1 233 ma_X11_tell_231_233)).trans (eA_c gA_sI)).trans hv417))
            have x419 := HI.eqA hI0 (p := 233) (j := 0) (hv362)
            have x420 := HI.eqA hI0 (p := 233) (j := 4) (hv407)
            have x421 := HI.eqA hI0 (p := 233) (j := 5) (hv409)
            have x422 := HI.eqA hI0 (p := 233) (j := 6) (hv411)
            have x423 := HI.eqA hI0 (p := 233) (j := 1) (hv413)
            have x424 := HI.eqA hI0 (p := 233) (j := 2) (hv415)
            have x425 := HI.eqA hI0 (p := 233) (j := 3) (hv417)
            have x426 := HI.eqA hI0 (p := 233) (j := 0) (hv362)
            exact ⟨_, rfl, hI398, hF402, _, rfl, by omega, ⟨⟨⟨by omega, by omega, by omega, by omega, by omega, by omega, by omega⟩, by omega, by omega, by omega⟩, (by intro i i0 i1; refine Eq.trans ?_ (if_neg (show ¬ ((((a2.toInt = 0 ∧ -1 ≤ a3.toInt ∧ a3.toInt ≤ 11) ∨ (a2.toInt = 1 ∧ 1 ≤ a3.toInt ∧ a3.toInt ≤ 9) ∨ (a2.toInt = 2 ∧ 0 ≤ a3.toInt ∧ a3.toInt ≤ 99)) ∧ 0 ≤ a1.toInt ∧ a1.toInt < (eA g0 233 0).toInt) ∧ i = 10 + 3 * a1.toInt + a2.toInt) from by omega)).symm; refine (eA_ti (((hF399.2.1 233 ma_X11_tell_231_233).trans (gA_sI)))).trans ?_; (first | with_reducible rfl | omega | exact eA_ix (by omega) | rfl))⟩⟩
          · have c396_ : v361.toInt ≤ v364.toInt := en_j_gt_f c396
            refine At.enter rfl ?_
            refine r_iconst 1 rfl ?_
            refine r_goto ?_
            refine At.enter rfl ?_
            refine q_iretz (by decide) ?_
            refine At.enter rfl ?_
            refine q_iretz (by decide) ?_
            refine At.enter rfl ?_
            refine r_iff 27 rfl (by decide) ?_
            refine At.enter rfl ?_
            refine r_aload_n rfl ?_
            refine r_bipush 10 rfl ?_
            refine r_iconst 3 rfl ?_
            refine r_iload_n rfl ?_
            refine q_imul (3 * a1.toInt) rfl (by omega) (fun v427 hv427 => ?_)
            refine q_iadd (10 + v427.toInt) rfl (by omega) (fun v428 hv428 => ?_)
            refine r_iload_n rfl ?_
            refine q_iadd (v428.toInt + a2.toInt) rfl (by omega) (fun v429 hv429 => ?_)
            refine r_iload_n rfl ?_
            refine q_inlV 40 rfl [.ref 231, .int v429, .int a3] [] (Nat.le_of_ble_eq_true rfl) rfl ?_
            refine Ev.mk rfl rfl ⟨Nat.le_of_ble_eq_true rfl, Or.inr (q_rc hI293.1 kx_231 rfl)⟩ ?_
            show At _ none _ _ (0, [(0, .ref 231), (1, .int v429), (2, .int a3)], [], (_, _)) _
            refine At.enter rfl ?_
            refine r_aload_n rfl ?_
            refine q_getR (Sh.ref hI293.1 kx_231 rfl) ?_
            refine r_iload_n rfl ?_
            obtain ⟨v430, hv430⟩ : ∃ v, eA g0 233 (3 * a1.toInt + a2.toInt + 10) = v := ⟨_, rfl⟩
            have wv430 := HI.s0 hI0 (j := (3 * a1.toInt + a2.toInt + 10)) (a1.toInt) (by omega) (by omega)
            rw [hv430] at wv430
            refine q_iald (Sh.arr hI293.1 ka_233) (3 * a1.toInt + a2.toInt + 10) (by omega) (by omega) v430 ((eA_c (gA_sI)).trans hv430) ?_
            refine r_istore_n ([(3, .int v430), (0, .ref 231), (1, .int v429), (2, .int a3)]) rfl ?_
            refine r_aload_n rfl ?_
            refine q_getR (Sh.ref hI293.1 kx_231 rfl) ?_
            refine r_iload_n rfl ?_
            refine r_iload_n rfl ?_
            refine q_iast (Sh.arr hI293.1 ka_233) ((3 * a1.toInt + a2.toInt + 10)) (by omega) (by omega) ?_
            have hI431 := HI.ws hI293 (j := (3 * a1.toInt + a2.toInt + 10)) (v := a3) (a1.toInt) 0 (by omega) (by decide) (by omega) (by omega)
            have hF432 := Fr.wA (p := 233) (j := (3 * a1.toInt + a2.toInt + 10)) (v := a3) hF294 rfl
            refine r_aload_n rfl ?_
            refine r_iload_n rfl ?_
            refine q_inlV 19 rfl [.ref 231, .int v430] [] (Nat.le_of_ble_eq_true rfl) rfl ?_
            refine Ev.mk rfl rfl ⟨Nat.le_of_ble_eq_true rfl, Or.inr (q_rc hI431.1 kx_231 rfl)⟩ ?_
            show At _ none _ _ (0, [(0, .ref 231), (1, .int v430)], [], (_, _)) _
            refine At.enter rfl ?_
            refine r_aload_n rfl ?_
            refine r_iconst 0 rfl ?_
            refine q_putI (Sh.int hI431.1 kx_231 rfl) rfl ?_
            have hI433 := HI.wI0 hI431 kx_231 rfl (p := 231) (b := 1) (v := 0) rfl
            have hF434 := Fr.wI (p := 231) (b := 1) (v := 0) hF432 rfl
            refine r_iload_n rfl ?_
            refine q_ireti ?_
            refine At.enter rfl ?_
            refine q_ireti ?_
            refine At.enter rfl ?_
            refine r_goto ?_
            refine At.enter rfl ?_
            refine r_ireti ?_
            have x435 := HI.eqA hI0 (p := 233) (j := 0) (hv362)
            have y436 := congrArg Int32.toInt hv362
            have y437 := (eA_ix (g := g0) (p := 233) (show 10 + 3 * a1.toInt + a2.toInt = (3 * a1.toInt + a2.toInt + 10) from by omega)).trans (congrArg Int32.toInt hv430)
            have x438 := HI.eqA hI433 (p := 233) (j := 0) ((((eA_c gA_sI).trans ((eA_sA_ne hI293.1 ka_233 (by first | decide | omega) (by first | decide | omega) (by first | decide | omega)).trans (eA_c gA_sI))).trans hv362))
            obtain ⟨v439, hv439⟩ : ∃ v, eA g0 233 4 = v := ⟨_, rfl⟩
            have wv439 := HI.t4 hI0
            rw [hv439] at wv439
            have tv439 := congrArg Int32.toInt hv439
            have x440 := HI.eqA hI433 (p := 233) (j := 4) ((((eA_c gA_sI).trans ((eA_sA_ne hI293.1 ka_233 (by first | decide | omega) (by first | decide | omega) (by first | decide | omega)).trans (eA_c gA_sI))).trans hv439))
            obtain ⟨v441, hv441⟩ : ∃ v, eA g0 233 5 = v := ⟨_, rfl⟩
            have wv441 := HI.t5 hI0
            rw [hv441] at wv441
            have tv441 := congrArg Int32.toInt hv441
            have x442 := HI.eqA hI433 (p := 233) (j := 5) ((((eA_c gA_sI).trans ((eA_sA_ne hI293.1 ka_233 (by first | decide | omega) (by first | decide | omega) (by first | decide | omega)).trans (eA_c gA_sI))).trans hv441))
            obtain ⟨v443, hv443⟩ : ∃ v, eA g0 233 6 = v := ⟨_, rfl⟩
            have wv443 := HI.t6 hI0
            rw [hv443] at wv443
            have tv443 := congrArg Int32.toInt hv443
            have x444 := HI.eqA hI433 (p := 233) (j := 6) ((((eA_c gA_sI).trans ((eA_sA_ne hI293.1 ka_233 (by first | decide | omega) (by first | decide | omega) (by first | decide | omega)).trans (eA_c gA_sI))).trans hv443))
            obtain ⟨v445, hv445⟩ : ∃ v, eA g0 233 1 = v := ⟨_, rfl⟩
            have tv445 := congrArg Int32.toInt hv445
            have wv445 := HI.t1 hI0
            rw [hv445] at wv445
            have tv445 := congrArg Int32.toInt hv445
            have x446 := HI.eqA hI433 (p := 233) (j := 1) ((((eA_c gA_sI).trans ((eA_sA_ne hI293.1 ka_233 (by first | decide | omega) (by first | decide | omega) (by first | decide | omega)).trans (eA_c gA_sI))).trans hv445))
            obtain ⟨v447, hv447⟩ : ∃ v, eA g0 233 2 = v := ⟨_, rfl⟩
            have tv447 := congrArg Int32.toInt hv447
            have wv447 := HI.t2 hI0
            rw [hv447] at wv447
            have tv447 := congrArg Int32.toInt hv447
            have x448 := HI.eqA hI433 (p := 233) (j := 2) ((((eA_c gA_sI).trans ((eA_sA_ne hI293.1 ka_233 (by first | decide | omega) (by first | decide | omega) (by first | decide | omega)).trans (eA_c gA_sI))).trans hv447))
            obtain ⟨v449, hv449⟩ : ∃ v, eA g0 233 3 = v := ⟨_, rfl⟩
            have wv449 := HI.t3 hI0
            rw [hv449] at wv449
            have tv449 := congrArg Int32.toInt hv449
            have x450 := HI.eqA hI433 (p := 233) (j := 3) ((((eA_c gA_sI).trans ((eA_sA_ne hI293.1 ka_233 (by first | decide | omega) (by first | decide | omega) (by first | decide | omega)).trans (eA_c gA_sI))).trans hv449))
            have x451 := HI.eqA hI0 (p := 233) (j := 0) (hv362)
            have x452 := HI.eqA hI0 (p := 233) (j := 4) (hv439)
            have x453 := HI.eqA hI0 (p := 233) (j := 5) (hv441)
            have x454 := HI.eqA hI0 (p := 233) (j := 6) (hv443)
            have x455 := HI.eqA hI0 (p := 233) (j := 1) (hv445)
            have x456 := HI.eqA hI0 (p := 233) (j := 2) (hv447)
            have x457 := HI.eqA hI0 (p := 233) (j := 3) (hv449)
            have x458 := HI.eqA hI0 (p := 233) (j := 0) (hv362)
            exact ⟨_, rfl, hI433, hF434, _, rfl, by omega, ⟨⟨⟨by omega, by omega, by omega, by omega, by omega, by omega, by omega⟩, by omega, by omega, by omega⟩, (by intro i i0 i1; exact (Decidable.em ((((a2.toInt = 0 ∧ -1 ≤ a3.toInt ∧ a3.toInt ≤ 11) ∨ (a2.toInt = 1 ∧ 1 ≤ a3.toInt ∧ a3.toInt ≤ 9) ∨ (a2.toInt = 2 ∧ 0 ≤ a3.toInt ∧ a3.toInt ≤ 99)) ∧ 0 ≤ a1.toInt ∧ a1.toInt < (eA g0 233 0).toInt) ∧ i = 10 + 3 * a1.toInt + a2.toInt)).elim (fun k162_ => by refine Eq.trans ?_ (if_pos k162_).symm; refine (eA_ti ((gA_sI))).trans ?_; exact (Decidable.em (i = (3 * a1.toInt + a2.toInt + 10))).elim (fun k163_ => by refine (eA_eqT hI293.1 ka_233 k163_ (by first | decide | omega) (by first | decide | omega)).trans ?_; (first | (with_reducible rfl) | (omega) | (rfl))) (fun k163_ => by refine (eA_neT hI293.1 ka_233 k163_ (by first | decide | omega) (by omega)).trans ?_; refine (eA_ti ((gA_sI))).trans ?_; (first | with_reducible rfl | omega | exact eA_ix (by omega) | rfl))) (fun k162_ => by refine Eq.trans ?_ (if_neg k162_).symm; refine (eA_ti ((gA_sI))).trans ?_; exact (Decidable.em (i = (3 * a1.toInt + a2.toInt + 10))).elim (fun k164_ => by refine (eA_eqT hI293.1 ka_233 k164_ (by first | decide | omega) (by first | decide | omega)).trans ?_; (first | (with_reducible rfl) | (omega) | (rfl))) (fun k164_ => by refine (eA_neT hI293.1 ka_233 k164_ (by first | decide | omega) (by omega)).trans ?_; refine (eA_ti ((gA_sI))).trans ?_; (first | with_reducible rfl | omega | exact eA_ix (by omega) | rfl))))⟩⟩
  by_cases c295_1 : a2.toInt = 1
  · refine r_tsw 40 (by rw [c295_1]; rfl) ?_
    refine At.enter rfl ?_
    refine r_iload_n rfl ?_
    refine q_i2l (fun v459 hv459 => ?_)
    refine r_lconst 1 rfl ?_
    refine r_ldc2 9 rfl ?_
    refine q_inlS 49 rfl [.long v459, .long 1, .long 9] [] (Nat.le_of_ble_eq_true rfl) rfl ?_
    refine Ev.mk rfl rfl ⟨Nat.le_of_ble_eq_true rfl, Or.inl rfl⟩ ?_
    show At _ none _ _ (0, [(0, .long v459), (2, .long 1), (4, .long 9)], [], (_, _)) _
    refine At.enter rfl ?_
    refine r_lload_n rfl ?_
    refine r_lload_n rfl ?_
    refine r_lcmp _ rfl ?_
    refine r_ifs 6 rfl (fun c460 => ?_) (fun c460 => ?_)
    · have c460_ : v459.toInt < 1 := en_j_lt_t c460
      refine At.enter rfl ?_
      refine r_iconst 0 rfl ?_
      refine Ar.fall 18 rfl ?_
      refine At.enter rfl ?_
      refine q_iretz (by decide) ?_
      refine At.enter rfl ?_
      refine q_iretz (by decide) ?_
      refine At.enter rfl ?_
      refine r_iff 13 rfl (by decide) ?_
      refine At.enter rfl ?_
      refine r_aload_n rfl ?_
      refine r_iconst (-1) rfl ?_
      refine r_callV 18 rfl [.ref 231, .int (-1)] [] (Nat.le_of_ble_eq_true rfl) rfl (T_X11_tell_231 _ hI293 (-1) (by decide)) ?_
      rintro _ _ ⟨g461, rfl, hI462, hF463, v464, rfl, hr465⟩
      refine At.sti ?_
      have hF466 := Fr.tr hF294 hF463 rfl rfl
      have zv467 : ((-1) : Int32).toInt = (-1) := rfl
      refine At.enter rfl ?_
      refine r_ireti ?_
      obtain ⟨v468, hv468⟩ : ∃ v, eA g0 233 0 = v := ⟨_, rfl⟩
      have tv468 := congrArg Int32.toInt hv468
      have wv468 := HI.t0 hI0
      rw [hv468] at wv468
      have tv468 := congrArg Int32.toInt hv468
      have x469 := HI.eqA hI0 (p := 233) (j := 0) (hv468)
      have y470 := congrArg Int32.toInt hv468
      have x471 := HI.eqA hI462 (p := 233) (j := 0) ((((eA_c (hF463.2.1 233 ma_X11_tell_231_233)).trans (eA_c gA_sI)).trans hv468))
      obtain ⟨v472, hv472⟩ : ∃ v, eA g0 233 4 = v := ⟨_, rfl⟩
      have wv472 := HI.t4 hI0
      rw [hv472] at wv472
      have tv472 := congrArg Int32.toInt hv472
      have x473 := HI.eqA hI462 (p := 233) (j := 4) ((((eA_c (hF463.2.1 233 ma_X11_tell_231_233)).trans (eA_c gA_sI)).trans hv472))
      obtain ⟨v474, hv474⟩ : ∃ v, eA g0 233 5 = v := ⟨_, rfl⟩
      have wv474 := HI.t5 hI0
      rw [hv474] at wv474
      have tv474 := congrArg Int32.toInt hv474
      have x475 := HI.eqA hI462 (p := 233) (j := 5) ((((eA_c (hF463.2.1 233 ma_X11_tell_231_233)).trans (eA_c gA_sI)).trans hv474))
      obtain ⟨v476, hv476⟩ : ∃ v, eA g0 233 6 = v := ⟨_, rfl⟩
      have wv476 := HI.t6 hI0
      rw [hv476] at wv476
      have tv476 := congrArg Int32.toInt hv476
      have x477 := HI.eqA hI462 (p := 233) (j := 6) ((((eA_c (hF463.2.1 233 ma_X11_tell_231_233)).trans (eA_c gA_sI)).trans hv476))
      obtain ⟨v478, hv478⟩ : ∃ v, eA g0 233 1 = v := ⟨_, rfl⟩
      have tv478 := congrArg Int32.toInt hv478
      have wv478 := HI.t1 hI0
      rw [hv478] at wv478
      have tv478 := congrArg Int32.toInt hv478
      have x479 := HI.eqA hI462 (p := 233) (j := 1) ((((eA_c (hF463.2.1 233 ma_X11_tell_231_233)).trans (eA_c gA_sI)).trans hv478))
      obtain ⟨v480, hv480⟩ : ∃ v, eA g0 233 2 = v := ⟨_, rfl⟩
      have tv480 := congrArg Int32.toInt hv480
      have wv480 := HI.t2 hI0
      rw [hv480] at wv480
      have tv480 := congrArg Int32.toInt hv480
      have x481 := HI.eqA hI462 (p := 233) (j := 2) ((((eA_c (hF463.2.1 233 ma_X11_tell_231_233)).trans (eA_c gA_sI)).trans hv480))
      obtain ⟨v482, hv482⟩ : ∃ v, eA g0 233 3 = v := ⟨_, rfl⟩
      have wv482 := HI.t3 hI0
      rw [hv482] at wv482
      have tv482 := congrArg Int32.toInt hv482
      have x483 := HI.eqA hI462 (p := 233) (j := 3) ((((eA_c (hF463.2.1 233 ma_X11_tell_231_233)).trans (eA_c gA_sI)).trans hv482))
      have x484 := HI.eqA hI0 (p := 233) (j := 0) (hv468)
      have x485 := HI.eqA hI0 (p := 233) (j := 4) (hv472)
      have x486 := HI.eqA hI0 (p := 233) (j := 5) (hv474)
      have x487 := HI.eqA hI0 (p := 233) (j := 6) (hv476)
      have x488 := HI.eqA hI0 (p := 233) (j := 1) (hv478)
      have x489 := HI.eqA hI0 (p := 233) (j := 2) (hv480)
      have x490 := HI.eqA hI0 (p := 233) (j := 3) (hv482)
      have x491 := HI.eqA hI0 (p := 233) (j := 0) (hv468)
      exact ⟨_, rfl, hI462, hF466, _, rfl, by omega, ⟨⟨⟨by omega, by omega, by omega, by omega, by omega, by omega, by omega⟩, by omega, by omega, by omega⟩, (by intro i i0 i1; refine Eq.trans ?_ (if_neg (show ¬ ((((a2.toInt = 0 ∧ -1 ≤ a3.toInt ∧ a3.toInt ≤ 11) ∨ (a2.toInt = 1 ∧ 1 ≤ a3.toInt ∧ a3.toInt ≤ 9) ∨ (a2.toInt = 2 ∧ 0 ≤ a3.toInt ∧ a3.toInt ≤ 99)) ∧ 0 ≤ a1.toInt ∧ a1.toInt < (eA g0 233 0).toInt) ∧ i = 10 + 3 * a1.toInt + a2.toInt) from by omega)).symm; refine (eA_ti (((hF463.2.1 233 ma_X11_tell_231_233).trans (gA_sI)))).trans ?_; (first | with_reducible rfl | omega | exact eA_ix (by omega) | rfl))⟩⟩
    · have c460_ : v459.toInt ≥ 1 := en_j_lt_f c460
      refine At.enter rfl ?_
      refine r_lload_n rfl ?_
      refine r_lload rfl ?_
      refine r_lcmp _ rfl ?_
      refine r_ifs 13 rfl (fun c492 => ?_) (fun c492 => ?_)
      · have c492_ : v459.toInt > 9 := en_j_gt_t c492
        refine At.enter rfl ?_
        refine r_iconst 0 rfl ?_
        refine Ar.fall 18 rfl ?_
        refine At.enter rfl ?_
        refine q_iretz (by decide) ?_
        refine At.enter rfl ?_
        refine q_iretz (by decide) ?_
        refine At.enter rfl ?_
        refine r_iff 13 rfl (by decide) ?_
        refine At.enter rfl ?_
        refine r_aload_n rfl ?_
        refine r_iconst (-1) rfl ?_
        refine r_callV 18 rfl [.ref 231, .int (-1)] [] (Nat.le_of_ble_eq_true rfl) rfl (T_X11_tell_231 _ hI293 (-1) (by decide)) ?_
        rintro _ _ ⟨g493, rfl, hI494, hF495, v496, rfl, hr497⟩
        refine At.sti ?_
        have hF498 := Fr.tr hF294 hF495 rfl rfl
        have zv499 : ((-1) : Int32).toInt = (-1) := rfl
        refine At.enter rfl ?_
        refine r_ireti ?_
        obtain ⟨v500, hv500⟩ : ∃ v, eA g0 233 0 = v := ⟨_, rfl⟩
        have tv500 := congrArg Int32.toInt hv500
        have wv500 := HI.t0 hI0
        rw [hv500] at wv500
        have tv500 := congrArg Int32.toInt hv500
        have x501 := HI.eqA hI0 (p := 233) (j := 0) (hv500)
        have y502 := congrArg Int32.toInt hv500
        have x503 := HI.eqA hI494 (p := 233) (j := 0) ((((eA_c (hF495.2.1 233 ma_X11_tell_231_233)).trans (eA_c gA_sI)).trans hv500))
        obtain ⟨v504, hv504⟩ : ∃ v, eA g0 233 4 = v := ⟨_, rfl⟩
        have wv504 := HI.t4 hI0
        rw [hv504] at wv504
        have tv504 := congrArg Int32.toInt hv504
        have x505 := HI.eqA hI494 (p := 233) (j := 4) ((((eA_c (hF495.2.1 233 ma_X11_tell_231_233)).trans (eA_c gA_sI)).trans hv504))
        obtain ⟨v506, hv506⟩ : ∃ v, eA g0 233 5 = v := ⟨_, rfl⟩
        have wv506 := HI.t5 hI0
        rw [hv506] at wv506
        have tv506 := congrArg Int32.toInt hv506
        have x507 := HI.eqA hI494 (p := 233) (j := 5) ((((eA_c (hF495.2.1 233 ma_X11_tell_231_233)).trans (eA_c gA_sI)).trans hv506))
        obtain ⟨v508, hv508⟩ : ∃ v, eA g0 233 6 = v := ⟨_, rfl⟩
        have wv508 := HI.t6 hI0
        rw [hv508] at wv508
        have tv508 := congrArg Int32.toInt hv508
        have x509 := HI.eqA hI494 (p := 233) (j := 6) ((((eA_c (hF495.2.1 233 ma_X11_tell_231_233)).trans (eA_c gA_sI)).trans hv508))
        obtain ⟨v510, hv510⟩ : ∃ v, eA g0 233 1 = v := ⟨_, rfl⟩
        have tv510 := congrArg Int32.toInt hv510
        have wv510 := HI.t1 hI0
        rw [hv510] at wv510
        have tv510 := congrArg Int32.toInt hv510
        have x511 := HI.eqA hI494 (p := 233) (j := 1) ((((eA_c (hF495.2.1 233 ma_X11_tell_231_233)).trans (eA_c gA_sI)).trans hv510))
        obtain ⟨v512, hv512⟩ : ∃ v, eA g0 233 2 = v := ⟨_, rfl⟩
        have tv512 := congrArg Int32.toInt hv512
        have wv512 := HI.t2 hI0
        rw [hv512] at wv512
        have tv512 := congrArg Int32.toInt hv512
        have x513 := HI.eqA hI494 (p := 233) (j := 2) ((((eA_c (hF495.2.1 233 ma_X11_tell_231_233)).trans (eA_c gA_sI)).trans hv512))
        obtain ⟨v514, hv514⟩ : ∃ v, eA g0 233 3 = v := ⟨_, rfl⟩
        have wv514 := HI.t3 hI0
        rw [hv514] at wv514
        have tv514 := congrArg Int32.toInt hv514
        have x515 := HI.eqA hI494 (p := 233) (j := 3) ((((eA_c (hF495.2.1 233 ma_X11_tell_231_233)).trans (eA_c gA_sI)).trans hv514))
        have x516 := HI.eqA hI0 (p := 233) (j := 0) (hv500)
        have x517 := HI.eqA hI0 (p := 233) (j := 4) (hv504)
        have x518 := HI.eqA hI0 (p := 233) (j := 5) (hv506)
        have x519 := HI.eqA hI0 (p := 233) (j := 6) (hv508)
        have x520 := HI.eqA hI0 (p := 233) (j := 1) (hv510)
        have x521 := HI.eqA hI0 (p := 233) (j := 2) (hv512)
        have x522 := HI.eqA hI0 (p := 233) (j := 3) (hv514)
        have x523 := HI.eqA hI0 (p := 233) (j := 0) (hv500)
        exact ⟨_, rfl, hI494, hF498, _, rfl, by omega, ⟨⟨⟨by omega, by omega, by omega, by omega, by omega, by omega, by omega⟩, by omega, by omega, by omega⟩, (by intro i i0 i1; refine Eq.trans ?_ (if_neg (show ¬ ((((a2.toInt = 0 ∧ -1 ≤ a3.toInt ∧ a3.toInt ≤ 11) ∨ (a2.toInt = 1 ∧ 1 ≤ a3.toInt ∧ a3.toInt ≤ 9) ∨ (a2.toInt = 2 ∧ 0 ≤ a3.toInt ∧ a3.toInt ≤ 99)) ∧ 0 ≤ a1.toInt ∧ a1.toInt < (eA g0 233 0).toInt) ∧ i = 10 + 3 * a1.toInt + a2.toInt) from by omega)).symm; refine (eA_ti (((hF495.2.1 233 ma_X11_tell_231_233).trans (gA_sI)))).trans ?_; (first | with_reducible rfl | omega | exact eA_ix (by omega) | rfl))⟩⟩
      · have c492_ : v459.toInt ≤ 9 := en_j_gt_f c492
        refine At.enter rfl ?_
        refine r_iconst 1 rfl ?_
        refine r_goto ?_
        refine At.enter rfl ?_
        refine q_iretz (by decide) ?_
        refine At.enter rfl ?_
        refine q_iretz (by decide) ?_
        refine At.enter rfl ?_
        refine r_ift (by decide) ?_
        refine At.enter rfl ?_
        refine r_aload_n rfl ?_
        refine r_iload_n rfl ?_
        refine q_inlV 24 rfl [.ref 231, .int a1] [] (Nat.le_of_ble_eq_true rfl) rfl ?_
        refine Ev.mk rfl rfl ⟨Nat.le_of_ble_eq_true rfl, Or.inr (q_rc hI293.1 kx_231 rfl)⟩ ?_
        show At _ none _ _ (0, [(0, .ref 231), (1, .int a1)], [], (_, _)) _
        refine At.enter rfl ?_
        refine r_iload_n rfl ?_
        refine q_i2l (fun v524 hv524 => ?_)
        refine r_lconst 0 rfl ?_
        refine r_aload_n rfl ?_
        refine q_getR (Sh.ref hI293.1 kx_231 rfl) ?_
        refine r_iconst 0 rfl ?_
        obtain ⟨v525, hv525⟩ : ∃ v, eA g0 233 0 = v := ⟨_, rfl⟩
        have tv525 := congrArg Int32.toInt hv525
        have wv525 := HI.t0 hI0
        rw [hv525] at wv525
        refine q_iald (Sh.arr hI293.1 ka_233) 0 rfl (by decide) v525 ((eA_c (gA_sI)).trans hv525) ?_
        refine q_i2l (fun v526 hv526 => ?_)
        refine r_lconst 1 rfl ?_
        refine q_lsub (v526.toInt - 1) rfl (by omega) (fun v527 hv527 => ?_)
        refine q_inlS 15 rfl [.long v524, .long 0, .long v527] [] (Nat.le_of_ble_eq_true rfl) rfl ?_
        refine Ev.mk rfl rfl ⟨Nat.le_of_ble_eq_true rfl, Or.inl rfl⟩ ?_
        show At _ none _ _ (0, [(0, .long v524), (2, .long 0), (4, .long v527)], [], (_, _)) _
        refine At.enter rfl ?_
        refine r_lload_n rfl ?_
        refine r_lload_n rfl ?_
        refine r_lcmp _ rfl ?_
        refine r_ifs 6 rfl (fun c528 => ?_) (fun c528 => ?_)
        · have c528_ : v524.toInt < 0 := en_j_lt_t c528
          refine At.enter rfl ?_
          refine r_iconst 0 rfl ?_
          refine Ar.fall 18 rfl ?_
          refine At.enter rfl ?_
          refine q_iretz (by decide) ?_
          refine At.enter rfl ?_
          refine q_iretz (by decide) ?_
          refine At.enter rfl ?_
          refine r_ift (by decide) ?_
          refine At.enter rfl ?_
          refine r_aload_n rfl ?_
          refine r_bipush (-2) rfl ?_
          refine r_callV 49 rfl [.ref 231, .int (-2)] [] (Nat.le_of_ble_eq_true rfl) rfl (T_X11_tell_231 _ hI293 (-2) (by decide)) ?_
          rintro _ _ ⟨g529, rfl, hI530, hF531, v532, rfl, hr533⟩
          refine At.sti ?_
          have hF534 := Fr.tr hF294 hF531 rfl rfl
          have zv535 : ((-2) : Int32).toInt = (-2) := rfl
          refine At.enter rfl ?_
          refine r_ireti ?_
          have x536 := HI.eqA hI0 (p := 233) (j := 0) (hv525)
          have y537 := congrArg Int32.toInt hv525
          have x538 := HI.eqA hI530 (p := 233) (j := 0) ((((eA_c (hF531.2.1 233 ma_X11_tell_231_233)).trans (eA_c gA_sI)).trans hv525))
          obtain ⟨v539, hv539⟩ : ∃ v, eA g0 233 4 = v := ⟨_, rfl⟩
          have wv539 := HI.t4 hI0
          rw [hv539] at wv539
          have tv539 := congrArg Int32.toInt hv539
          have x540 := HI.eqA hI530 (p := 233) (j := 4) ((((eA_c (hF531.2.1 233 ma_X11_tell_231_233)).trans (eA_c gA_sI)).trans hv539))
          obtain ⟨v541, hv541⟩ : ∃ v, eA g0 233 5 = v := ⟨_, rfl⟩
          have wv541 := HI.t5 hI0
          rw [hv541] at wv541
          have tv541 := congrArg Int32.toInt hv541
          have x542 := HI.eqA hI530 (p := 233) (j := 5) ((((eA_c (hF531.2.1 233 ma_X11_tell_231_233)).trans (eA_c gA_sI)).trans hv541))
          obtain ⟨v543, hv543⟩ : ∃ v, eA g0 233 6 = v := ⟨_, rfl⟩
          have wv543 := HI.t6 hI0
          rw [hv543] at wv543
          have tv543 := congrArg Int32.toInt hv543
          have x544 := HI.eqA hI530 (p := 233) (j := 6) ((((eA_c (hF531.2.1 233 ma_X11_tell_231_233)).trans (eA_c gA_sI)).trans hv543))
          obtain ⟨v545, hv545⟩ : ∃ v, eA g0 233 1 = v := ⟨_, rfl⟩
          have tv545 := congrArg Int32.toInt hv545
          have wv545 := HI.t1 hI0
          rw [hv545] at wv545
          have tv545 := congrArg Int32.toInt hv545
          have x546 := HI.eqA hI530 (p := 233) (j := 1) ((((eA_c (hF531.2.1 233 ma_X11_tell_231_233)).trans (eA_c gA_sI)).trans hv545))
          obtain ⟨v547, hv547⟩ : ∃ v, eA g0 233 2 = v := ⟨_, rfl⟩
          have tv547 := congrArg Int32.toInt hv547
          have wv547 := HI.t2 hI0
          rw [hv547] at wv547
          have tv547 := congrArg Int32.toInt hv547
          have x548 := HI.eqA hI530 (p := 233) (j := 2) ((((eA_c (hF531.2.1 233 ma_X11_tell_231_233)).trans (eA_c gA_sI)).trans hv547))
          obtain ⟨v549, hv549⟩ : ∃ v, eA g0 233 3 = v := ⟨_, rfl⟩
          have wv549 := HI.t3 hI0
          rw [hv549] at wv549
          have tv549 := congrArg Int32.toInt hv549
          have x550 := HI.eqA hI530 (p := 233) (j := 3) ((((eA_c (hF531.2.1 233 ma_X11_tell_231_233)).trans (eA_c gA_sI)).trans hv549))
          have x551 := HI.eqA hI0 (p := 233) (j := 0) (hv525)
          have x552 := HI.eqA hI0 (p := 233) (j := 4) (hv539)
          have x553 := HI.eqA hI0 (p := 233) (j := 5) (hv541)
          have x554 := HI.eqA hI0 (p := 233) (j := 6) (hv543)
          have x555 := HI.eqA hI0 (p := 233) (j := 1) (hv545)
          have x556 := HI.eqA hI0 (p := 233) (j := 2) (hv547)
          have x557 := HI.eqA hI0 (p := 233) (j := 3) (hv549)
          have x558 := HI.eqA hI0 (p := 233) (j := 0) (hv525)
          exact ⟨_, rfl, hI530, hF534, _, rfl, by omega, ⟨⟨⟨by omega, by omega, by omega, by omega, by omega, by omega, by omega⟩, by omega, by omega, by omega⟩, (by intro i i0 i1; refine Eq.trans ?_ (if_neg (show ¬ ((((a2.toInt = 0 ∧ -1 ≤ a3.toInt ∧ a3.toInt ≤ 11) ∨ (a2.toInt = 1 ∧ 1 ≤ a3.toInt ∧ a3.toInt ≤ 9) ∨ (a2.toInt = 2 ∧ 0 ≤ a3.toInt ∧ a3.toInt ≤ 99)) ∧ 0 ≤ a1.toInt ∧ a1.toInt < (eA g0 233 0).toInt) ∧ i = 10 + 3 * a1.toInt + a2.toInt) from by omega)).symm; refine (eA_ti (((hF531.2.1 233 ma_X11_tell_231_233).trans (gA_sI)))).trans ?_; (first | with_reducible rfl | omega | exact eA_ix (by omega) | rfl))⟩⟩
        · have c528_ : v524.toInt ≥ 0 := en_j_lt_f c528
          refine At.enter rfl ?_
          refine r_lload_n rfl ?_
          refine r_lload rfl ?_
          refine r_lcmp _ rfl ?_
          refine r_ifs 13 rfl (fun c559 => ?_) (fun c559 => ?_)
          · have c559_ : v524.toInt > v527.toInt := en_j_gt_t c559
            refine At.enter rfl ?_
            refine r_iconst 0 rfl ?_
            refine Ar.fall 18 rfl ?_
            refine At.enter rfl ?_
            refine q_iretz (by decide) ?_
            refine At.enter rfl ?_
            refine q_iretz (by decide) ?_
            refine At.enter rfl ?_
            refine r_ift (by decide) ?_
            refine At.enter rfl ?_
            refine r_aload_n rfl ?_
            refine r_bipush (-2) rfl ?_
            refine r_callV 49 rfl [.ref 231, .int (-2)] [] (Nat.le_of_ble_eq_true rfl) rfl (T_X11_tell_231 _ hI293 (-2) (by decide)) ?_
            rintro _ _ ⟨g560, rfl, hI561, hF562, v563, rfl, hr564⟩
            refine At.sti ?_
            have hF565 := Fr.tr hF294 hF562 rfl rfl
            have zv566 : ((-2) : Int32).toInt = (-2) := rfl
            refine At.enter rfl ?_
            refine r_ireti ?_
            have x567 := HI.eqA hI0 (p := 233) (j := 0) (hv525)
            have y568 := congrArg Int32.toInt hv525
            have x569 := HI.eqA hI561 (p := 233) (j := 0) ((((eA_c (hF562.2.1 233 ma_X11_tell_231_233)).trans (eA_c gA_sI)).trans hv525))
            obtain ⟨v570, hv570⟩ : ∃ v, eA g0 233 4 = v := ⟨_, rfl⟩
            have wv570 := HI.t4 hI0
            rw [hv570] at wv570
            have tv570 := congrArg Int32.toInt hv570
            have x571 := HI.eqA hI561 (p := 233) (j := 4) ((((eA_c (hF562.2.1 233 ma_X11_tell_231_233)).trans (eA_c gA_sI)).trans hv570))
            obtain ⟨v572, hv572⟩ : ∃ v, eA g0 233 5 = v := ⟨_, rfl⟩
            have wv572 := HI.t5 hI0
            rw [hv572] at wv572
            have tv572 := congrArg Int32.toInt hv572
            have x573 := HI.eqA hI561 (p := 233) (j := 5) ((((eA_c (hF562.2.1 233 ma_X11_tell_231_233)).trans (eA_c gA_sI)).trans hv572))
            obtain ⟨v574, hv574⟩ : ∃ v, eA g0 233 6 = v := ⟨_, rfl⟩
            have wv574 := HI.t6 hI0
            rw [hv574] at wv574
            have tv574 := congrArg Int32.toInt hv574
            have x575 := HI.eqA hI561 (p := 233) (j := 6) ((((eA_c (hF562.2.1 233 ma_X11_tell_231_233)).trans (eA_c gA_sI)).trans hv574))
            obtain ⟨v576, hv576⟩ : ∃ v, eA g0 233 1 = v := ⟨_, rfl⟩
            have tv576 := congrArg Int32.toInt hv576
            have wv576 := HI.t1 hI0
            rw [hv576] at wv576
            have tv576 := congrArg Int32.toInt hv576
            have x577 := HI.eqA hI561 (p := 233) (j := 1) ((((eA_c (hF562.2.1 233 ma_X11_tell_231_233)).trans (eA_c gA_sI)).trans hv576))
            obtain ⟨v578, hv578⟩ : ∃ v, eA g0 233 2 = v := ⟨_, rfl⟩
            have tv578 := congrArg Int32.toInt hv578
            have wv578 := HI.t2 hI0
            rw [hv578] at wv578
            have tv578 := congrArg Int32.toInt hv578
            have x579 := HI.eqA hI561 (p := 233) (j := 2) ((((eA_c (hF562.2.1 233 ma_X11_tell_231_233)).trans (eA_c gA_sI)).trans hv578))
            obtain ⟨v580, hv580⟩ : ∃ v, eA g0 233 3 = v := ⟨_, rfl⟩
            have wv580 := HI.t3 hI0
            rw [hv580] at wv580
            have tv580 := congrArg Int32.toInt hv580
            have x581 := HI.eqA hI561 (p := 233) (j := 3) ((((eA_c (hF562.2.1 233 ma_X11_tell_231_233)).trans (eA_c gA_sI)).trans hv580))
            have x582 := HI.eqA hI0 (p := 233) (j := 0) (hv525)
            have x583 := HI.eqA hI0 (p := 233) (j := 4) (hv570)
            have x584 := HI.eqA hI0 (p := 233) (j := 5) (hv572)
            have x585 := HI.eqA hI0 (p := 233) (j := 6) (hv574)
            have x586 := HI.eqA hI0 (p := 233) (j := 1) (hv576)
            have x587 := HI.eqA hI0 (p := 233) (j := 2) (hv578)
            have x588 := HI.eqA hI0 (p := 233) (j := 3) (hv580)
            have x589 := HI.eqA hI0 (p := 233) (j := 0) (hv525)
            exact ⟨_, rfl, hI561, hF565, _, rfl, by omega, ⟨⟨⟨by omega, by omega, by omega, by omega, by omega, by omega, by omega⟩, by omega, by omega, by omega⟩, (by intro i i0 i1; refine Eq.trans ?_ (if_neg (show ¬ ((((a2.toInt = 0 ∧ -1 ≤ a3.toInt ∧ a3.toInt ≤ 11) ∨ (a2.toInt = 1 ∧ 1 ≤ a3.toInt ∧ a3.toInt ≤ 9) ∨ (a2.toInt = 2 ∧ 0 ≤ a3.toInt ∧ a3.toInt ≤ 99)) ∧ 0 ≤ a1.toInt ∧ a1.toInt < (eA g0 233 0).toInt) ∧ i = 10 + 3 * a1.toInt + a2.toInt) from by omega)).symm; refine (eA_ti (((hF562.2.1 233 ma_X11_tell_231_233).trans (gA_sI)))).trans ?_; (first | with_reducible rfl | omega | exact eA_ix (by omega) | rfl))⟩⟩
          · have c559_ : v524.toInt ≤ v527.toInt := en_j_gt_f c559
            refine At.enter rfl ?_
            refine r_iconst 1 rfl ?_
            refine r_goto ?_
            refine At.enter rfl ?_
            refine q_iretz (by decide) ?_
            refine At.enter rfl ?_
            refine q_iretz (by decide) ?_
            refine At.enter rfl ?_
            refine r_iff 27 rfl (by decide) ?_
            refine At.enter rfl ?_
            refine r_aload_n rfl ?_
            refine r_bipush 10 rfl ?_
            refine r_iconst 3 rfl ?_
            refine r_iload_n rfl ?_
            refine q_imul (3 * a1.toInt) rfl (by omega) (fun v590 hv590 => ?_)
            refine q_iadd (10 + v590.toInt) rfl (by omega) (fun v591 hv591 => ?_)
            refine r_iload_n rfl ?_
            refine q_iadd (v591.toInt + a2.toInt) rfl (by omega) (fun v592 hv592 => ?_)
            refine r_iload_n rfl ?_
            refine q_inlV 40 rfl [.ref 231, .int v592, .int a3] [] (Nat.le_of_ble_eq_true rfl) rfl ?_
            refine Ev.mk rfl rfl ⟨Nat.le_of_ble_eq_true rfl, Or.inr (q_rc hI293.1 kx_231 rfl)⟩ ?_
            show At _ none _ _ (0, [(0, .ref 231), (1, .int v592), (2, .int a3)], [], (_, _)) _
            refine At.enter rfl ?_
            refine r_aload_n rfl ?_
            refine q_getR (Sh.ref hI293.1 kx_231 rfl) ?_
            refine r_iload_n rfl ?_
            obtain ⟨v593, hv593⟩ : ∃ v, eA g0 233 (3 * a1.toInt + a2.toInt + 10) = v := ⟨_, rfl⟩
            have wv593 := HI.s1 hI0 (j := (3 * a1.toInt + a2.toInt + 10)) (a1.toInt) (by omega) (by omega)
            rw [hv593] at wv593
            refine q_iald (Sh.arr hI293.1 ka_233) (3 * a1.toInt + a2.toInt + 10) (by omega) (by omega) v593 ((eA_c (gA_sI)).trans hv593) ?_
            refine r_istore_n ([(3, .int v593), (0, .ref 231), (1, .int v592), (2, .int a3)]) rfl ?_
            refine r_aload_n rfl ?_
            refine q_getR (Sh.ref hI293.1 kx_231 rfl) ?_
            refine r_iload_n rfl ?_
            refine r_iload_n rfl ?_
            refine q_iast (Sh.arr hI293.1 ka_233) ((3 * a1.toInt + a2.toInt + 10)) (by omega) (by omega) ?_
            have hI594 := HI.ws hI293 (j := (3 * a1.toInt + a2.toInt + 10)) (v := a3) (a1.toInt) 1 (by omega) (by decide) (by omega) (by omega)
            have hF595 := Fr.wA (p := 233) (j := (3 * a1.toInt + a2.toInt + 10)) (v := a3) hF294 rfl
            refine r_aload_n rfl ?_
            refine r_iload_n rfl ?_
            refine q_inlV 19 rfl [.ref 231, .int v593] [] (Nat.le_of_ble_eq_true rfl) rfl ?_
            refine Ev.mk rfl rfl ⟨Nat.le_of_ble_eq_true rfl, Or.inr (q_rc hI594.1 kx_231 rfl)⟩ ?_
            show At _ none _ _ (0, [(0, .ref 231), (1, .int v593)], [], (_, _)) _
            refine At.enter rfl ?_
            refine r_aload_n rfl ?_
            refine r_iconst 0 rfl ?_
            refine q_putI (Sh.int hI594.1 kx_231 rfl) rfl ?_
            have hI596 := HI.wI0 hI594 kx_231 rfl (p := 231) (b := 1) (v := 0) rfl
            have hF597 := Fr.wI (p := 231) (b := 1) (v := 0) hF595 rfl
            refine r_iload_n rfl ?_
            refine q_ireti ?_
            refine At.enter rfl ?_
            refine q_ireti ?_
            refine At.enter rfl ?_
            refine r_goto ?_
            refine At.enter rfl ?_
            refine r_ireti ?_
            have x598 := HI.eqA hI0 (p := 233) (j := 0) (hv525)
            have y599 := congrArg Int32.toInt hv525
            have y600 := (eA_ix (g := g0) (p := 233) (show 10 + 3 * a1.toInt + a2.toInt = (3 * a1.toInt + a2.toInt + 10) from by omega)).trans (congrArg Int32.toInt hv593)
            have x601 := HI.eqA hI596 (p := 233) (j := 0) ((((eA_c gA_sI).trans ((eA_sA_ne hI293.1 ka_233 (by first | decide | omega) (by first | decide | omega) (by first | decide | omega)).trans (eA_c gA_sI))).trans hv525))
            obtain ⟨v602, hv602⟩ : ∃ v, eA g0 233 4 = v := ⟨_, rfl⟩
            have wv602 := HI.t4 hI0
            rw [hv602] at wv602
            have tv602 := congrArg Int32.toInt hv602
            have x603 := HI.eqA hI596 (p := 233) (j := 4) ((((eA_c gA_sI).trans ((eA_sA_ne hI293.1 ka_233 (by first | decide | omega) (by first | decide | omega) (by first | decide | omega)).trans (eA_c gA_sI))).trans hv602))
            obtain ⟨v604, hv604⟩ : ∃ v, eA g0 233 5 = v := ⟨_, rfl⟩
            have wv604 := HI.t5 hI0
            rw [hv604] at wv604
            have tv604 := congrArg Int32.toInt hv604
            have x605 := HI.eqA hI596 (p := 233) (j := 5) ((((eA_c gA_sI).trans ((eA_sA_ne hI293.1 ka_233 (by first | decide | omega) (by first | decide | omega) (by first | decide | omega)).trans (eA_c gA_sI))).trans hv604))
            obtain ⟨v606, hv606⟩ : ∃ v, eA g0 233 6 = v := ⟨_, rfl⟩
            have wv606 := HI.t6 hI0
            rw [hv606] at wv606
            have tv606 := congrArg Int32.toInt hv606
            have x607 := HI.eqA hI596 (p := 233) (j := 6) ((((eA_c gA_sI).trans ((eA_sA_ne hI293.1 ka_233 (by first | decide | omega) (by first | decide | omega) (by first | decide | omega)).trans (eA_c gA_sI))).trans hv606))
            obtain ⟨v608, hv608⟩ : ∃ v, eA g0 233 1 = v := ⟨_, rfl⟩
            have tv608 := congrArg Int32.toInt hv608
            have wv608 := HI.t1 hI0
            rw [hv608] at wv608
            have tv608 := congrArg Int32.toInt hv608
            have x609 := HI.eqA hI596 (p := 233) (j := 1) ((((eA_c gA_sI).trans ((eA_sA_ne hI293.1 ka_233 (by first | decide | omega) (by first | decide | omega) (by first | decide | omega)).trans (eA_c gA_sI))).trans hv608))
            obtain ⟨v610, hv610⟩ : ∃ v, eA g0 233 2 = v := ⟨_, rfl⟩
            have tv610 := congrArg Int32.toInt hv610
            have wv610 := HI.t2 hI0
            rw [hv610] at wv610
            have tv610 := congrArg Int32.toInt hv610
            have x611 := HI.eqA hI596 (p := 233) (j := 2) ((((eA_c gA_sI).trans ((eA_sA_ne hI293.1 ka_233 (by first | decide | omega) (by first | decide | omega) (by first | decide | omega)).trans (eA_c gA_sI))).trans hv610))
            obtain ⟨v612, hv612⟩ : ∃ v, eA g0 233 3 = v := ⟨_, rfl⟩
            have wv612 := HI.t3 hI0
            rw [hv612] at wv612
            have tv612 := congrArg Int32.toInt hv612
            have x613 := HI.eqA hI596 (p := 233) (j := 3) ((((eA_c gA_sI).trans ((eA_sA_ne hI293.1 ka_233 (by first | decide | omega) (by first | decide | omega) (by first | decide | omega)).trans (eA_c gA_sI))).trans hv612))
            have x614 := HI.eqA hI0 (p := 233) (j := 0) (hv525)
            have x615 := HI.eqA hI0 (p := 233) (j := 4) (hv602)
            have x616 := HI.eqA hI0 (p := 233) (j := 5) (hv604)
            have x617 := HI.eqA hI0 (p := 233) (j := 6) (hv606)
            have x618 := HI.eqA hI0 (p := 233) (j := 1) (hv608)
            have x619 := HI.eqA hI0 (p := 233) (j := 2) (hv610)
            have x620 := HI.eqA hI0 (p := 233) (j := 3) (hv612)
            have x621 := HI.eqA hI0 (p := 233) (j := 0) (hv525)
            exact ⟨_, rfl, hI596, hF597, _, rfl, by omega, ⟨⟨⟨by omega, by omega, by omega, by omega, by omega, by omega, by omega⟩, by omega, by omega, by omega⟩, (by intro i i0 i1; exact (Decidable.em ((((a2.toInt = 0 ∧ -1 ≤ a3.toInt ∧ a3.toInt ≤ 11) ∨ (a2.toInt = 1 ∧ 1 ≤ a3.toInt ∧ a3.toInt ≤ 9) ∨ (a2.toInt = 2 ∧ 0 ≤ a3.toInt ∧ a3.toInt ≤ 99)) ∧ 0 ≤ a1.toInt ∧ a1.toInt < (eA g0 233 0).toInt) ∧ i = 10 + 3 * a1.toInt + a2.toInt)).elim (fun k165_ => by refine Eq.trans ?_ (if_pos k165_).symm; refine (eA_ti ((gA_sI))).trans ?_; exact (Decidable.em (i = (3 * a1.toInt + a2.toInt + 10))).elim (fun k166_ => by refine (eA_eqT hI293.1 ka_233 k166_ (by first | decide | omega) (by first | decide | omega)).trans ?_; (first | (with_reducible rfl) | (omega) | (rfl))) (fun k166_ => by refine (eA_neT hI293.1 ka_233 k166_ (by first | decide | omega) (by omega)).trans ?_; refine (eA_ti ((gA_sI))).trans ?_; (first | with_reducible rfl | omega | exact eA_ix (by omega) | rfl))) (fun k165_ => by refine Eq.trans ?_ (if_neg k165_).symm; refine (eA_ti ((gA_sI))).trans ?_; exact (Decidable.em (i = (3 * a1.toInt + a2.toInt + 10))).elim (fun k167_ => by refine (eA_eqT hI293.1 ka_233 k167_ (by first | decide | omega) (by first | decide | omega)).trans ?_; (first | (with_reducible rfl) | (omega) | (rfl))) (fun k167_ => by refine (eA_neT hI293.1 ka_233 k167_ (by first | decide | omega) (by omega)).trans ?_; refine (eA_ti ((gA_sI))).trans ?_; (first | with_reducible rfl | omega | exact eA_ix (by omega) | rfl))))⟩⟩
  by_cases c295_2 : a2.toInt = 2
  · refine r_tsw 50 (by rw [c295_2]; rfl) ?_
    refine At.enter rfl ?_
    refine r_iload_n rfl ?_
    refine q_i2l (fun v622 hv622 => ?_)
    refine r_lconst 0 rfl ?_
    refine r_ldc2 99 rfl ?_
    refine q_inlS 59 rfl [.long v622, .long 0, .long 99] [] (Nat.le_of_ble_eq_true rfl) rfl ?_
    refine Ev.mk rfl rfl ⟨Nat.le_of_ble_eq_true rfl, Or.inl rfl⟩ ?_
    show At _ none _ _ (0, [(0, .long v622), (2, .long 0), (4, .long 99)], [], (_, _)) _
    refine At.enter rfl ?_
    refine r_lload_n rfl ?_
    refine r_lload_n rfl ?_
    refine r_lcmp _ rfl ?_
    refine r_ifs 6 rfl (fun c623 => ?_) (fun c623 => ?_)
    · have c623_ : v622.toInt < 0 := en_j_lt_t c623
      refine At.enter rfl ?_
      refine r_iconst 0 rfl ?_
      refine Ar.fall 18 rfl ?_
      refine At.enter rfl ?_
      refine q_iretz (by decide) ?_
      refine At.enter rfl ?_
      refine q_iretz (by decide) ?_
      refine At.enter rfl ?_
      refine r_iff 13 rfl (by decide) ?_
      refine At.enter rfl ?_
      refine r_aload_n rfl ?_
      refine r_iconst (-1) rfl ?_
      refine r_callV 18 rfl [.ref 231, .int (-1)] [] (Nat.le_of_ble_eq_true rfl) rfl (T_X11_tell_231 _ hI293 (-1) (by decide)) ?_
      rintro _ _ ⟨g624, rfl, hI625, hF626, v627, rfl, hr628⟩
      refine At.sti ?_
      have hF629 := Fr.tr hF294 hF626 rfl rfl
      have zv630 : ((-1) : Int32).toInt = (-1) := rfl
      refine At.enter rfl ?_
      refine r_ireti ?_
      obtain ⟨v631, hv631⟩ : ∃ v, eA g0 233 0 = v := ⟨_, rfl⟩
      have tv631 := congrArg Int32.toInt hv631
      have wv631 := HI.t0 hI0
      rw [hv631] at wv631
      have tv631 := congrArg Int32.toInt hv631
      have x632 := HI.eqA hI0 (p := 233) (j := 0) (hv631)
      have y633 := congrArg Int32.toInt hv631
      have x634 := HI.eqA hI625 (p := 233) (j := 0) ((((eA_c (hF626.2.1 233 ma_X11_tell_231_233)).trans (eA_c gA_sI)).trans hv631))
      obtain ⟨v635, hv635⟩ : ∃ v, eA g0 233 4 = v := ⟨_, rfl⟩
      have wv635 := HI.t4 hI0
      rw [hv635] at wv635
      have tv635 := congrArg Int32.toInt hv635
      have x636 := HI.eqA hI625 (p := 233) (j := 4) ((((eA_c (hF626.2.1 233 ma_X11_tell_231_233)).trans (eA_c gA_sI)).trans hv635))
      obtain ⟨v637, hv637⟩ : ∃ v, eA g0 233 5 = v := ⟨_, rfl⟩
      have wv637 := HI.t5 hI0
      rw [hv637] at wv637
      have tv637 := congrArg Int32.toInt hv637
      have x638 := HI.eqA hI625 (p := 233) (j := 5) ((((eA_c (hF626.2.1 233 ma_X11_tell_231_233)).trans (eA_c gA_sI)).trans hv637))
      obtain ⟨v639, hv639⟩ : ∃ v, eA g0 233 6 = v := ⟨_, rfl⟩
      have wv639 := HI.t6 hI0
      rw [hv639] at wv639
      have tv639 := congrArg Int32.toInt hv639
      have x640 := HI.eqA hI625 (p := 233) (j := 6) ((((eA_c (hF626.2.1 233 ma_X11_tell_231_233)).trans (eA_c gA_sI)).trans hv639))
      obtain ⟨v641, hv641⟩ : ∃ v, eA g0 233 1 = v := ⟨_, rfl⟩
      have tv641 := congrArg Int32.toInt hv641
      have wv641 := HI.t1 hI0
      rw [hv641] at wv641
      have tv641 := congrArg Int32.toInt hv641
      have x642 := HI.eqA hI625 (p := 233) (j := 1) ((((eA_c (hF626.2.1 233 ma_X11_tell_231_233)).trans (eA_c gA_sI)).trans hv641))
      obtain ⟨v643, hv643⟩ : ∃ v, eA g0 233 2 = v := ⟨_, rfl⟩
      have tv643 := congrArg Int32.toInt hv643
      have wv643 := HI.t2 hI0
      rw [hv643] at wv643
      have tv643 := congrArg Int32.toInt hv643
      have x644 := HI.eqA hI625 (p := 233) (j := 2) ((((eA_c (hF626.2.1 233 ma_X11_tell_231_233)).trans (eA_c gA_sI)).trans hv643))
      obtain ⟨v645, hv645⟩ : ∃ v, eA g0 233 3 = v := ⟨_, rfl⟩
      have wv645 := HI.t3 hI0
      rw [hv645] at wv645
      have tv645 := congrArg Int32.toInt hv645
      have x646 := HI.eqA hI625 (p := 233) (j := 3) ((((eA_c (hF626.2.1 233 ma_X11_tell_231_233)).trans (eA_c gA_sI)).trans hv645))
      have x647 := HI.eqA hI0 (p := 233) (j := 0) (hv631)
      have x648 := HI.eqA hI0 (p := 233) (j := 4) (hv635)
      have x649 := HI.eqA hI0 (p := 233) (j := 5) (hv637)
      have x650 := HI.eqA hI0 (p := 233) (j := 6) (hv639)
      have x651 := HI.eqA hI0 (p := 233) (j := 1) (hv641)
      have x652 := HI.eqA hI0 (p := 233) (j := 2) (hv643)
      have x653 := HI.eqA hI0 (p := 233) (j := 3) (hv645)
      have x654 := HI.eqA hI0 (p := 233) (j := 0) (hv631)
      exact ⟨_, rfl, hI625, hF629, _, rfl, by omega, ⟨⟨⟨by omega, by omega, by omega, by omega, by omega, by omega, by omega⟩, by omega, by omega, by omega⟩, (by intro i i0 i1; refine Eq.trans ?_ (if_neg (show ¬ ((((a2.toInt = 0 ∧ -1 ≤ a3.toInt ∧ a3.toInt ≤ 11) ∨ (a2.toInt = 1 ∧ 1 ≤ a3.toInt ∧ a3.toInt ≤ 9) ∨ (a2.toInt = 2 ∧ 0 ≤ a3.toInt ∧ a3.toInt ≤ 99)) ∧ 0 ≤ a1.toInt ∧ a1.toInt < (eA g0 233 0).toInt) ∧ i = 10 + 3 * a1.toInt + a2.toInt) from by omega)).symm; refine (eA_ti (((hF626.2.1 233 ma_X11_tell_231_233).trans (gA_sI)))).trans ?_; (first | with_reducible rfl | omega | exact eA_ix (by omega) | rfl))⟩⟩
    · have c623_ : v622.toInt ≥ 0 := en_j_lt_f c623
      refine At.enter rfl ?_
      refine r_lload_n rfl ?_
      refine r_lload rfl ?_
      refine r_lcmp _ rfl ?_
      refine r_ifs 13 rfl (fun c655 => ?_) (fun c655 => ?_)
      · have c655_ : v622.toInt > 99 := en_j_gt_t c655
        refine At.enter rfl ?_
        refine r_iconst 0 rfl ?_
        refine Ar.fall 18 rfl ?_
        refine At.enter rfl ?_
        refine q_iretz (by decide) ?_
        refine At.enter rfl ?_
        refine q_iretz (by decide) ?_
        refine At.enter rfl ?_
        refine r_iff 13 rfl (by decide) ?_
        refine At.enter rfl ?_
        refine r_aload_n rfl ?_
        refine r_iconst (-1) rfl ?_
        refine r_callV 18 rfl [.ref 231, .int (-1)] [] (Nat.le_of_ble_eq_true rfl) rfl (T_X11_tell_231 _ hI293 (-1) (by decide)) ?_
        rintro _ _ ⟨g656, rfl, hI657, hF658, v659, rfl, hr660⟩
        refine At.sti ?_
        have hF661 := Fr.tr hF294 hF658 rfl rfl
        have zv662 : ((-1) : Int32).toInt = (-1) := rfl
        refine At.enter rfl ?_
        refine r_ireti ?_
        obtain ⟨v663, hv663⟩ : ∃ v, eA g0 233 0 = v := ⟨_, rfl⟩
        have tv663 := congrArg Int32.toInt hv663
        have wv663 := HI.t0 hI0
        rw [hv663] at wv663
        have tv663 := congrArg Int32.toInt hv663
        have x664 := HI.eqA hI0 (p := 233) (j := 0) (hv663)
        have y665 := congrArg Int32.toInt hv663
        have x666 := HI.eqA hI657 (p := 233) (j := 0) ((((eA_c (hF658.2.1 233 ma_X11_tell_231_233)).trans (eA_c gA_sI)).trans hv663))
        obtain ⟨v667, hv667⟩ : ∃ v, eA g0 233 4 = v := ⟨_, rfl⟩
        have wv667 := HI.t4 hI0
        rw [hv667] at wv667
        have tv667 := congrArg Int32.toInt hv667
        have x668 := HI.eqA hI657 (p := 233) (j := 4) ((((eA_c (hF658.2.1 233 ma_X11_tell_231_233)).trans (eA_c gA_sI)).trans hv667))
        obtain ⟨v669, hv669⟩ : ∃ v, eA g0 233 5 = v := ⟨_, rfl⟩
        have wv669 := HI.t5 hI0
        rw [hv669] at wv669
        have tv669 := congrArg Int32.toInt hv669
        have x670 := HI.eqA hI657 (p := 233) (j := 5) ((((eA_c (hF658.2.1 233 ma_X11_tell_231_233)).trans (eA_c gA_sI)).trans hv669))
        obtain ⟨v671, hv671⟩ : ∃ v, eA g0 233 6 = v := ⟨_, rfl⟩
        have wv671 := HI.t6 hI0
        rw [hv671] at wv671
        have tv671 := congrArg Int32.toInt hv671
        have x672 := HI.eqA hI657 (p := 233) (j := 6) ((((eA_c (hF658.2.1 233 ma_X11_tell_231_233)).trans (eA_c gA_sI)).trans hv671))
        obtain ⟨v673, hv673⟩ : ∃ v, eA g0 233 1 = v := ⟨_, rfl⟩
        have tv673 := congrArg Int32.toInt hv673
        have wv673 := HI.t1 hI0
        rw [hv673] at wv673
        have tv673 := congrArg Int32.toInt hv673
        have x674 := HI.eqA hI657 (p := 233) (j := 1) ((((eA_c (hF658.2.1 233 ma_X11_tell_231_233)).trans (eA_c gA_sI)).trans hv673))
        obtain ⟨v675, hv675⟩ : ∃ v, eA g0 233 2 = v := ⟨_, rfl⟩
        have tv675 := congrArg Int32.toInt hv675
        have wv675 := HI.t2 hI0
        rw [hv675] at wv675
        have tv675 := congrArg Int32.toInt hv675
        have x676 := HI.eqA hI657 (p := 233) (j := 2) ((((eA_c (hF658.2.1 233 ma_X11_tell_231_233)).trans (eA_c gA_sI)).trans hv675))
        obtain ⟨v677, hv677⟩ : ∃ v, eA g0 233 3 = v := ⟨_, rfl⟩
        have wv677 := HI.t3 hI0
        rw [hv677] at wv677
        have tv677 := congrArg Int32.toInt hv677
        have x678 := HI.eqA hI657 (p := 233) (j := 3) ((((eA_c (hF658.2.1 233 ma_X11_tell_231_233)).trans (eA_c gA_sI)).trans hv677))
        have x679 := HI.eqA hI0 (p := 233) (j := 0) (hv663)
        have x680 := HI.eqA hI0 (p := 233) (j := 4) (hv667)
        have x681 := HI.eqA hI0 (p := 233) (j := 5) (hv669)
        have x682 := HI.eqA hI0 (p := 233) (j := 6) (hv671)
        have x683 := HI.eqA hI0 (p := 233) (j := 1) (hv673)
        have x684 := HI.eqA hI0 (p := 233) (j := 2) (hv675)
        have x685 := HI.eqA hI0 (p := 233) (j := 3) (hv677)
        have x686 := HI.eqA hI0 (p := 233) (j := 0) (hv663)
        exact ⟨_, rfl, hI657, hF661, _, rfl, by omega, ⟨⟨⟨by omega, by omega, by omega, by omega, by omega, by omega, by omega⟩, by omega, by omega, by omega⟩, (by intro i i0 i1; refine Eq.trans ?_ (if_neg (show ¬ ((((a2.toInt = 0 ∧ -1 ≤ a3.toInt ∧ a3.toInt ≤ 11) ∨ (a2.toInt = 1 ∧ 1 ≤ a3.toInt ∧ a3.toInt ≤ 9) ∨ (a2.toInt = 2 ∧ 0 ≤ a3.toInt ∧ a3.toInt ≤ 99)) ∧ 0 ≤ a1.toInt ∧ a1.toInt < (eA g0 233 0).toInt) ∧ i = 10 + 3 * a1.toInt + a2.toInt) from by omega)).symm; refine (eA_ti (((hF658.2.1 233 ma_X11_tell_231_233).trans (gA_sI)))).trans ?_; (first | with_reducible rfl | omega | exact eA_ix (by omega) | rfl))⟩⟩
      · have c655_ : v622.toInt ≤ 99 := en_j_gt_f c655
        refine At.enter rfl ?_
        refine r_iconst 1 rfl ?_
        refine r_goto ?_
        refine At.enter rfl ?_
        refine q_iretz (by decide) ?_
        refine At.enter rfl ?_
        refine q_iretz (by decide) ?_
        refine At.enter rfl ?_
        refine r_ift (by decide) ?_
        refine At.enter rfl ?_
        refine r_aload_n rfl ?_
        refine r_iload_n rfl ?_
        refine q_inlV 24 rfl [.ref 231, .int a1] [] (Nat.le_of_ble_eq_true rfl) rfl ?_
        refine Ev.mk rfl rfl ⟨Nat.le_of_ble_eq_true rfl, Or.inr (q_rc hI293.1 kx_231 rfl)⟩ ?_
        show At _ none _ _ (0, [(0, .ref 231), (1, .int a1)], [], (_, _)) _
        refine At.enter rfl ?_
        refine r_iload_n rfl ?_
        refine q_i2l (fun v687 hv687 => ?_)
        refine r_lconst 0 rfl ?_
        refine r_aload_n rfl ?_
        refine q_getR (Sh.ref hI293.1 kx_231 rfl) ?_
        refine r_iconst 0 rfl ?_
        obtain ⟨v688, hv688⟩ : ∃ v, eA g0 233 0 = v := ⟨_, rfl⟩
        have tv688 := congrArg Int32.toInt hv688
        have wv688 := HI.t0 hI0
        rw [hv688] at wv688
        refine q_iald (Sh.arr hI293.1 ka_233) 0 rfl (by decide) v688 ((eA_c (gA_sI)).trans hv688) ?_
        refine q_i2l (fun v689 hv689 => ?_)
        refine r_lconst 1 rfl ?_
        refine q_lsub (v689.toInt - 1) rfl (by omega) (fun v690 hv690 => ?_)
        refine q_inlS 15 rfl [.long v687, .long 0, .long v690] [] (Nat.le_of_ble_eq_true rfl) rfl ?_
        refine Ev.mk rfl rfl ⟨Nat.le_of_ble_eq_true rfl, Or.inl rfl⟩ ?_
        show At _ none _ _ (0, [(0, .long v687), (2, .long 0), (4, .long v690)], [], (_, _)) _
        refine At.enter rfl ?_
        refine r_lload_n rfl ?_
        refine r_lload_n rfl ?_
        refine r_lcmp _ rfl ?_
        refine r_ifs 6 rfl (fun c691 => ?_) (fun c691 => ?_)
        · have c691_ : v687.toInt < 0 := en_j_lt_t c691
          refine At.enter rfl ?_
          refine r_iconst 0 rfl ?_
          refine Ar.fall 18 rfl ?_
          refine At.enter rfl ?_
          refine q_iretz (by decide) ?_
          refine At.enter rfl ?_
          refine q_iretz (by decide) ?_
          refine At.enter rfl ?_
          refine r_ift (by decide) ?_
          refine At.enter rfl ?_
          refine r_aload_n rfl ?_
          refine r_bipush (-2) rfl ?_
          refine r_callV 49 rfl [.ref 231, .int (-2)] [] (Nat.le_of_ble_eq_true rfl) rfl (T_X11_tell_231 _ hI293 (-2) (by decide)) ?_
          rintro _ _ ⟨g692, rfl, hI693, hF694, v695, rfl, hr696⟩
          refine At.sti ?_
          have hF697 := Fr.tr hF294 hF694 rfl rfl
          have zv698 : ((-2) : Int32).toInt = (-2) := rfl
          refine At.enter rfl ?_
          refine r_ireti ?_
          have x699 := HI.eqA hI0 (p := 233) (j := 0) (hv688)
          have y700 := congrArg Int32.toInt hv688
          have x701 := HI.eqA hI693 (p := 233) (j := 0) ((((eA_c (hF694.2.1 233 ma_X11_tell_231_233)).trans (eA_c gA_sI)).trans hv688))
          obtain ⟨v702, hv702⟩ : ∃ v, eA g0 233 4 = v := ⟨_, rfl⟩
          have wv702 := HI.t4 hI0
          rw [hv702] at wv702
          have tv702 := congrArg Int32.toInt hv702
          have x703 := HI.eqA hI693 (p := 233) (j := 4) ((((eA_c (hF694.2.1 233 ma_X11_tell_231_233)).trans (eA_c gA_sI)).trans hv702))
          obtain ⟨v704, hv704⟩ : ∃ v, eA g0 233 5 = v := ⟨_, rfl⟩
          have wv704 := HI.t5 hI0
          rw [hv704] at wv704
          have tv704 := congrArg Int32.toInt hv704
          have x705 := HI.eqA hI693 (p := 233) (j := 5) ((((eA_c (hF694.2.1 233 ma_X11_tell_231_233)).trans (eA_c gA_sI)).trans hv704))
          obtain ⟨v706, hv706⟩ : ∃ v, eA g0 233 6 = v := ⟨_, rfl⟩
          have wv706 := HI.t6 hI0
          rw [hv706] at wv706
          have tv706 := congrArg Int32.toInt hv706
          have x707 := HI.eqA hI693 (p := 233) (j := 6) ((((eA_c (hF694.2.1 233 ma_X11_tell_231_233)).trans (eA_c gA_sI)).trans hv706))
          obtain ⟨v708, hv708⟩ : ∃ v, eA g0 233 1 = v := ⟨_, rfl⟩
          have tv708 := congrArg Int32.toInt hv708
          have wv708 := HI.t1 hI0
          rw [hv708] at wv708
          have tv708 := congrArg Int32.toInt hv708
          have x709 := HI.eqA hI693 (p := 233) (j := 1) ((((eA_c (hF694.2.1 233 ma_X11_tell_231_233)).trans (eA_c gA_sI)).trans hv708))
          obtain ⟨v710, hv710⟩ : ∃ v, eA g0 233 2 = v := ⟨_, rfl⟩
          have tv710 := congrArg Int32.toInt hv710
          have wv710 := HI.t2 hI0
          rw [hv710] at wv710
          have tv710 := congrArg Int32.toInt hv710
          have x711 := HI.eqA hI693 (p := 233) (j := 2) ((((eA_c (hF694.2.1 233 ma_X11_tell_231_233)).trans (eA_c gA_sI)).trans hv710))
          obtain ⟨v712, hv712⟩ : ∃ v, eA g0 233 3 = v := ⟨_, rfl⟩
          have wv712 := HI.t3 hI0
          rw [hv712] at wv712
          have tv712 := congrArg Int32.toInt hv712
          have x713 := HI.eqA hI693 (p := 233) (j := 3) ((((eA_c (hF694.2.1 233 ma_X11_tell_231_233)).trans (eA_c gA_sI)).trans hv712))
          have x714 := HI.eqA hI0 (p := 233) (j := 0) (hv688)
          have x715 := HI.eqA hI0 (p := 233) (j := 4) (hv702)
          have x716 := HI.eqA hI0 (p := 233) (j := 5) (hv704)
          have x717 := HI.eqA hI0 (p := 233) (j := 6) (hv706)
          have x718 := HI.eqA hI0 (p := 233) (j := 1) (hv708)
          have x719 := HI.eqA hI0 (p := 233) (j := 2) (hv710)
          have x720 := HI.eqA hI0 (p := 233) (j := 3) (hv712)
          have x721 := HI.eqA hI0 (p := 233) (j := 0) (hv688)
          exact ⟨_, rfl, hI693, hF697, _, rfl, by omega, ⟨⟨⟨by omega, by omega, by omega, by omega, by omega, by omega, by omega⟩, by omega, by omega, by omega⟩, (by intro i i0 i1; refine Eq.trans ?_ (if_neg (show ¬ ((((a2.toInt = 0 ∧ -1 ≤ a3.toInt ∧ a3.toInt ≤ 11) ∨ (a2.toInt = 1 ∧ 1 ≤ a3.toInt ∧ a3.toInt ≤ 9) ∨ (a2.toInt = 2 ∧ 0 ≤ a3.toInt ∧ a3.toInt ≤ 99)) ∧ 0 ≤ a1.toInt ∧ a1.toInt < (eA g0 233 0).toInt) ∧ i = 10 + 3 * a1.toInt + a2.toInt) from by omega)).symm; refine (eA_ti (((hF694.2.1 233 ma_X11_tell_231_233).trans (gA_sI)))).trans ?_; (first | with_reducible rfl | omega | exact eA_ix (by omega) | rfl))⟩⟩
        · have c691_ : v687.toInt ≥ 0 := en_j_lt_f c691
          refine At.enter rfl ?_
          refine r_lload_n rfl ?_
          refine r_lload rfl ?_
          refine r_lcmp _ rfl ?_
          refine r_ifs 13 rfl (fun c722 => ?_) (fun c722 => ?_)
          · have c722_ : v687.toInt > v690.toInt := en_j_gt_t c722
            refine At.enter rfl ?_
            refine r_iconst 0 rfl ?_
            refine Ar.fall 18 rfl ?_
            refine At.enter rfl ?_
            refine q_iretz (by decide) ?_
            refine At.enter rfl ?_
            refine q_iretz (by decide) ?_
            refine At.enter rfl ?_
            refine r_ift (by decide) ?_
            refine At.enter rfl ?_
            refine r_aload_n rfl ?_
            refine r_bipush (-2) rfl ?_
            refine r_callV 49 rfl [.ref 231, .int (-2)] [] (Nat.le_of_ble_eq_true rfl) rfl (T_X11_tell_231 _ hI293 (-2) (by decide)) ?_
            rintro _ _ ⟨g723, rfl, hI724, hF725, v726, rfl, hr727⟩
            refine At.sti ?_
            have hF728 := Fr.tr hF294 hF725 rfl rfl
            have zv729 : ((-2) : Int32).toInt = (-2) := rfl
            refine At.enter rfl ?_
            refine r_ireti ?_
            have x730 := HI.eqA hI0 (p := 233) (j := 0) (hv688)
            have y731 := congrArg Int32.toInt hv688
            have x732 := HI.eqA hI724 (p := 233) (j := 0) ((((eA_c (hF725.2.1 233 ma_X11_tell_231_233)).trans (eA_c gA_sI)).trans hv688))
            obtain ⟨v733, hv733⟩ : ∃ v, eA g0 233 4 = v := ⟨_, rfl⟩
            have wv733 := HI.t4 hI0
            rw [hv733] at wv733
            have tv733 := congrArg Int32.toInt hv733
            have x734 := HI.eqA hI724 (p := 233) (j := 4) ((((eA_c (hF725.2.1 233 ma_X11_tell_231_233)).trans (eA_c gA_sI)).trans hv733))
            obtain ⟨v735, hv735⟩ : ∃ v, eA g0 233 5 = v := ⟨_, rfl⟩
            have wv735 := HI.t5 hI0
            rw [hv735] at wv735
            have tv735 := congrArg Int32.toInt hv735
            have x736 := HI.eqA hI724 (p := 233) (j := 5) ((((eA_c (hF725.2.1 233 ma_X11_tell_231_233)).trans (eA_c gA_sI)).trans hv735))
            obtain ⟨v737, hv737⟩ : ∃ v, eA g0 233 6 = v := ⟨_, rfl⟩
            have wv737 := HI.t6 hI0
            rw [hv737] at wv737
            have tv737 := congrArg Int32.toInt hv737
            have x738 := HI.eqA hI724 (p := 233) (j := 6) ((((eA_c (hF725.2.1 233 ma_X11_tell_231_233)).trans (eA_c gA_sI)).trans hv737))
            obtain ⟨v739, hv739⟩ : ∃ v, eA g0 233 1 = v := ⟨_, rfl⟩
            have tv739 := congrArg Int32.toInt hv739
            have wv739 := HI.t1 hI0
            rw [hv739] at wv739
            have tv739 := congrArg Int32.toInt hv739
            have x740 := HI.eqA hI724 (p := 233) (j := 1) ((((eA_c (hF725.2.1 233 ma_X11_tell_231_233)).trans (eA_c gA_sI)).trans hv739))
            obtain ⟨v741, hv741⟩ : ∃ v, eA g0 233 2 = v := ⟨_, rfl⟩
            have tv741 := congrArg Int32.toInt hv741
            have wv741 := HI.t2 hI0
            rw [hv741] at wv741
            have tv741 := congrArg Int32.toInt hv741
            have x742 := HI.eqA hI724 (p := 233) (j := 2) ((((eA_c (hF725.2.1 233 ma_X11_tell_231_233)).trans (eA_c gA_sI)).trans hv741))
            obtain ⟨v743, hv743⟩ : ∃ v, eA g0 233 3 = v := ⟨_, rfl⟩
            have wv743 := HI.t3 hI0
            rw [hv743] at wv743
            have tv743 := congrArg Int32.toInt hv743
            have x744 := HI.eqA hI724 (p := 233) (j := 3) ((((eA_c (hF725.2.1 233 ma_X11_tell_231_233)).trans (eA_c gA_sI)).trans hv743))
            have x745 := HI.eqA hI0 (p := 233) (j := 0) (hv688)
            have x746 := HI.eqA hI0 (p := 233) (j := 4) (hv733)
            have x747 := HI.eqA hI0 (p := 233) (j := 5) (hv735)
            have x748 := HI.eqA hI0 (p := 233) (j := 6) (hv737)
            have x749 := HI.eqA hI0 (p := 233) (j := 1) (hv739)
            have x750 := HI.eqA hI0 (p := 233) (j := 2) (hv741)
            have x751 := HI.eqA hI0 (p := 233) (j := 3) (hv743)
            have x752 := HI.eqA hI0 (p := 233) (j := 0) (hv688)
            exact ⟨_, rfl, hI724, hF728, _, rfl, by omega, ⟨⟨⟨by omega, by omega, by omega, by omega, by omega, by omega, by omega⟩, by omega, by omega, by omega⟩, (by intro i i0 i1; refine Eq.trans ?_ (if_neg (show ¬ ((((a2.toInt = 0 ∧ -1 ≤ a3.toInt ∧ a3.toInt ≤ 11) ∨ (a2.toInt = 1 ∧ 1 ≤ a3.toInt ∧ a3.toInt ≤ 9) ∨ (a2.toInt = 2 ∧ 0 ≤ a3.toInt ∧ a3.toInt ≤ 99)) ∧ 0 ≤ a1.toInt ∧ a1.toInt < (eA g0 233 0).toInt) ∧ i = 10 + 3 * a1.toInt + a2.toInt) from by omega)).symm; refine (eA_ti (((hF725.2.1 233 ma_X11_tell_231_233).trans (gA_sI)))).trans ?_; (first | with_reducible rfl | omega | exact eA_ix (by omega) | rfl))⟩⟩
          · have c722_ : v687.toInt ≤ v690.toInt := en_j_gt_f c722
            refine At.enter rfl ?_
            refine r_iconst 1 rfl ?_
            refine r_goto ?_
            refine At.enter rfl ?_
            refine q_iretz (by decide) ?_
            refine At.enter rfl ?_
            refine q_iretz (by decide) ?_
            refine At.enter rfl ?_
            refine r_iff 27 rfl (by decide) ?_
            refine At.enter rfl ?_
            refine r_aload_n rfl ?_
            refine r_bipush 10 rfl ?_
            refine r_iconst 3 rfl ?_
            refine r_iload_n rfl ?_
            refine q_imul (3 * a1.toInt) rfl (by omega) (fun v753 hv753 => ?_)
            refine q_iadd (10 + v753.toInt) rfl (by omega) (fun v754 hv754 => ?_)
            refine r_iload_n rfl ?_
            refine q_iadd (v754.toInt + a2.toInt) rfl (by omega) (fun v755 hv755 => ?_)
            refine r_iload_n rfl ?_
            refine q_inlV 40 rfl [.ref 231, .int v755, .int a3] [] (Nat.le_of_ble_eq_true rfl) rfl ?_
            refine Ev.mk rfl rfl ⟨Nat.le_of_ble_eq_true rfl, Or.inr (q_rc hI293.1 kx_231 rfl)⟩ ?_
            show At _ none _ _ (0, [(0, .ref 231), (1, .int v755), (2, .int a3)], [], (_, _)) _
            refine At.enter rfl ?_
            refine r_aload_n rfl ?_
            refine q_getR (Sh.ref hI293.1 kx_231 rfl) ?_
            refine r_iload_n rfl ?_
            obtain ⟨v756, hv756⟩ : ∃ v, eA g0 233 (3 * a1.toInt + a2.toInt + 10) = v := ⟨_, rfl⟩
            have wv756 := HI.s2 hI0 (j := (3 * a1.toInt + a2.toInt + 10)) (a1.toInt) (by omega) (by omega)
            rw [hv756] at wv756
            refine q_iald (Sh.arr hI293.1 ka_233) (3 * a1.toInt + a2.toInt + 10) (by omega) (by omega) v756 ((eA_c (gA_sI)).trans hv756) ?_
            refine r_istore_n ([(3, .int v756), (0, .ref 231), (1, .int v755), (2, .int a3)]) rfl ?_
            refine r_aload_n rfl ?_
            refine q_getR (Sh.ref hI293.1 kx_231 rfl) ?_
            refine r_iload_n rfl ?_
            refine r_iload_n rfl ?_
            refine q_iast (Sh.arr hI293.1 ka_233) ((3 * a1.toInt + a2.toInt + 10)) (by omega) (by omega) ?_
            have hI757 := HI.ws hI293 (j := (3 * a1.toInt + a2.toInt + 10)) (v := a3) (a1.toInt) 2 (by omega) (by decide) (by omega) (by omega)
            have hF758 := Fr.wA (p := 233) (j := (3 * a1.toInt + a2.toInt + 10)) (v := a3) hF294 rfl
            refine r_aload_n rfl ?_
            refine r_iload_n rfl ?_
            refine q_inlV 19 rfl [.ref 231, .int v756] [] (Nat.le_of_ble_eq_true rfl) rfl ?_
            refine Ev.mk rfl rfl ⟨Nat.le_of_ble_eq_true rfl, Or.inr (q_rc hI757.1 kx_231 rfl)⟩ ?_
            show At _ none _ _ (0, [(0, .ref 231), (1, .int v756)], [], (_, _)) _
            refine At.enter rfl ?_
            refine r_aload_n rfl ?_
            refine r_iconst 0 rfl ?_
            refine q_putI (Sh.int hI757.1 kx_231 rfl) rfl ?_
            have hI759 := HI.wI0 hI757 kx_231 rfl (p := 231) (b := 1) (v := 0) rfl
            have hF760 := Fr.wI (p := 231) (b := 1) (v := 0) hF758 rfl
            refine r_iload_n rfl ?_
            refine q_ireti ?_
            refine At.enter rfl ?_
            refine q_ireti ?_
            refine At.enter rfl ?_
            refine r_goto ?_
            refine At.enter rfl ?_
            refine r_ireti ?_
            have x761 := HI.eqA hI0 (p := 233) (j := 0) (hv688)
            have y762 := congrArg Int32.toInt hv688
            have y763 := (eA_ix (g := g0) (p := 233) (show 10 + 3 * a1.toInt + a2.toInt = (3 * a1.toInt + a2.toInt + 10) from by omega)).trans (congrArg Int32.toInt hv756)
            have x764 := HI.eqA hI759 (p := 233) (j := 0) ((((eA_c gA_sI).trans ((eA_sA_ne hI293.1 ka_233 (by first | decide | omega) (by first | decide | omega) (by first | decide | omega)).trans (eA_c gA_sI))).trans hv688))
            obtain ⟨v765, hv765⟩ : ∃ v, eA g0 233 4 = v := ⟨_, rfl⟩
            have wv765 := HI.t4 hI0
            rw [hv765] at wv765
            have tv765 := congrArg Int32.toInt hv765
            have x766 := HI.eqA hI759 (p := 233) (j := 4) ((((eA_c gA_sI).trans ((eA_sA_ne hI293.1 ka_233 (by first | decide | omega) (by first | decide | omega) (by first | decide | omega)).trans (eA_c gA_sI))).trans hv765))
            obtain ⟨v767, hv767⟩ : ∃ v, eA g0 233 5 = v := ⟨_, rfl⟩
            have wv767 := HI.t5 hI0
            rw [hv767] at wv767
            have tv767 := congrArg Int32.toInt hv767
            have x768 := HI.eqA hI759 (p := 233) (j := 5) ((((eA_c gA_sI).trans ((eA_sA_ne hI293.1 ka_233 (by first | decide | omega) (by first | decide | omega) (by first | decide | omega)).trans (eA_c gA_sI))).trans hv767))
            obtain ⟨v769, hv769⟩ : ∃ v, eA g0 233 6 = v := ⟨_, rfl⟩
            have wv769 := HI.t6 hI0
            rw [hv769] at wv769
            have tv769 := congrArg Int32.toInt hv769
            have x770 := HI.eqA hI759 (p := 233) (j := 6) ((((eA_c gA_sI).trans ((eA_sA_ne hI293.1 ka_233 (by first | decide | omega) (by first | decide | omega) (by first | decide | omega)).trans (eA_c gA_sI))).trans hv769))
            obtain ⟨v771, hv771⟩ : ∃ v, eA g0 233 1 = v := ⟨_, rfl⟩
            have tv771 := congrArg Int32.toInt hv771
            have wv771 := HI.t1 hI0
            rw [hv771] at wv771
            have tv771 := congrArg Int32.toInt hv771
            have x772 := HI.eqA hI759 (p := 233) (j := 1) ((((eA_c gA_sI).trans ((eA_sA_ne hI293.1 ka_233 (by first | decide | omega) (by first | decide | omega) (by first | decide | omega)).trans (eA_c gA_sI))).trans hv771))
            obtain ⟨v773, hv773⟩ : ∃ v, eA g0 233 2 = v := ⟨_, rfl⟩
            have tv773 := congrArg Int32.toInt hv773
            have wv773 := HI.t2 hI0
            rw [hv773] at wv773
            have tv773 := congrArg Int32.toInt hv773
            have x774 := HI.eqA hI759 (p := 233) (j := 2) ((((eA_c gA_sI).trans ((eA_sA_ne hI293.1 ka_233 (by first | decide | omega) (by first | decide | omega) (by first | decide | omega)).trans (eA_c gA_sI))).trans hv773))
            obtain ⟨v775, hv775⟩ : ∃ v, eA g0 233 3 = v := ⟨_, rfl⟩
            have wv775 := HI.t3 hI0
            rw [hv775] at wv775
            have tv775 := congrArg Int32.toInt hv775
            have x776 := HI.eqA hI759 (p := 233) (j := 3) ((((eA_c gA_sI).trans ((eA_sA_ne hI293.1 ka_233 (by first | decide | omega) (by first | decide | omega) (by first | decide | omega)).trans (eA_c gA_sI))).trans hv775))
            have x777 := HI.eqA hI0 (p := 233) (j := 0) (hv688)
            have x778 := HI.eqA hI0 (p := 233) (j := 4) (hv765)
            have x779 := HI.eqA hI0 (p := 233) (j := 5) (hv767)
            have x780 := HI.eqA hI0 (p := 233) (j := 6) (hv769)
            have x781 := HI.eqA hI0 (p := 233) (j := 1) (hv771)
            have x782 := HI.eqA hI0 (p := 233) (j := 2) (hv773)
            have x783 := HI.eqA hI0 (p := 233) (j := 3) (hv775)
            have x784 := HI.eqA hI0 (p := 233) (j := 0) (hv688)
            exact ⟨_, rfl, hI759, hF760, _, rfl, by omega, ⟨⟨⟨by omega, by omega, by omega, by omega, by omega, by omega, by omega⟩, by omega, by omega, by omega⟩, (by intro i i0 i1; exact (Decidable.em ((((a2.toInt = 0 ∧ -1 ≤ a3.toInt ∧ a3.toInt ≤ 11) ∨ (a2.toInt = 1 ∧ 1 ≤ a3.toInt ∧ a3.toInt ≤ 9) ∨ (a2.toInt = 2 ∧ 0 ≤ a3.toInt ∧ a3.toInt ≤ 99)) ∧ 0 ≤ a1.toInt ∧ a1.toInt < (eA g0 233 0).toInt) ∧ i = 10 + 3 * a1.toInt + a2.toInt)).elim (fun k168_ => by refine Eq.trans ?_ (if_pos k168_).symm; refine (eA_ti ((gA_sI))).trans ?_; exact (Decidable.em (i = (3 * a1.toInt + a2.toInt + 10))).elim (fun k169_ => by refine (eA_eqT hI293.1 ka_233 k169_ (by first | decide | omega) (by first | decide | omega)).trans ?_; (first | (with_reducible rfl) | (omega) | (rfl))) (fun k169_ => by refine (eA_neT hI293.1 ka_233 k169_ (by first | decide | omega) (by omega)).trans ?_; refine (eA_ti ((gA_sI))).trans ?_; (first | with_reducible rfl | omega | exact eA_ix (by omega) | rfl))) (fun k168_ => by refine Eq.trans ?_ (if_neg k168_).symm; refine (eA_ti ((gA_sI))).trans ?_; exact (Decidable.em (i = (3 * a1.toInt + a2.toInt + 10))).elim (fun k170_ => by refine (eA_eqT hI293.1 ka_233 k170_ (by first | decide | omega) (by first | decide | omega)).trans ?_; (first | (with_reducible rfl) | (omega) | (rfl))) (fun k170_ => by refine (eA_neT hI293.1 ka_233 k170_ (by first | decide | omega) (by omega)).trans ?_; refine (eA_ti ((gA_sI))).trans ?_; (first | with_reducible rfl | omega | exact eA_ix (by omega) | rfl))))⟩⟩
  have c785 : a2.toInt < 0 ∨ 2 < a2.toInt := by omega
  refine r_tsw 60 (by unfold en_sw; rw [if_pos c785]; rfl) ?_
  refine At.enter rfl ?_
  refine r_iconst 0 rfl ?_
  refine q_iretz (by decide) ?_
  refine At.enter rfl ?_
  refine r_iff 13 rfl (by decide) ?_
  refine At.enter rfl ?_
  refine r_aload_n rfl ?_
  refine r_iconst (-1) rfl ?_
  refine r_callV 18 rfl [.ref 231, .int (-1)] [] (Nat.le_of_ble_eq_true rfl) rfl (T_X11_tell_231 _ hI293 (-1) (by decide)) ?_
  rintro _ _ ⟨g786, rfl, hI787, hF788, v789, rfl, hr790⟩
  refine At.sti ?_
  have hF791 := Fr.tr hF294 hF788 rfl rfl
  have zv792 : ((-1) : Int32).toInt = (-1) := rfl
  refine At.enter rfl ?_
  refine r_ireti ?_
  obtain ⟨v793, hv793⟩ : ∃ v, eA g0 233 0 = v := ⟨_, rfl⟩
  have tv793 := congrArg Int32.toInt hv793
  have wv793 := HI.t0 hI0
  rw [hv793] at wv793
  have tv793 := congrArg Int32.toInt hv793
  have x794 := HI.eqA hI0 (p := 233) (j := 0) (hv793)
  have y795 := congrArg Int32.toInt hv793
  have x796 := HI.eqA hI787 (p := 233) (j := 0) ((((eA_c (hF788.2.1 233 ma_X11_tell_231_233)).trans (eA_c gA_sI)).trans hv793))
  obtain ⟨v797, hv797⟩ : ∃ v, eA g0 233 4 = v := ⟨_, rfl⟩
  have wv797 := HI.t4 hI0
  rw [hv797] at wv797
  have tv797 := congrArg Int32.toInt hv797
  have x798 := HI.eqA hI787 (p := 233) (j := 4) ((((eA_c (hF788.2.1 233 ma_X11_tell_231_233)).trans (eA_c gA_sI)).trans hv797))
  obtain ⟨v799, hv799⟩ : ∃ v, eA g0 233 5 = v := ⟨_, rfl⟩
  have wv799 := HI.t5 hI0
  rw [hv799] at wv799
  have tv799 := congrArg Int32.toInt hv799
  have x800 := HI.eqA hI787 (p := 233) (j := 5) ((((eA_c (hF788.2.1 233 ma_X11_tell_231_233)).trans (eA_c gA_sI)).trans hv799))
  obtain ⟨v801, hv801⟩ : ∃ v, eA g0 233 6 = v := ⟨_, rfl⟩
  have wv801 := HI.t6 hI0
  rw [hv801] at wv801
  have tv801 := congrArg Int32.toInt hv801
  have x802 := HI.eqA hI787 (p := 233) (j := 6) ((((eA_c (hF788.2.1 233 ma_X11_tell_231_233)).trans (eA_c gA_sI)).trans hv801))
  obtain ⟨v803, hv803⟩ : ∃ v, eA g0 233 1 = v := ⟨_, rfl⟩
  have tv803 := congrArg Int32.toInt hv803
  have wv803 := HI.t1 hI0
  rw [hv803] at wv803
  have tv803 := congrArg Int32.toInt hv803
  have x804 := HI.eqA hI787 (p := 233) (j := 1) ((((eA_c (hF788.2.1 233 ma_X11_tell_231_233)).trans (eA_c gA_sI)).trans hv803))
  obtain ⟨v805, hv805⟩ : ∃ v, eA g0 233 2 = v := ⟨_, rfl⟩
  have tv805 := congrArg Int32.toInt hv805
  have wv805 := HI.t2 hI0
  rw [hv805] at wv805
  have tv805 := congrArg Int32.toInt hv805
  have x806 := HI.eqA hI787 (p := 233) (j := 2) ((((eA_c (hF788.2.1 233 ma_X11_tell_231_233)).trans (eA_c gA_sI)).trans hv805))
  obtain ⟨v807, hv807⟩ : ∃ v, eA g0 233 3 = v := ⟨_, rfl⟩
  have wv807 := HI.t3 hI0
  rw [hv807] at wv807
  have tv807 := congrArg Int32.toInt hv807
  have x808 := HI.eqA hI787 (p := 233) (j := 3) ((((eA_c (hF788.2.1 233 ma_X11_tell_231_233)).trans (eA_c gA_sI)).trans hv807))
  have x809 := HI.eqA hI0 (p := 233) (j := 0) (hv793)
  have x810 := HI.eqA hI0 (p := 233) (j := 4) (hv797)
  have x811 := HI.eqA hI0 (p := 233) (j := 5) (hv799)
  have x812 := HI.eqA hI0 (p := 233) (j := 6) (hv801)
  have x813 := HI.eqA hI0 (p := 233) (j := 1) (hv803)
  have x814 := HI.eqA hI0 (p := 233) (j := 2) (hv805)
  have x815 := HI.eqA hI0 (p := 233) (j := 3) (hv807)
  have x816 := HI.eqA hI0 (p := 233) (j := 0) (hv793)
  exact ⟨_, rfl, hI787, hF791, _, rfl, by omega, ⟨⟨⟨by omega, by omega, by omega, by omega, by omega, by omega, by omega⟩, by omega, by omega, by omega⟩, (by intro i i0 i1; refine Eq.trans ?_ (if_neg (show ¬ ((((a2.toInt = 0 ∧ -1 ≤ a3.toInt ∧ a3.toInt ≤ 11) ∨ (a2.toInt = 1 ∧ 1 ≤ a3.toInt ∧ a3.toInt ≤ 9) ∨ (a2.toInt = 2 ∧ 0 ≤ a3.toInt ∧ a3.toInt ≤ 99)) ∧ 0 ≤ a1.toInt ∧ a1.toInt < (eA g0 233 0).toInt) ∧ i = 10 + 3 * a1.toInt + a2.toInt) from by omega)).symm; refine (eA_ti (((hF788.2.1 233 ma_X11_tell_231_233).trans (gA_sI)))).trans ?_; (first | with_reducible rfl | omega | exact eA_ix (by omega) | rfl))⟩⟩
