def F_X11_row_231 : List (Nat × Nat) := [(231, 0), (231, 1), (231, 6), (231, 8)]
def A_X11_row_231 : List Nat := [232, 233]
theorem mf_X11_tell_231_231_8 : memF F_X11_tell_231 231 8 = false := by decide
theorem mf_X11_tell_231_231_6 : memF F_X11_tell_231 231 6 = false := by decide
theorem mf_X11_addLoad_231_231_6 : memF F_X11_addLoad_231 231 6 = false := by decide
theorem mf_X11_addLoad_231_231_8 : memF F_X11_addLoad_231 231 8 = false := by decide
set_option maxRecDepth 100000 in
set_option maxHeartbeats 4000000 in
theorem T_X11_row_231 (d : Nat) {N : Nat} {g0 : List en_E} (hI0 : HI g0) : Ev (d + 3) 182 [.ref 231] (g0, N) (fun w h' => ∃ g', h' = (g', N) ∧ HI g' ∧ Fr F_X11_row_231 A_X11_row_231 g0 g' ∧ ∃ r : Int32, w = some (.int r) ∧ ((-6) ≤ r.toInt ∧ r.toInt ≤ 400) ∧ ((((eA g' 233 1).toInt = RLI (fun i : Int => (eA g0 236 i).toInt) (gI g0 231 8).toInt (eA g0 233 0).toInt (eA g0 233 1).toInt (6 * (((gI g0 231 8).toInt + 5) / 6)) ∧ ((gI g0 231 8).toInt = 0 → r.toInt = -6 ∧ (gI g' 231 6).toInt = (gI g0 231 6).toInt) ∧ ((gI g0 231 8).toInt ≠ 0 → r.toInt = (eA g' 233 1).toInt - (eA g0 233 1).toInt ∧ (gI g' 231 6).toInt = (6 * (((gI g0 231 8).toInt + 5) / 6)) / 6 - r.toInt) ∧ (gI g' 231 8).toInt = 0 ∧ (eA g' 233 0).toInt = (eA g0 233 0).toInt ∧ (eA g' 233 4).toInt = (eA g0 233 4).toInt ∧ (eA g' 233 5).toInt = (eA g0 233 5).toInt ∧ (eA g' 233 6).toInt = (eA g0 233 6).toInt ∧ (eA g' 233 2).toInt = (eA g0 233 2).toInt ∧ (eA g' 233 3).toInt = (eA g0 233 3).toInt) ∧ (∀ i : Int, 10 ≤ i → i < 46 → (eA g' 233 (i)).toInt = (eA g0 233 (i)).toInt) ∧ (∀ i : Int, 94 ≤ i → i < 110 → (eA g' 233 (i)).toInt = (eA g0 233 (i)).toInt) ∧ (∀ i : Int, 46 ≤ i → i < 94 → (eA g' 233 (i)).toInt = RFI (fun i : Int => (eA g0 236 i).toInt) (gI g0 231 8).toInt (eA g0 233 0).toInt (eA g0 233 1).toInt (fun i : Int => (eA g0 233 (46 + i)).toInt) (6 * (((gI g0 231 8).toInt + 5) / 6)) (i - 46))) ∧ SU r.toInt (gI g' 231 1).toInt)) := by
  have hF0 : Fr F_X11_row_231 A_X11_row_231 g0 g0 := Fr.rf
  refine Ev.mk rfl rfl ⟨Nat.le_of_ble_eq_true rfl, Or.inr (q_rc hI0.1 kx_231 rfl)⟩ ?_
  show At _ none _ _ (0, [(0, .ref 231)], [], (_, _)) _
  refine At.enter rfl ?_
  refine r_aload_n rfl ?_
  refine r_iconst 0 rfl ?_
  refine q_putI (Sh.int hI0.1 kx_231 rfl) rfl ?_
  have hI6375 := HI.wI0 hI0 kx_231 rfl (p := 231) (b := 0) (v := 0) rfl
  have hF6376 := Fr.wI (p := 231) (b := 0) (v := 0) hF0 rfl
  refine r_aload_n rfl ?_
  obtain ⟨v6377, hv6377⟩ : ∃ v, gI g0 231 8 = v := ⟨_, rfl⟩
  have rv6377 := RgF.at hI0.2.1 (p := 231) (b := 8) rfl
  rw [hv6377] at rv6377
  dsimp only at rv6377
  refine q_getI (Sh.int hI6375.1 kx_231 rfl) v6377 ((gI_sI_ne (by decide)).trans hv6377) ?_
  refine r_istore_n ([(1, .int v6377), (0, .ref 231)]) rfl ?_
  refine r_aload_n rfl ?_
  refine r_iconst 0 rfl ?_
  refine q_putI (Sh.int hI6375.1 kx_231 rfl) rfl ?_
  have hI6378 := HI.wI1 hI6375 kx_231 rfl (p := 231) (b := 8) (v := 0) rfl (by decide)
  have hF6379 := Fr.wI (p := 231) (b := 8) (v := 0) hF6376 rfl
  refine r_iload_n rfl ?_
  refine r_ifs 19 rfl (fun c6380 => ?_) (fun c6380 => ?_)
  · have c6380_ : v6377.toInt ≠ 0 := en_k_ne_t c6380
    refine At.enter rfl ?_
    refine r_aload_n rfl ?_
    refine r_iconst 0 rfl ?_
    refine q_putI (Sh.int hI6378.1 kx_231 rfl) rfl ?_
    have hI6381 := HI.wI0 hI6378 kx_231 rfl (p := 231) (b := 6) (v := 0) rfl
    have hF6382 := Fr.wI (p := 231) (b := 6) (v := 0) hF6379 rfl
    refine r_iconst 0 rfl ?_
    refine r_istore_n ([(2, .int 0), (1, .int v6377), (0, .ref 231)]) rfl ?_
    refine r_iconst 0 rfl ?_
    refine r_istore_n ([(3, .int 0), (2, .int 0), (1, .int v6377), (0, .ref 231)]) rfl ?_
    refine Ar.fall 35 rfl ?_
    obtain ⟨v6383, hv6383⟩ : ∃ v, eA g0 233 0 = v := ⟨_, rfl⟩
    have tv6383 := congrArg Int32.toInt hv6383
    have wv6383 := HI.t0 hI0
    rw [hv6383] at wv6383
    have tv6383 := congrArg Int32.toInt hv6383
    obtain ⟨v6384, hv6384⟩ : ∃ v, eA g0 233 4 = v := ⟨_, rfl⟩
    have wv6384 := HI.t4 hI0
    rw [hv6384] at wv6384
    have tv6384 := congrArg Int32.toInt hv6384
    obtain ⟨v6385, hv6385⟩ : ∃ v, eA g0 233 5 = v := ⟨_, rfl⟩
    have wv6385 := HI.t5 hI0
    rw [hv6385] at wv6385
    have tv6385 := congrArg Int32.toInt hv6385
    obtain ⟨v6386, hv6386⟩ : ∃ v, eA g0 233 6 = v := ⟨_, rfl⟩
    have wv6386 := HI.t6 hI0
    rw [hv6386] at wv6386
    have tv6386 := congrArg Int32.toInt hv6386
    obtain ⟨v6387, hv6387⟩ : ∃ v, eA g0 233 2 = v := ⟨_, rfl⟩
    have tv6387 := congrArg Int32.toInt hv6387
    have wv6387 := HI.t2 hI0
    rw [hv6387] at wv6387
    have tv6387 := congrArg Int32.toInt hv6387
    obtain ⟨v6388, hv6388⟩ : ∃ v, eA g0 233 3 = v := ⟨_, rfl⟩
    have wv6388 := HI.t3 hI0
    rw [hv6388] at wv6388
    have tv6388 := congrArg Int32.toInt hv6388
    have z_9416 : (0 : Int32).toInt = 0 := rfl
    have z_9417 : (0 : Int32).toInt = 0 := rfl
    have z_9418 : (0 : Int32).toInt = 0 := rfl
    have x9419 := HI.eqI hI0 (p := 231) (b := 8) (hv6377)
    obtain ⟨v9420, hv9420⟩ : ∃ v, gI g0 231 6 = v := ⟨_, rfl⟩
    have tv9420 := congrArg Int32.toInt hv9420
    have x9422 := HI.eqA hI6381 (p := 233) (j := 0) ((((eA_c gA_sI).trans ((eA_c gA_sI).trans (eA_c gA_sI))).trans hv6383))
    obtain ⟨v9423, hv9423⟩ : ∃ v, eA g0 233 1 = v := ⟨_, rfl⟩
    have tv9423 := congrArg Int32.toInt hv9423
    have wv9423 := HI.t1 hI0
    rw [hv9423] at wv9423
    have tv9423 := congrArg Int32.toInt hv9423
    have x9424 := HI.eqA hI6381 (p := 233) (j := 1) ((((eA_c gA_sI).trans ((eA_c gA_sI).trans (eA_c gA_sI))).trans hv9423))
    refine w_loopI (fun n_ l_ g_ => ∃ x9383 : Int32, ∃ x9384 : Int32, ∃ x9385 : Int32, n_ = 405 - x9384.toInt ∧ HI g_ ∧ Fr F_X11_row_231 A_X11_row_231 g0 g_ ∧ gI g_ 231 6 = x9385 ∧ gI g_ 231 8 = 0 ∧ eA g_ 233 0 = v6383 ∧ eA g_ 233 4 = v6384 ∧ eA g_ 233 5 = v6385 ∧ eA g_ 233 6 = v6386 ∧ eA g_ 233 2 = v6387 ∧ eA g_ 233 3 = v6388 ∧ en_get 0 l_ = some (.ref 231) ∧ en_get 1 l_ = some (.int v6377) ∧ en_get 2 l_ = some (.int x9383) ∧ en_get 3 l_ = some (.int x9384) ∧ (0 ≤ x9383.toInt ∧ x9383.toInt ≤ 400) ∧ (0 ≤ x9384.toInt ∧ x9384.toInt ≤ 405) ∧ (0 ≤ x9385.toInt ∧ x9385.toInt ≤ 400) ∧ (x9383.toInt ≤ x9384.toInt) ∧ (∀ i : Int, 10 ≤ i → i < 46 → (eA g_ 233 (i)).toInt = (eA g0 233 (i)).toInt) ∧ (∀ i : Int, 94 ≤ i → i < 110 → (eA g_ 233 (i)).toInt = (eA g0 233 (i)).toInt) ∧ (x9384.toInt % 6 = 0 ∧ 0 ≤ x9384.toInt) ∧ (x9384.toInt < (gI g0 231 8).toInt + 6) ∧ ((eA g_ 233 1).toInt = RLI (fun i : Int => (eA g0 236 i).toInt) (gI g0 231 8).toInt (eA g0 233 0).toInt (eA g0 233 1).toInt x9384.toInt) ∧ (x9383.toInt = (eA g_ 233 1).toInt - (eA g0 233 1).toInt) ∧ (x9385.toInt = x9384.toInt / 6 - x9383.toInt) ∧ (∀ i : Int, 46 ≤ i → i < 94 → (eA g_ 233 (i)).toInt = RFI (fun i : Int => (eA g0 236 i).toInt) (gI g0 231 8).toInt (eA g0 233 0).toInt (eA g0 233 1).toInt (fun i : Int => (eA g0 233 (46 + i)).toInt) x9384.toInt (i - 46))) ?_ (405 - 0) ⟨0, 0, 0, by first | rfl | omega, hI6381, hF6382, (gI_sI_eq hI6378.1 kx_231 rfl _), ((gI_sI_ne (by decide)).trans (gI_sI_eq hI6375.1 kx_231 rfl _)), (((eA_c gA_sI).trans ((eA_c gA_sI).trans (eA_c gA_sI))).trans hv6383), (((eA_c gA_sI).trans ((eA_c gA_sI).trans (eA_c gA_sI))).trans hv6384), (((eA_c gA_sI).trans ((eA_c gA_sI).trans (eA_c gA_sI))).trans hv6385), (((eA_c gA_sI).trans ((eA_c gA_sI).trans (eA_c gA_sI))).trans hv6386), (((eA_c gA_sI).trans ((eA_c gA_sI).trans (eA_c gA_sI))).trans hv6387), (((eA_c gA_sI).trans ((eA_c gA_sI).trans (eA_c gA_sI))).trans hv6388), rfl, rfl, rfl, rfl, by decide, by decide, by decide, by omega, (by intro i i0 i1; refine (eA_ti (((gA_sI).trans ((gA_sI).trans (gA_sI))))).trans ?_; (first | with_reducible rfl | omega | exact eA_ix (by omega) | rfl)), (by intro i i0 i1; refine (eA_ti (((gA_sI).trans ((gA_sI).trans (gA_sI))))).trans ?_; (first | with_reducible rfl | omega | exact eA_ix (by omega) | rfl)), by omega, by omega, (by refine Eq.trans ?_ (RLI.z _ _ _ _ (by first | rfl | decide | omega)); exact eA_ti (((gA_sI).trans ((gA_sI).trans (gA_sI))))), (by have y_ := HI.eqA hI6381 (p := 233) (j := 1) (eA_c (j := 1) (((gA_sI).trans ((gA_sI).trans (gA_sI))))); omega), by omega, (by intro i i0 i1; refine (eA_ti (((gA_sI).trans ((gA_sI).trans (gA_sI))))).trans ?_; refine (eA_ix (show i = 46 + (i - 46) from by omega)).trans ?_; exact RFI.z _ _ _ _ (fun i : Int => (eA g0 233 (46 + i)).toInt) (by first | rfl | decide | omega) _)⟩
    rintro n9390 l9389 g9386 ⟨x9383, x9384, x9385, hm9425, hI9387, hF9388, e9392, e9393, e9394, e9395, e9396, e9397, e9398, e9399, e9400, e9401, e9402, e9403, r9404, r9405, r9406, q9407, q9408, q9409, q9410, q9411, q9412, q9413, q9414, q9415⟩ ih9391
    have tv9426 := congrArg Int32.toInt e9394
    have tv9427 := congrArg Int32.toInt e9395
    have tv9428 := congrArg Int32.toInt e9396
    have tv9429 := congrArg Int32.toInt e9397
    have tv9430 := congrArg Int32.toInt e9398
    have tv9431 := congrArg Int32.toInt e9399
    have tv9432 := congrArg Int32.toInt e9393
    have tv9433 := congrArg Int32.toInt e9392
    refine At.enter rfl ?_
    refine r_iload_n e9403 ?_
    refine r_iload_n e9401 ?_
    have bv9435 := q_bnd x9384
    have bv9436 := q_bnd v6377
    refine r_ics 40 rfl (fun c9434 => ?_) (fun c9434 => ?_)
    · have c9434_ : x9384.toInt ≥ v6377.toInt := en_i_ge_t c9434
      refine At.enter rfl ?_
      refine r_aload_n e9400 ?_
      refine r_iload_n e9402 ?_
      refine r_callV 225 rfl [.ref 231, .int x9383] [] (Nat.le_of_ble_eq_true rfl) rfl (T_X11_tell_231 _ hI9387 x9383 (by omega)) ?_
      rintro _ _ ⟨g9437, rfl, hI9438, hF9439, v9440, rfl, hr9441⟩
      refine At.sti ?_
      have hF9442 := Fr.tr hF9388 hF9439 rfl rfl
      refine At.enter rfl ?_
      refine r_ireti ?_
      obtain ⟨v9443, hv9443⟩ : ∃ v, eA g9386 233 1 = v := ⟨_, rfl⟩
      have tv9443 := congrArg Int32.toInt hv9443
      have wv9443 := HI.t1 hI9387
      rw [hv9443] at wv9443
      have tv9443 := congrArg Int32.toInt hv9443
      have x9444 := HI.eqA hI9438 (p := 233) (j := 1) (((eA_c (hF9439.2.1 233 ma_X11_tell_231_233)).trans hv9443))
      have x9445 := HI.eqA hI0 (p := 233) (j := 1) (hv9423)
      have x9446 := HI.eqI hI9438 (p := 231) (b := 8) (((hF9439.1 231 8 mf_X11_tell_231_231_8).trans e9393))
      have zv9447 : (0 : Int32).toInt = 0 := rfl
      have x9448 := HI.eqI hI0 (p := 231) (b := 8) (hv6377)
      have x9449 := HI.eqI hI9438 (p := 231) (b := 6) (((hF9439.1 231 6 mf_X11_tell_231_231_6).trans e9392))
      have x9451 := HI.eqA hI9438 (p := 233) (j := 0) (((eA_c (hF9439.2.1 233 ma_X11_tell_231_233)).trans e9394))
      have x9452 := HI.eqA hI0 (p := 233) (j := 0) (hv6383)
      have x9453 := HI.eqA hI9438 (p := 233) (j := 4) (((eA_c (hF9439.2.1 233 ma_X11_tell_231_233)).trans e9395))
      have x9454 := HI.eqA hI0 (p := 233) (j := 4) (hv6384)
      have x9455 := HI.eqA hI9438 (p := 233) (j := 5) (((eA_c (hF9439.2.1 233 ma_X11_tell_231_233)).trans e9396))
      have x9456 := HI.eqA hI0 (p := 233) (j := 5) (hv6385)
      have x9457 := HI.eqA hI9438 (p := 233) (j := 6) (((eA_c (hF9439.2.1 233 ma_X11_tell_231_233)).trans e9397))
      have x9458 := HI.eqA hI0 (p := 233) (j := 6) (hv6386)
      have x9459 := HI.eqA hI9438 (p := 233) (j := 2) (((eA_c (hF9439.2.1 233 ma_X11_tell_231_233)).trans e9398))
      have x9460 := HI.eqA hI0 (p := 233) (j := 2) (hv6387)
      have x9461 := HI.eqA hI9438 (p := 233) (j := 3) (((eA_c (hF9439.2.1 233 ma_X11_tell_231_233)).trans e9399))
      have x9462 := HI.eqA hI0 (p := 233) (j := 3) (hv6388)
      have x9463 := HI.eqA hI0 (p := 233) (j := 0) (hv6383)
      have y9464 := HI.eqA hI9438 (p := 233) (j := 1) (eA_c (j := 1) ((hF9439.2.1 233 ma_X11_tell_231_233)))
      obtain ⟨v9465, hv9465⟩ : ∃ v, gI g9437 231 1 = v := ⟨_, rfl⟩
      have tv9465 := congrArg Int32.toInt hv9465
      exact ⟨_, rfl, hI9438, hF9442, _, rfl, by omega, ⟨⟨⟨(by rw [show (6 * (((gI g0 231 8).toInt + 5) / 6)) = x9384.toInt from by omega]; refine Eq.trans ?_ q9412; exact eA_ti ((hF9439.2.1 233 ma_X11_tell_231_233))), by omega, by omega, by omega, by omega, by omega, by omega, by omega, by omega, by omega⟩, (by intro i i0 i1; refine (eA_ti ((hF9439.2.1 233 ma_X11_tell_231_233))).trans ?_; (first | (refine ((q9408 (i) (by first | exact i0 | omega) (by first | exact i1 | omega))).trans ?_; (first | with_reducible rfl | omega | exact eA_ix (by omega) | rfl)) | (refine ((q9409 (i) (by first | exact i0 | omega) (by first | exact i1 | omega))).trans ?_; (first | with_reducible rfl | omega | exact eA_ix (by omega) | rfl)) | (refine ((q9415 (i) (by first | exact i0 | omega) (by first | exact i1 | omega))).trans ?_; (first | with_reducible rfl | omega | exact eA_ix (by omega) | rfl)))), (by intro i i0 i1; refine (eA_ti ((hF9439.2.1 233 ma_X11_tell_231_233))).trans ?_; (first | (refine ((q9409 (i) (by first | exact i0 | omega) (by first | exact i1 | omega))).trans ?_; (first | with_reducible rfl | omega | exact eA_ix (by omega) | rfl)) | (refine ((q9408 (i) (by first | exact i0 | omega) (by first | exact i1 | omega))).trans ?_; (first | with_reducible rfl | omega | exact eA_ix (by omega) | rfl)) | (refine ((q9415 (i) (by first | exact i0 | omega) (by first | exact i1 | omega))).trans ?_; (first | with_reducible rfl | omega | exact eA_ix (by omega) | rfl)))), (by intro i i0 i1; rw [show (6 * (((gI g0 231 8).toInt + 5) / 6)) = x9384.toInt from by omega]; refine (eA_ti ((hF9439.2.1 233 ma_X11_tell_231_233))).trans ?_; exact q9415 i i0 i1)⟩, (SU.mk (by omega))⟩⟩
    · have c9434_ : x9384.toInt < v6377.toInt := en_i_ge_f c9434
      refine At.enter rfl ?_
      refine r_iload_n e9403 ?_
      refine r_iconst 5 rfl ?_
      refine q_iadd (x9384.toInt + 5) rfl (by omega) (fun v9467 hv9467 => ?_)
      refine r_iload_n e9401 ?_
      have bv9469 := q_bnd v9467
      refine r_ics 47 rfl (fun c9468 => ?_) (fun c9468 => ?_)
      · have c9468_ : v9467.toInt ≥ v6377.toInt := en_i_ge_t c9468
        refine At.enter rfl ?_
        refine r_iconst 0 rfl ?_
        refine Ar.fall 63 rfl ?_
        refine At.enter rfl ?_
        refine r_istore _ rfl ?_
        refine r_iload (w_e1 _ _ _) ?_
        refine r_ift (by decide) ?_
        refine At.enter rfl ?_
        refine r_iconst 0 rfl ?_
        refine Ar.fall 141 rfl ?_
        refine At.enter rfl ?_
        refine r_istore _ rfl ?_
        refine r_iload (w_e1 _ _ _) ?_
        refine r_ift (by decide) ?_
        refine At.enter rfl ?_
        refine r_aload_n (w_p1 (by decide) (Or.inr rfl) (w_p1 (by decide) (Or.inr rfl) e9400)) ?_
        refine r_dup rfl ?_
        refine q_getI (Sh.int hI9387.1 kx_231 rfl) x9385 e9392 ?_
        refine r_iconst 1 rfl ?_
        refine q_iadd (x9385.toInt + 1) rfl (by omega) (fun v9470 hv9470 => ?_)
        refine q_putI (Sh.int hI9387.1 kx_231 rfl) rfl ?_
        have hI9471 := HI.wI0 hI9387 kx_231 rfl (p := 231) (b := 6) (v := v9470) rfl
        have hF9472 := Fr.wI (p := 231) (b := 6) (v := v9470) hF9388 rfl
        refine Ar.fall 214 rfl ?_
        refine At.enter rfl ?_
        refine q_iinc (w_p1 (by decide) (Or.inr rfl) (w_p1 (by decide) (Or.inr rfl) e9403)) (x9384.toInt + 6) rfl (by omega) (fun v9473 hv9473 => ?_)
        refine r_goto ?_
        exact ih9391 (405 - v9473.toInt) _ _ ⟨x9383, v9473, v9470, by first | rfl | omega, hI9471, hF9472, (gI_sI_eq hI9387.1 kx_231 rfl _), ((gI_sI_ne (by decide)).trans e9393), ((eA_c gA_sI).trans e9394), ((eA_c gA_sI).trans e9395), ((eA_c gA_sI).trans e9396), ((eA_c gA_sI).trans e9397), ((eA_c gA_sI).trans e9398), ((eA_c gA_sI).trans e9399), (w_p1 (by decide) (Or.inr rfl) (w_p1 (by decide) (Or.inr rfl) (w_p1 (by decide) (Or.inr rfl) e9400))), (w_p1 (by decide) (Or.inr rfl) (w_p1 (by decide) (Or.inr rfl) (w_p1 (by decide) (Or.inr rfl) e9401))), (w_p1 (by decide) (Or.inr rfl) (w_p1 (by decide) (Or.inr rfl) (w_p1 (by decide) (Or.inr rfl) e9402))), (w_e1 _ _ _), by omega, by omega, by omega, by omega, (by intro i i0 i1; refine (eA_ti ((gA_sI))).trans ?_; (first | (refine ((q9408 (i) (by first | exact i0 | omega) (by first | exact i1 | omega))).trans ?_; (first | with_reducible rfl | omega | exact eA_ix (by omega) | rfl)) | (refine ((q9409 (i) (by first | exact i0 | omega) (by first | exact i1 | omega))).trans ?_; (first | with_reducible rfl | omega | exact eA_ix (by omega) | rfl)) | (refine ((q9415 (i) (by first | exact i0 | omega) (by first | exact i1 | omega))).trans ?_; (first | with_reducible rfl | omega | exact eA_ix (by omega) | rfl)))), (by intro i i0 i1; refine (eA_ti ((gA_sI))).trans ?_; (first | (refine ((q9409 (i) (by first | exact i0 | omega) (by first | exact i1 | omega))).trans ?_; (first | with_reducible rfl | omega | exact eA_ix (by omega) | rfl)) | (refine ((q9408 (i) (by first | exact i0 | omega) (by first | exact i1 | omega))).trans ?_; (first | with_reducible rfl | omega | exact eA_ix (by omega) | rfl)) | (refine ((q9415 (i) (by first | exact i0 | omega) (by first | exact i1 | omega))).trans ?_; (first | with_reducible rfl | omega | exact eA_ix (by omega) | rfl)))), by omega, by omega, (RLI.n (by omega) (by omega) q9412 (fun h => by have h2 : x9384.toInt + 6 ≤ (gI g0 231 8).toInt ∧ (eA g9386 233 1).toInt < 8 ∧ (1 ≤ (eA g0 236 x9384.toInt).toInt ∧ (eA g0 236 x9384.toInt).toInt ≤ 9) ∧ (0 ≤ (eA g0 236 (x9384.toInt + 3)).toInt ∧ (eA g0 236 (x9384.toInt + 3)).toInt ≤ 99) ∧ (0 ≤ (eA g0 236 (x9384.toInt + 4)).toInt ∧ (eA g0 236 (x9384.toInt + 4)).toInt ≤ 9) ∧ (0 ≤ (eA g0 236 (x9384.toInt + 5)).toInt ∧ (eA g0 236 (x9384.toInt + 5)).toInt ≤ 9999) ∧ (0 ≤ (eA g0 236 (x9384.toInt + 1)).toInt ∧ (eA g0 236 (x9384.toInt + 1)).toInt < (eA g0 233 0).toInt) ∧ (0 ≤ (eA g0 236 (x9384.toInt + 2)).toInt ∧ (eA g0 236 (x9384.toInt + 2)).toInt < (eA g0 233 0).toInt) := h; omega) (eA_ti ((gA_sI))) (by omega)), (by have y_ := HI.eqA hI9471 (p := 233) (j := 1) (eA_c (j := 1) ((gA_sI))); omega), by omega, (by intro i i0 i1; refine (eA_ti ((gA_sI))).trans ?_; refine (q9415 i i0 i1).trans ?_; exact RFI.n (by omega) (by omega) q9412 (by omega) rfl (fun k => absurd k.1 (fun h => by have h2 : x9384.toInt + 6 ≤ (gI g0 231 8).toInt ∧ (eA g9386 233 1).toInt < 8 ∧ (1 ≤ (eA g0 236 x9384.toInt).toInt ∧ (eA g0 236 x9384.toInt).toInt ≤ 9) ∧ (0 ≤ (eA g0 236 (x9384.toInt + 3)).toInt ∧ (eA g0 236 (x9384.toInt + 3)).toInt ≤ 99) ∧ (0 ≤ (eA g0 236 (x9384.toInt + 4)).toInt ∧ (eA g0 236 (x9384.toInt + 4)).toInt ≤ 9) ∧ (0 ≤ (eA g0 236 (x9384.toInt + 5)).toInt ∧ (eA g0 236 (x9384.toInt + 5)).toInt ≤ 9999) ∧ (0 ≤ (eA g0 236 (x9384.toInt + 1)).toInt ∧ (eA g0 236 (x9384.toInt + 1)).toInt < (eA g0 233 0).toInt) ∧ (0 ≤ (eA g0 236 (x9384.toInt + 2)).toInt ∧ (eA g0 236 (x9384.toInt + 2)).toInt < (eA g0 233 0).toInt) := h; omega)))⟩ ⟨by omega, by omega⟩
      · have c9468_ : v9467.toInt < v6377.toInt := en_i_ge_f c9468
        refine At.enter rfl ?_
        refine r_aload_n e9400 ?_
        refine q_getR (Sh.ref hI9387.1 kx_231 rfl) ?_
        refine r_iconst 1 rfl ?_
        obtain ⟨v9474, hv9474⟩ : ∃ v, eA g9386 233 1 = v := ⟨_, rfl⟩
        have tv9474 := congrArg Int32.toInt hv9474
        have wv9474 := HI.t1 hI9387
        rw [hv9474] at wv9474
        refine q_iald (Sh.arr hI9387.1 ka_233) 1 rfl (by decide) v9474 hv9474 ?_
        refine r_bipush 8 rfl ?_
        refine r_ics 58 rfl (fun c9475 => ?_) (fun c9475 => ?_)
        · have c9475_ : v9474.toInt ≥ 8 := en_i_ge_t c9475
          refine At.enter rfl ?_
          refine r_iconst 0 rfl ?_
          refine Ar.fall 63 rfl ?_
          refine At.enter rfl ?_
          refine r_istore _ rfl ?_
          refine r_iload (w_e1 _ _ _) ?_
          refine r_ift (by decide) ?_
          refine At.enter rfl ?_
          refine r_iconst 0 rfl ?_
          refine Ar.fall 141 rfl ?_
          refine At.enter rfl ?_
          refine r_istore _ rfl ?_
          refine r_iload (w_e1 _ _ _) ?_
          refine r_ift (by decide) ?_
          refine At.enter rfl ?_
          refine r_aload_n (w_p1 (by decide) (Or.inr rfl) (w_p1 (by decide) (Or.inr rfl) e9400)) ?_
          refine r_dup rfl ?_
          refine q_getI (Sh.int hI9387.1 kx_231 rfl) x9385 e9392 ?_
          refine r_iconst 1 rfl ?_
          refine q_iadd (x9385.toInt + 1) rfl (by omega) (fun v9476 hv9476 => ?_)
          refine q_putI (Sh.int hI9387.1 kx_231 rfl) rfl ?_
          have hI9477 := HI.wI0 hI9387 kx_231 rfl (p := 231) (b := 6) (v := v9476) rfl
          have hF9478 := Fr.wI (p := 231) (b := 6) (v := v9476) hF9388 rfl
          refine Ar.fall 214 rfl ?_
          refine At.enter rfl ?_
          refine q_iinc (w_p1 (by decide) (Or.inr rfl) (w_p1 (by decide) (Or.inr rfl) e9403)) (x9384.toInt + 6) rfl (by omega) (fun v9479 hv9479 => ?_)
          refine r_goto ?_
          exact ih9391 (405 - v9479.toInt) _ _ ⟨x9383, v9479, v9476, by first | rfl | omega, hI9477, hF9478, (gI_sI_eq hI9387.1 kx_231 rfl _), ((gI_sI_ne (by decide)).trans e9393), ((eA_c gA_sI).trans e9394), ((eA_c gA_sI).trans e9395), ((eA_c gA_sI).trans e9396), ((eA_c gA_sI).trans e9397), ((eA_c gA_sI).trans e9398), ((eA_c gA_sI).trans e9399), (w_p1 (by decide) (Or.inr rfl) (w_p1 (by decide) (Or.inr rfl) (w_p1 (by decide) (Or.inr rfl) e9400))), (w_p1 (by decide) (Or.inr rfl) (w_p1 (by decide) (Or.inr rfl) (w_p1 (by decide) (Or.inr rfl) e9401))), (w_p1 (by decide) (Or.inr rfl) (w_p1 (by decide) (Or.inr rfl) (w_p1 (by decide) (Or.inr rfl) e9402))), (w_e1 _ _ _), by omega, by omega, by omega, by omega, (by intro i i0 i1; refine (eA_ti ((gA_sI))).trans ?_; (first | (refine ((q9408 (i) (by first | exact i0 | omega) (by first | exact i1 | omega))).trans ?_; (first | with_reducible rfl | omega | exact eA_ix (by omega) | rfl)) | (refine ((q9409 (i) (by first | exact i0 | omega) (by first | exact i1 | omega))).trans ?_; (first | with_reducible rfl | omega | exact eA_ix (by omega) | rfl)) | (refine ((q9415 (i) (by first | exact i0 | omega) (by first | exact i1 | omega))).trans ?_; (first | with_reducible rfl | omega | exact eA_ix (by omega) | rfl)))), (by intro i i0 i1; refine (eA_ti ((gA_sI))).trans ?_; (first | (refine ((q9409 (i) (by first | exact i0 | omega) (by first | exact i1 | omega))).trans ?_; (first | with_reducible rfl | omega | exact eA_ix (by omega) | rfl)) | (refine ((q9408 (i) (by first | exact i0 | omega) (by first | exact i1 | omega))).trans ?_; (first | with_reducible rfl | omega | exact eA_ix (by omega) | rfl)) | (refine ((q9415 (i) (by first | exact i0 | omega) (by first | exact i1 | omega))).trans ?_; (first | with_reducible rfl | omega | exact eA_ix (by omega) | rfl)))), by omega, by omega, (RLI.n (by omega) (by omega) q9412 (fun h => by have h2 : x9384.toInt + 6 ≤ (gI g0 231 8).toInt ∧ (eA g9386 233 1).toInt < 8 ∧ (1 ≤ (eA g0 236 x9384.toInt).toInt ∧ (eA g0 236 x9384.toInt).toInt ≤ 9) ∧ (0 ≤ (eA g0 236 (x9384.toInt + 3)).toInt ∧ (eA g0 236 (x9384.toInt + 3)).toInt ≤ 99) ∧ (0 ≤ (eA g0 236 (x9384.toInt + 4)).toInt ∧ (eA g0 236 (x9384.toInt + 4)).toInt ≤ 9) ∧ (0 ≤ (eA g0 236 (x9384.toInt + 5)).toInt ∧ (eA g0 236 (x9384.toInt + 5)).toInt ≤ 9999) ∧ (0 ≤ (eA g0 236 (x9384.toInt + 1)).toInt ∧ (eA g0 236 (x9384.toInt + 1)).toInt < (eA g0 233 0).toInt) ∧ (0 ≤ (eA g0 236 (x9384.toInt + 2)).toInt ∧ (eA g0 236 (x9384.toInt + 2)).toInt < (eA g0 233 0).toInt) := h; omega) (eA_ti ((gA_sI))) (by omega)), (by have y_ := HI.eqA hI9477 (p := 233) (j := 1) (eA_c (j := 1) ((gA_sI))); omega), by omega, (by intro i i0 i1; refine (eA_ti ((gA_sI))).trans ?_; refine (q9415 i i0 i1).trans ?_; exact RFI.n (by omega) (by omega) q9412 (by omega) rfl (fun k => absurd k.1 (fun h => by have h2 : x9384.toInt + 6 ≤ (gI g0 231 8).toInt ∧ (eA g9386 233 1).toInt < 8 ∧ (1 ≤ (eA g0 236 x9384.toInt).toInt ∧ (eA g0 236 x9384.toInt).toInt ≤ 9) ∧ (0 ≤ (eA g0 236 (x9384.toInt + 3)).toInt ∧ (eA g0 236 (x9384.toInt + 3)).toInt ≤ 99) ∧ (0 ≤ (eA g0 236 (x9384.toInt + 4)).toInt ∧ (eA g0 236 (x9384.toInt + 4)).toInt ≤ 9) ∧ (0 ≤ (eA g0 236 (x9384.toInt + 5)).toInt ∧ (eA g0 236 (x9384.toInt + 5)).toInt ≤ 9999) ∧ (0 ≤ (eA g0 236 (x9384.toInt + 1)).toInt ∧ (eA g0 236 (x9384.toInt + 1)).toInt < (eA g0 233 0).toInt) ∧ (0 ≤ (eA g0 236 (x9384.toInt + 2)).toInt ∧ (eA g0 236 (x9384.toInt + 2)).toInt < (eA g0 233 0).toInt) := h; omega)))⟩ ⟨by omega, by omega⟩
        · have c9475_ : v9474.toInt < 8 := en_i_ge_f c9475
          refine At.enter rfl ?_
          refine r_iconst 1 rfl ?_
          refine r_goto ?_
          refine At.enter rfl ?_
          refine r_istore _ rfl ?_
          refine r_iload (w_e1 _ _ _) ?_
          refine r_iff 70 rfl (by decide) ?_
          refine At.enter rfl ?_
          refine r_aload_n (w_p1 (by decide) (Or.inr rfl) e9400) ?_
          refine q_getR (Sh.ref hI9387.1 kx_231 rfl) ?_
          refine r_iload_n (w_p1 (by decide) (Or.inr rfl) e9403) ?_
          obtain ⟨v9480, hv9480⟩ : ∃ v, eA g0 236 x9384.toInt = v := ⟨_, rfl⟩
          refine q_iald (Sh.arr hI9387.1 ka_236) x9384.toInt rfl (by omega) v9480 ((eA_c (hF9388.2.1 236 (by decide))).trans hv9480) ?_
          refine r_aload_n (w_p1 (by decide) (Or.inr rfl) e9400) ?_
          refine q_getR (Sh.ref hI9387.1 kx_231 rfl) ?_
          refine r_iload_n (w_p1 (by decide) (Or.inr rfl) e9403) ?_
          refine r_iconst 3 rfl ?_
          refine q_iadd (x9384.toInt + 3) rfl (by omega) (fun v9481 hv9481 => ?_)
          obtain ⟨v9482, hv9482⟩ : ∃ v, eA g0 236 (x9384.toInt + 3) = v := ⟨_, rfl⟩
          refine q_iald (Sh.arr hI9387.1 ka_236) (x9384.toInt + 3) (by omega) (by omega) v9482 ((eA_c (hF9388.2.1 236 (by decide))).trans hv9482) ?_
          refine r_aload_n (w_p1 (by decide) (Or.inr rfl) e9400) ?_
          refine q_getR (Sh.ref hI9387.1 kx_231 rfl) ?_
          refine r_iload_n (w_p1 (by decide) (Or.inr rfl) e9403) ?_
          refine r_iconst 4 rfl ?_
          refine q_iadd (x9384.toInt + 4) rfl (by omega) (fun v9483 hv9483 => ?_)
          obtain ⟨v9484, hv9484⟩ : ∃ v, eA g0 236 (x9384.toInt + 4) = v := ⟨_, rfl⟩
          refine q_iald (Sh.arr hI9387.1 ka_236) (x9384.toInt + 4) (by omega) (by omega) v9484 ((eA_c (hF9388.2.1 236 (by decide))).trans hv9484) ?_
          refine r_aload_n (w_p1 (by decide) (Or.inr rfl) e9400) ?_
          refine q_getR (Sh.ref hI9387.1 kx_231 rfl) ?_
          refine r_iload_n (w_p1 (by decide) (Or.inr rfl) e9403) ?_
          refine r_iconst 5 rfl ?_
          refine q_iadd (x9384.toInt + 5) rfl (by omega) (fun v9485 hv9485 => ?_)
          obtain ⟨v9486, hv9486⟩ : ∃ v, eA g0 236 (x9384.toInt + 5) = v := ⟨_, rfl⟩
          refine q_iald (Sh.arr hI9387.1 ka_236) (x9384.toInt + 5) (by omega) (by omega) v9486 ((eA_c (hF9388.2.1 236 (by decide))).trans hv9486) ?_
          refine q_inlS 103 rfl [.int v9480, .int v9482, .int v9484, .int v9486] [] (Nat.le_of_ble_eq_true rfl) rfl ?_
          refine Ev.mk rfl rfl ⟨Nat.le_of_ble_eq_true rfl, Or.inl rfl⟩ ?_
          show At _ none _ _ (0, [(0, .int v9480), (1, .int v9482), (2, .int v9484), (3, .int v9486)], [], (_, _)) _
          refine At.enter rfl ?_
          refine r_iload_n rfl ?_
          refine q_i2l (fun v9487 hv9487 => ?_)
          refine r_lconst 1 rfl ?_
          refine r_ldc2 9 rfl ?_
          refine q_inlS 9 rfl [.long v9487, .long 1, .long 9] [] (Nat.le_of_ble_eq_true rfl) rfl ?_
          refine Ev.mk rfl rfl ⟨Nat.le_of_ble_eq_true rfl, Or.inl rfl⟩ ?_
          show At _ none _ _ (0, [(0, .long v9487), (2, .long 1), (4, .long 9)], [], (_, _)) _
          refine At.enter rfl ?_
          refine r_lload_n rfl ?_
          refine r_lload_n rfl ?_
          refine r_lcmp _ rfl ?_
          refine r_ifs 6 rfl (fun c9488 => ?_) (fun c9488 => ?_)
          · have c9488_ : v9487.toInt < 1 := en_j_lt_t c9488
            refine At.enter rfl ?_
            refine r_iconst 0 rfl ?_
            refine Ar.fall 18 rfl ?_
            refine At.enter rfl ?_
            refine q_iretz (by decide) ?_
            refine At.enter rfl ?_
            refine r_ift (by decide) ?_
            refine At.enter rfl ?_
            refine r_iconst 0 rfl ?_
            refine Ar.fall 53 rfl ?_
            refine At.enter rfl ?_
            refine q_iretz (by decide) ?_
            refine At.enter rfl ?_
            refine r_ift (by decide) ?_
            refine At.enter rfl ?_
            refine r_iconst 0 rfl ?_
            refine Ar.fall 141 rfl ?_
            refine At.enter rfl ?_
            refine r_istore _ rfl ?_
            refine r_iload (w_e1 _ _ _) ?_
            refine r_ift (by decide) ?_
            refine At.enter rfl ?_
            refine r_aload_n (w_p1 (by decide) (Or.inr rfl) (w_p1 (by decide) (Or.inr rfl) e9400)) ?_
            refine r_dup rfl ?_
            refine q_getI (Sh.int hI9387.1 kx_231 rfl) x9385 e9392 ?_
            refine r_iconst 1 rfl ?_
            refine q_iadd (x9385.toInt + 1) rfl (by omega) (fun v9489 hv9489 => ?_)
            refine q_putI (Sh.int hI9387.1 kx_231 rfl) rfl ?_
            have hI9490 := HI.wI0 hI9387 kx_231 rfl (p := 231) (b := 6) (v := v9489) rfl
            have hF9491 := Fr.wI (p := 231) (b := 6) (v := v9489) hF9388 rfl
            refine Ar.fall 214 rfl ?_
            refine At.enter rfl ?_
            refine q_iinc (w_p1 (by decide) (Or.inr rfl) (w_p1 (by decide) (Or.inr rfl) e9403)) (x9384.toInt + 6) rfl (by omega) (fun v9492 hv9492 => ?_)
            refine r_goto ?_
            exact ih9391 (405 - v9492.toInt) _ _ ⟨x9383, v9492, v9489, by first | rfl | omega, hI9490, hF9491, (gI_sI_eq hI9387.1 kx_231 rfl _), ((gI_sI_ne (by decide)).trans e9393), ((eA_c gA_sI).trans e9394), ((eA_c gA_sI).trans e9395), ((eA_c gA_sI).trans e9396), ((eA_c gA_sI).trans e9397), ((eA_c gA_sI).trans e9398), ((eA_c gA_sI).trans e9399), (w_p1 (by decide) (Or.inr rfl) (w_p1 (by decide) (Or.inr rfl) (w_p1 (by decide) (Or.inr rfl) e9400))), (w_p1 (by decide) (Or.inr rfl) (w_p1 (by decide) (Or.inr rfl) (w_p1 (by decide) (Or.inr rfl) e9401))), (w_p1 (by decide) (Or.inr rfl) (w_p1 (by decide) (Or.inr rfl) (w_p1 (by decide) (Or.inr rfl) e9402))), (w_e1 _ _ _), by omega, by omega, by omega, by omega, (by intro i i0 i1; refine (eA_ti ((gA_sI))).trans ?_; (first | (refine ((q9408 (i) (by first | exact i0 | omega) (by first | exact i1 | omega))).trans ?_; (first | with_reducible rfl | omega | exact eA_ix (by omega) | rfl)) | (refine ((q9409 (i) (by first | exact i0 | omega) (by first | exact i1 | omega))).trans ?_; (first | with_reducible rfl | omega | exact eA_ix (by omega) | rfl)) | (refine ((q9415 (i) (by first | exact i0 | omega) (by first | exact i1 | omega))).trans ?_; (first | with_reducible rfl | omega | exact eA_ix (by omega) | rfl)))), (by intro i i0 i1; refine (eA_ti ((gA_sI))).trans ?_; (first | (refine ((q9409 (i) (by first | exact i0 | omega) (by first | exact i1 | omega))).trans ?_; (first | with_reducible rfl | omega | exact eA_ix (by omega) | rfl)) | (refine ((q9408 (i) (by first | exact i0 | omega) (by first | exact i1 | omega))).trans ?_; (first | with_reducible rfl | omega | exact eA_ix (by omega) | rfl)) | (refine ((q9415 (i) (by first | exact i0 | omega) (by first | exact i1 | omega))).trans ?_; (first | with_reducible rfl | omega | exact eA_ix (by omega) | rfl)))), by omega, by omega, (RLI.n (by omega) (by omega) q9412 (fun h => by have h2 : x9384.toInt + 6 ≤ (gI g0 231 8).toInt ∧ (eA g9386 233 1).toInt < 8 ∧ (1 ≤ (eA g0 236 x9384.toInt).toInt ∧ (eA g0 236 x9384.toInt).toInt ≤ 9) ∧ (0 ≤ (eA g0 236 (x9384.toInt + 3)).toInt ∧ (eA g0 236 (x9384.toInt + 3)).toInt ≤ 99) ∧ (0 ≤ (eA g0 236 (x9384.toInt + 4)).toInt ∧ (eA g0 236 (x9384.toInt + 4)).toInt ≤ 9) ∧ (0 ≤ (eA g0 236 (x9384.toInt + 5)).toInt ∧ (eA g0 236 (x9384.toInt + 5)).toInt ≤ 9999) ∧ (0 ≤ (eA g0 236 (x9384.toInt + 1)).toInt ∧ (eA g0 236 (x9384.toInt + 1)).toInt < (eA g0 233 0).toInt) ∧ (0 ≤ (eA g0 236 (x9384.toInt + 2)).toInt ∧ (eA g0 236 (x9384.toInt + 2)).toInt < (eA g0 233 0).toInt) := h; have y337_ := congrArg Int32.toInt hv9480; have y338_ := congrArg Int32.toInt hv9482; have y339_ := congrArg Int32.toInt hv9484; have y340_ := congrArg Int32.toInt hv9486; omega) (eA_ti ((gA_sI))) (by omega)), (by have y_ := HI.eqA hI9490 (p := 233) (j := 1) (eA_c (j := 1) ((gA_sI))); omega), by omega, (by intro i i0 i1; refine (eA_ti ((gA_sI))).trans ?_; refine (q9415 i i0 i1).trans ?_; exact RFI.n (by omega) (by omega) q9412 (by omega) rfl (fun k => absurd k.1 (fun h => by have h2 : x9384.toInt + 6 ≤ (gI g0 231 8).toInt ∧ (eA g9386 233 1).toInt < 8 ∧ (1 ≤ (eA g0 236 x9384.toInt).toInt ∧ (eA g0 236 x9384.toInt).toInt ≤ 9) ∧ (0 ≤ (eA g0 236 (x9384.toInt + 3)).toInt ∧ (eA g0 236 (x9384.toInt + 3)).toInt ≤ 99) ∧ (0 ≤ (eA g0 236 (x9384.toInt + 4)).toInt ∧ (eA g0 236 (x9384.toInt + 4)).toInt ≤ 9) ∧ (0 ≤ (eA g0 236 (x9384.toInt + 5)).toInt ∧ (eA g0 236 (x9384.toInt + 5)).toInt ≤ 9999) ∧ (0 ≤ (eA g0 236 (x9384.toInt + 1)).toInt ∧ (eA g0 236 (x9384.toInt + 1)).toInt < (eA g0 233 0).toInt) ∧ (0 ≤ (eA g0 236 (x9384.toInt + 2)).toInt ∧ (eA g0 236 (x9384.toInt + 2)).toInt < (eA g0 233 0).toInt) := h; have y341_ := congrArg Int32.toInt hv9480; have y342_ := congrArg Int32.toInt hv9482; have y343_ := congrArg Int32.toInt hv9484; have y344_ := congrArg Int32.toInt hv9486; omega)))⟩ ⟨by omega, by omega⟩
          · have c9488_ : v9487.toInt ≥ 1 := en_j_lt_f c9488
            refine At.enter rfl ?_
            refine r_lload_n rfl ?_
            refine r_lload rfl ?_
            refine r_lcmp _ rfl ?_
            refine r_ifs 13 rfl (fun c9493 => ?_) (fun c9493 => ?_)
            · have c9493_ : v9487.toInt > 9 := en_j_gt_t c9493
              refine At.enter rfl ?_
              refine r_iconst 0 rfl ?_
              refine Ar.fall 18 rfl ?_
              refine At.enter rfl ?_
              refine q_iretz (by decide) ?_
              refine At.enter rfl ?_
              refine r_ift (by decide) ?_
              refine At.enter rfl ?_
              refine r_iconst 0 rfl ?_
              refine Ar.fall 53 rfl ?_
              refine At.enter rfl ?_
              refine q_iretz (by decide) ?_
              refine At.enter rfl ?_
              refine r_ift (by decide) ?_
              refine At.enter rfl ?_
              refine r_iconst 0 rfl ?_
              refine Ar.fall 141 rfl ?_
              refine At.enter rfl ?_
              refine r_istore _ rfl ?_
              refine r_iload (w_e1 _ _ _) ?_
              refine r_ift (by decide) ?_
              refine At.enter rfl ?_
              refine r_aload_n (w_p1 (by decide) (Or.inr rfl) (w_p1 (by decide) (Or.inr rfl) e9400)) ?_
              refine r_dup rfl ?_
              refine q_getI (Sh.int hI9387.1 kx_231 rfl) x9385 e9392 ?_
              refine r_iconst 1 rfl ?_
              refine q_iadd (x9385.toInt + 1) rfl (by omega) (fun v9494 hv9494 => ?_)
              refine q_putI (Sh.int hI9387.1 kx_231 rfl) rfl ?_
              have hI9495 := HI.wI0 hI9387 kx_231 rfl (p := 231) (b := 6) (v := v9494) rfl
              have hF9496 := Fr.wI (p := 231) (b := 6) (v := v9494) hF9388 rfl
              refine Ar.fall 214 rfl ?_
              refine At.enter rfl ?_
              refine q_iinc (w_p1 (by decide) (Or.inr rfl) (w_p1 (by decide) (Or.inr rfl) e9403)) (x9384.toInt + 6) rfl (by omega) (fun v9497 hv9497 => ?_)
              refine r_goto ?_
              exact ih9391 (405 - v9497.toInt) _ _ ⟨x9383, v9497, v9494, by first | rfl | omega, hI9495, hF9496, (gI_sI_eq hI9387.1 kx_231 rfl _), ((gI_sI_ne (by decide)).trans e9393), ((eA_c gA_sI).trans e9394), ((eA_c gA_sI).trans e9395), ((eA_c gA_sI).trans e9396), ((eA_c gA_sI).trans e9397), ((eA_c gA_sI).trans e9398), ((eA_c gA_sI).trans e9399), (w_p1 (by decide) (Or.inr rfl) (w_p1 (by decide) (Or.inr rfl) (w_p1 (by decide) (Or.inr rfl) e9400))), (w_p1 (by decide) (Or.inr rfl) (w_p1 (by decide) (Or.inr rfl) (w_p1 (by decide) (Or.inr rfl) e9401))), (w_p1 (by decide) (Or.inr rfl) (w_p1 (by decide) (Or.inr rfl) (w_p1 (by decide) (Or.inr rfl) e9402))), (w_e1 _ _ _), by omega, by omega, by omega, by omega, (by intro i i0 i1; refine (eA_ti ((gA_sI))).trans ?_; (first | (refine ((q9408 (i) (by first | exact i0 | omega) (by first | exact i1 | omega))).trans ?_; (first | with_reducible rfl | omega | exact eA_ix (by omega) | rfl)) | (refine ((q9409 (i) (by first | exact i0 | omega) (by first | exact i1 | omega))).trans ?_; (first | with_reducible rfl | omega | exact eA_ix (by omega) | rfl)) | (refine ((q9415 (i) (by first | exact i0 | omega) (by first | exact i1 | omega))).trans ?_; (first | with_reducible rfl | omega | exact eA_ix (by omega) | rfl)))), (by intro i i0 i1; refine (eA_ti ((gA_sI))).trans ?_; (first | (refine ((q9409 (i) (by first | exact i0 | omega) (by first | exact i1 | omega))).trans ?_; (first | with_reducible rfl | omega | exact eA_ix (by omega) | rfl)) | (refine ((q9408 (i) (by first | exact i0 | omega) (by first | exact i1 | omega))).trans ?_; (first | with_reducible rfl | omega | exact eA_ix (by omega) | rfl)) | (refine ((q9415 (i) (by first | exact i0 | omega) (by first | exact i1 | omega))).trans ?_; (first | with_reducible rfl | omega | exact eA_ix (by omega) | rfl)))), by omega, by omega, (RLI.n (by omega) (by omega) q9412 (fun h => by have h2 : x9384.toInt + 6 ≤ (gI g0 231 8).toInt ∧ (eA g9386 233 1).toInt < 8 ∧ (1 ≤ (eA g0 236 x9384.toInt).toInt ∧ (eA g0 236 x9384.toInt).toInt ≤ 9) ∧ (0 ≤ (eA g0 236 (x9384.toInt + 3)).toInt ∧ (eA g0 236 (x9384.toInt + 3)).toInt ≤ 99) ∧ (0 ≤ (eA g0 236 (x9384.toInt + 4)).toInt ∧ (eA g0 236 (x9384.toInt + 4)).toInt ≤ 9) ∧ (0 ≤ (eA g0 236 (x9384.toInt + 5)).toInt ∧ (eA g0 236 (x9384.toInt + 5)).toInt ≤ 9999) ∧ (0 ≤ (eA g0 236 (x9384.toInt + 1)).toInt ∧ (eA g0 236 (x9384.toInt + 1)).toInt < (eA g0 233 0).toInt) ∧ (0 ≤ (eA g0 236 (x9384.toInt + 2)).toInt ∧ (eA g0 236 (x9384.toInt + 2)).toInt < (eA g0 233 0).toInt) := h; have y345_ := congrArg Int32.toInt hv9480; have y346_ := congrArg Int32.toInt hv9482; have y347_ := congrArg Int32.toInt hv9484; have y348_ := congrArg Int32.toInt hv9486; omega) (eA_ti ((gA_sI))) (by omega)), (by have y_ := HI.eqA hI9495 (p := 233) (j := 1) (eA_c (j := 1) ((gA_sI))); omega), by omega, (by intro i i0 i1; refine (eA_ti ((gA_sI))).trans ?_; refine (q9415 i i0 i1).trans ?_; exact RFI.n (by omega) (by omega) q9412 (by omega) rfl (fun k => absurd k.1 (fun h => by have h2 : x9384.toInt + 6 ≤ (gI g0 231 8).toInt ∧ (eA g9386 233 1).toInt < 8 ∧ (1 ≤ (eA g0 236 x9384.toInt).toInt ∧ (eA g0 236 x9384.toInt).toInt ≤ 9) ∧ (0 ≤ (eA g0 236 (x9384.toInt + 3)).toInt ∧ (eA g0 236 (x9384.toInt + 3)).toInt ≤ 99) ∧ (0 ≤ (eA g0 236 (x9384.toInt + 4)).toInt ∧ (eA g0 236 (x9384.toInt + 4)).toInt ≤ 9) ∧ (0 ≤ (eA g0 236 (x9384.toInt + 5)).toInt ∧ (eA g0 236 (x9384.toInt + 5)).toInt ≤ 9999) ∧ (0 ≤ (eA g0 236 (x9384.toInt + 1)).toInt ∧ (eA g0 236 (x9384.toInt + 1)).toInt < (eA g0 233 0).toInt) ∧ (0 ≤ (eA g0 236 (x9384.toInt + 2)).toInt ∧ (eA g0 236 (x9384.toInt + 2)).toInt < (eA g0 233 0).toInt) := h; have y349_ := congrArg Int32.toInt hv9480; have y350_ := congrArg Int32.toInt hv9482; have y351_ := congrArg Int32.toInt hv9484; have y352_ := congrArg Int32.toInt hv9486; omega)))⟩ ⟨by omega, by omega⟩
            · have c9493_ : v9487.toInt ≤ 9 := en_j_gt_f c9493
              refine At.enter rfl ?_
              refine r_iconst 1 rfl ?_
              refine r_goto ?_
              refine At.enter rfl ?_
              refine q_iretz (by decide) ?_
              refine At.enter rfl ?_
              refine r_iff 12 rfl (by decide) ?_
              refine At.enter rfl ?_
              refine r_iload_n rfl ?_
              refine q_i2l (fun v9498 hv9498 => ?_)
              refine r_lconst 0 rfl ?_
              refine r_ldc2 99 rfl ?_
              refine q_inlS 21 rfl [.long v9498, .long 0, .long 99] [] (Nat.le_of_ble_eq_true rfl) rfl ?_
              refine Ev.mk rfl rfl ⟨Nat.le_of_ble_eq_true rfl, Or.inl rfl⟩ ?_
              show At _ none _ _ (0, [(0, .long v9498), (2, .long 0), (4, .long 99)], [], (_, _)) _
              refine At.enter rfl ?_
              refine r_lload_n rfl ?_
              refine r_lload_n rfl ?_
              refine r_lcmp _ rfl ?_
              refine r_ifs 6 rfl (fun c9499 => ?_) (fun c9499 => ?_)
              · have c9499_ : v9498.toInt < 0 := en_j_lt_t c9499
                refine At.enter rfl ?_
                refine r_iconst 0 rfl ?_
                refine Ar.fall 18 rfl ?_
                refine At.enter rfl ?_
                refine q_iretz (by decide) ?_
                refine At.enter rfl ?_
                refine r_ift (by decide) ?_
                refine At.enter rfl ?_
                refine r_iconst 0 rfl ?_
                refine Ar.fall 53 rfl ?_
                refine At.enter rfl ?_
                refine q_iretz (by decide) ?_
                refine At.enter rfl ?_
                refine r_ift (by decide) ?_
                refine At.enter rfl ?_
                refine r_iconst 0 rfl ?_
                refine Ar.fall 141 rfl ?_
                refine At.enter rfl ?_
                refine r_istore _ rfl ?_
                refine r_iload (w_e1 _ _ _) ?_
                refine r_ift (by decide) ?_
                refine At.enter rfl ?_
                refine r_aload_n (w_p1 (by decide) (Or.inr rfl) (w_p1 (by decide) (Or.inr rfl) e9400)) ?_
                refine r_dup rfl ?_
                refine q_getI (Sh.int hI9387.1 kx_231 rfl) x9385 e9392 ?_
                refine r_iconst 1 rfl ?_
                refine q_iadd (x9385.toInt + 1) rfl (by omega) (fun v9500 hv9500 => ?_)
                refine q_putI (Sh.int hI9387.1 kx_231 rfl) rfl ?_
                have hI9501 := HI.wI0 hI9387 kx_231 rfl (p := 231) (b := 6) (v := v9500) rfl
                have hF9502 := Fr.wI (p := 231) (b := 6) (v := v9500) hF9388 rfl
                refine Ar.fall 214 rfl ?_
                refine At.enter rfl ?_
                refine q_iinc (w_p1 (by decide) (Or.inr rfl) (w_p1 (by decide) (Or.inr rfl) e9403)) (x9384.toInt + 6) rfl (by omega) (fun v9503 hv9503 => ?_)
                refine r_goto ?_
                exact ih9391 (405 - v9503.toInt) _ _ ⟨x9383, v9503, v9500, by first | rfl | omega, hI9501, hF9502, (gI_sI_eq hI9387.1 kx_231 rfl _), ((gI_sI_ne (by decide)).trans e9393), ((eA_c gA_sI).trans e9394), ((eA_c gA_sI).trans e9395), ((eA_c gA_sI).trans e9396), ((eA_c gA_sI).trans e9397), ((eA_c gA_sI).trans e9398), ((eA_c gA_sI).trans e9399), (w_p1 (by decide) (Or.inr rfl) (w_p1 (by decide) (Or.inr rfl) (w_p1 (by decide) (Or.inr rfl) e9400))), (w_p1 (by decide) (Or.inr rfl) (w_p1 (by decide) (Or.inr rfl) (w_p1 (by decide) (Or.inr rfl) e9401))), (w_p1 (by decide) (Or.inr rfl) (w_p1 (by decide) (Or.inr rfl) (w_p1 (by decide) (Or.inr rfl) e9402))), (w_e1 _ _ _), by omega, by omega, by omega, by omega, (by intro i i0 i1; refine (eA_ti ((gA_sI))).trans ?_; (first | (refine ((q9408 (i) (by first | exact i0 | omega) (by first | exact i1 | omega))).trans ?_; (first | with_reducible rfl | omega | exact eA_ix (by omega) | rfl)) | (refine ((q9409 (i) (by first | exact i0 | omega) (by first | exact i1 | omega))).trans ?_; (first | with_reducible rfl | omega | exact eA_ix (by omega) | rfl)) | (refine ((q9415 (i) (by first | exact i0 | omega) (by first | exact i1 | omega))).trans ?_; (first | with_reducible rfl | omega | exact eA_ix (by omega) | rfl)))), (by intro i i0 i1; refine (eA_ti ((gA_sI))).trans ?_; (first | (refine ((q9409 (i) (by first | exact i0 | omega) (by first | exact i1 | omega))).trans ?_; (first | with_reducible rfl | omega | exact eA_ix (by omega) | rfl)) | (refine ((q9408 (i) (by first | exact i0 | omega) (by first | exact i1 | omega))).trans ?_; (first | with_reducible rfl | omega | exact eA_ix (by omega) | rfl)) | (refine ((q9415 (i) (by first | exact i0 | omega) (by first | exact i1 | omega))).trans ?_; (first | with_reducible rfl | omega | exact eA_ix (by omega) | rfl)))), by omega, by omega, (RLI.n (by omega) (by omega) q9412 (fun h => by have h2 : x9384.toInt + 6 ≤ (gI g0 231 8).toInt ∧ (eA g9386 233 1).toInt < 8 ∧ (1 ≤ (eA g0 236 x9384.toInt).toInt ∧ (eA g0 236 x9384.toInt).toInt ≤ 9) ∧ (0 ≤ (eA g0 236 (x9384.toInt + 3)).toInt ∧ (eA g0 236 (x9384.toInt + 3)).toInt ≤ 99) ∧ (0 ≤ (eA g0 236 (x9384.toInt + 4)).toInt ∧ (eA g0 236 (x9384.toInt + 4)).toInt ≤ 9) ∧ (0 ≤ (eA g0 236 (x9384.toInt + 5)).toInt ∧ (eA g0 236 (x9384.toInt + 5)).toInt ≤ 9999) ∧ (0 ≤ (eA g0 236 (x9384.toInt + 1)).toInt ∧ (eA g0 236 (x9384.toInt + 1)).toInt < (eA g0 233 0).toInt) ∧ (0 ≤ (eA g0 236 (x9384.toInt + 2)).toInt ∧ (eA g0 236 (x9384.toInt + 2)).toInt < (eA g0 233 0).toInt) := h; have y353_ := congrArg Int32.toInt hv9480; have y354_ := congrArg Int32.toInt hv9482; have y355_ := congrArg Int32.toInt hv9484; have y356_ := congrArg Int32.toInt hv9486; omega) (eA_ti ((gA_sI))) (by omega)), (by have y_ := HI.eqA hI9501 (p := 233) (j := 1) (eA_c (j := 1) ((gA_sI))); omega), by omega, (by intro i i0 i1; refine (eA_ti ((gA_sI))).trans ?_; refine (q9415 i i0 i1).trans ?_; exact RFI.n (by omega) (by omega) q9412 (by omega) rfl (fun k => absurd k.1 (fun h => by have h2 : x9384.toInt + 6 ≤ (gI g0 231 8).toInt ∧ (eA g9386 233 1).toInt < 8 ∧ (1 ≤ (eA g0 236 x9384.toInt).toInt ∧ (eA g0 236 x9384.toInt).toInt ≤ 9) ∧ (0 ≤ (eA g0 236 (x9384.toInt + 3)).toInt ∧ (eA g0 236 (x9384.toInt + 3)).toInt ≤ 99) ∧ (0 ≤ (eA g0 236 (x9384.toInt + 4)).toInt ∧ (eA g0 236 (x9384.toInt + 4)).toInt ≤ 9) ∧ (0 ≤ (eA g0 236 (x9384.toInt + 5)).toInt ∧ (eA g0 236 (x9384.toInt + 5)).toInt ≤ 9999) ∧ (0 ≤ (eA g0 236 (x9384.toInt + 1)).toInt ∧ (eA g0 236 (x9384.toInt + 1)).toInt < (eA g0 233 0).toInt) ∧ (0 ≤ (eA g0 236 (x9384.toInt + 2)).toInt ∧ (eA g0 236 (x9384.toInt + 2)).toInt < (eA g0 233 0).toInt) := h; have y357_ := congrArg Int32.toInt hv9480; have y358_ := congrArg Int32.toInt hv9482; have y359_ := congrArg Int32.toInt hv9484; have y360_ := congrArg Int32.toInt hv9486; omega)))⟩ ⟨by omega, by omega⟩
              · have c9499_ : v9498.toInt ≥ 0 := en_j_lt_f c9499
                refine At.enter rfl ?_
                refine r_lload_n rfl ?_
                refine r_lload rfl ?_
                refine r_lcmp _ rfl ?_
                refine r_ifs 13 rfl (fun c9504 => ?_) (fun c9504 => ?_)
                · have c9504_ : v9498.toInt > 99 := en_j_gt_t c9504
                  refine At.enter rfl ?_
                  refine r_iconst 0 rfl ?_
                  refine Ar.fall 18 rfl ?_
                  refine At.enter rfl ?_
                  refine q_iretz (by decide) ?_
                  refine At.enter rfl ?_
                  refine r_ift (by decide) ?_
                  refine At.enter rfl ?_
                  refine r_iconst 0 rfl ?_
                  refine Ar.fall 53 rfl ?_
                  refine At.enter rfl ?_
                  refine q_iretz (by decide) ?_
                  refine At.enter rfl ?_
                  refine r_ift (by decide) ?_
                  refine At.enter rfl ?_
                  refine r_iconst 0 rfl ?_
                  refine Ar.fall 141 rfl ?_
                  refine At.enter rfl ?_
                  refine r_istore _ rfl ?_
                  refine r_iload (w_e1 _ _ _) ?_
                  refine r_ift (by decide) ?_
                  refine At.enter rfl ?_
                  refine r_aload_n (w_p1 (by decide) (Or.inr rfl) (w_p1 (by decide) (Or.inr rfl) e9400)) ?_
                  refine r_dup rfl ?_
                  refine q_getI (Sh.int hI9387.1 kx_231 rfl) x9385 e9392 ?_
                  refine r_iconst 1 rfl ?_
                  refine q_iadd (x9385.toInt + 1) rfl (by omega) (fun v9505 hv9505 => ?_)
                  refine q_putI (Sh.int hI9387.1 kx_231 rfl) rfl ?_
                  have hI9506 := HI.wI0 hI9387 kx_231 rfl (p := 231) (b := 6) (v := v9505) rfl
                  have hF9507 := Fr.wI (p := 231) (b := 6) (v := v9505) hF9388 rfl
                  refine Ar.fall 214 rfl ?_
                  refine At.enter rfl ?_
                  refine q_iinc (w_p1 (by decide) (Or.inr rfl) (w_p1 (by decide) (Or.inr rfl) e9403)) (x9384.toInt + 6) rfl (by omega) (fun v9508 hv9508 => ?_)
                  refine r_goto ?_
                  exact ih9391 (405 - v9508.toInt) _ _ ⟨x9383, v9508, v9505, by first | rfl | omega, hI9506, hF9507, (gI_sI_eq hI9387.1 kx_231 rfl _), ((gI_sI_ne (by decide)).trans e9393), ((eA_c gA_sI).trans e9394), ((eA_c gA_sI).trans e9395), ((eA_c gA_sI).trans e9396), ((eA_c gA_sI).trans e9397), ((eA_c gA_sI).trans e9398), ((eA_c gA_sI).trans e9399), (w_p1 (by decide) (Or.inr rfl) (w_p1 (by decide) (Or.inr rfl) (w_p1 (by decide) (Or.inr rfl) e9400))), (w_p1 (by decide) (Or.inr rfl) (w_p1 (by decide) (Or.inr rfl) (w_p1 (by decide) (Or.inr rfl) e9401))), (w_p1 (by decide) (Or.inr rfl) (w_p1 (by decide) (Or.inr rfl) (w_p1 (by decide) (Or.inr rfl) e9402))), (w_e1 _ _ _), by omega, by omega, by omega, by omega, (by intro i i0 i1; refine (eA_ti ((gA_sI))).trans ?_; (first | (refine ((q9408 (i) (by first | exact i0 | omega) (by first | exact i1 | omega))).trans ?_; (first | with_reducible rfl | omega | exact eA_ix (by omega) | rfl)) | (refine ((q9409 (i) (by first | exact i0 | omega) (by first | exact i1 | omega))).trans ?_; (first | with_reducible rfl | omega | exact eA_ix (by omega) | rfl)) | (refine ((q9415 (i) (by first | exact i0 | omega) (by first | exact i1 | omega))).trans ?_; (first | with_reducible rfl | omega | exact eA_ix (by omega) | rfl)))), (by intro i i0 i1; refine (eA_ti ((gA_sI))).trans ?_; (first | (refine ((q9409 (i) (by first | exact i0 | omega) (by first | exact i1 | omega))).trans ?_; (first | with_reducible rfl | omega | exact eA_ix (by omega) | rfl)) | (refine ((q9408 (i) (by first | exact i0 | omega) (by first | exact i1 | omega))).trans ?_; (first | with_reducible rfl | omega | exact eA_ix (by omega) | rfl)) | (refine ((q9415 (i) (by first | exact i0 | omega) (by first | exact i1 | omega))).trans ?_; (first | with_reducible rfl | omega | exact eA_ix (by omega) | rfl)))), by omega, by omega, (RLI.n (by omega) (by omega) q9412 (fun h => by have h2 : x9384.toInt + 6 ≤ (gI g0 231 8).toInt ∧ (eA g9386 233 1).toInt < 8 ∧ (1 ≤ (eA g0 236 x9384.toInt).toInt ∧ (eA g0 236 x9384.toInt).toInt ≤ 9) ∧ (0 ≤ (eA g0 236 (x9384.toInt + 3)).toInt ∧ (eA g0 236 (x9384.toInt + 3)).toInt ≤ 99) ∧ (0 ≤ (eA g0 236 (x9384.toInt + 4)).toInt ∧ (eA g0 236 (x9384.toInt + 4)).toInt ≤ 9) ∧ (0 ≤ (eA g0 236 (x9384.toInt + 5)).toInt ∧ (eA g0 236 (x9384.toInt + 5)).toInt ≤ 9999) ∧ (0 ≤ (eA g0 236 (x9384.toInt + 1)).toInt ∧ (eA g0 236 (x9384.toInt + 1)).toInt < (eA g0 233 0).toInt) ∧ (0 ≤ (eA g0 236 (x9384.toInt + 2)).toInt ∧ (eA g0 236 (x9384.toInt + 2)).toInt < (eA g0 233 0).toInt) := h; have y361_ := congrArg Int32.toInt hv9480; have y362_ := congrArg Int32.toInt hv9482; have y363_ := congrArg Int32.toInt hv9484; have y364_ := congrArg Int32.toInt hv9486; omega) (eA_ti ((gA_sI))) (by omega)), (by have y_ := HI.eqA hI9506 (p := 233) (j := 1) (eA_c (j := 1) ((gA_sI))); omega), by omega, (by intro i i0 i1; refine (eA_ti ((gA_sI))).trans ?_; refine (q9415 i i0 i1).trans ?_; exact RFI.n (by omega) (by omega) q9412 (by omega) rfl (fun k => absurd k.1 (fun h => by have h2 : x9384.toInt + 6 ≤ (gI g0 231 8).toInt ∧ (eA g9386 233 1).toInt < 8 ∧ (1 ≤ (eA g0 236 x9384.toInt).toInt ∧ (eA g0 236 x9384.toInt).toInt ≤ 9) ∧ (0 ≤ (eA g0 236 (x9384.toInt + 3)).toInt ∧ (eA g0 236 (x9384.toInt + 3)).toInt ≤ 99) ∧ (0 ≤ (eA g0 236 (x9384.toInt + 4)).toInt ∧ (eA g0 236 (x9384.toInt + 4)).toInt ≤ 9) ∧ (0 ≤ (eA g0 236 (x9384.toInt + 5)).toInt ∧ (eA g0 236 (x9384.toInt + 5)).toInt ≤ 9999) ∧ (0 ≤ (eA g0 236 (x9384.toInt + 1)).toInt ∧ (eA g0 236 (x9384.toInt + 1)).toInt < (eA g0 233 0).toInt) ∧ (0 ≤ (eA g0 236 (x9384.toInt + 2)).toInt ∧ (eA g0 236 (x9384.toInt + 2)).toInt < (eA g0 233 0).toInt) := h; have y365_ := congrArg Int32.toInt hv9480; have y366_ := congrArg Int32.toInt hv9482; have y367_ := congrArg Int32.toInt hv9484; have y368_ := congrArg Int32.toInt hv9486; omega)))⟩ ⟨by omega, by omega⟩
                · have c9504_ : v9498.toInt ≤ 99 := en_j_gt_f c9504
                  refine At.enter rfl ?_
                  refine r_iconst 1 rfl ?_
                  refine r_goto ?_
                  refine At.enter rfl ?_
                  refine q_iretz (by decide) ?_
                  refine At.enter rfl ?_
                  refine r_iff 24 rfl (by decide) ?_
                  refine At.enter rfl ?_
                  refine r_iload_n rfl ?_
                  refine q_i2l (fun v9509 hv9509 => ?_)
                  refine r_lconst 0 rfl ?_
                  refine r_ldc2 9 rfl ?_
                  refine q_inlS 33 rfl [.long v9509, .long 0, .long 9] [] (Nat.le_of_ble_eq_true rfl) rfl ?_
                  refine Ev.mk rfl rfl ⟨Nat.le_of_ble_eq_true rfl, Or.inl rfl⟩ ?_
                  show At _ none _ _ (0, [(0, .long v9509), (2, .long 0), (4, .long 9)], [], (_, _)) _
                  refine At.enter rfl ?_
                  refine r_lload_n rfl ?_
                  refine r_lload_n rfl ?_
                  refine r_lcmp _ rfl ?_
                  refine r_ifs 6 rfl (fun c9510 => ?_) (fun c9510 => ?_)
                  · have c9510_ : v9509.toInt < 0 := en_j_lt_t c9510
                    refine At.enter rfl ?_
                    refine r_iconst 0 rfl ?_
                    refine Ar.fall 18 rfl ?_
                    refine At.enter rfl ?_
                    refine q_iretz (by decide) ?_
                    refine At.enter rfl ?_
                    refine r_ift (by decide) ?_
                    refine At.enter rfl ?_
                    refine r_iconst 0 rfl ?_
                    refine Ar.fall 53 rfl ?_
                    refine At.enter rfl ?_
                    refine q_iretz (by decide) ?_
                    refine At.enter rfl ?_
                    refine r_ift (by decide) ?_
                    refine At.enter rfl ?_
                    refine r_iconst 0 rfl ?_
                    refine Ar.fall 141 rfl ?_
                    refine At.enter rfl ?_
                    refine r_istore _ rfl ?_
                    refine r_iload (w_e1 _ _ _) ?_
                    refine r_ift (by decide) ?_
                    refine At.enter rfl ?_
                    refine r_aload_n (w_p1 (by decide) (Or.inr rfl) (w_p1 (by decide) (Or.inr rfl) e9400)) ?_
                    refine r_dup rfl ?_
                    refine q_getI (Sh.int hI9387.1 kx_231 rfl) x9385 e9392 ?_
                    refine r_iconst 1 rfl ?_
                    refine q_iadd (x9385.toInt + 1) rfl (by omega) (fun v9511 hv9511 => ?_)
                    refine q_putI (Sh.int hI9387.1 kx_231 rfl) rfl ?_
                    have hI9512 := HI.wI0 hI9387 kx_231 rfl (p := 231) (b := 6) (v := v9511) rfl
                    have hF9513 := Fr.wI (p := 231) (b := 6) (v := v9511) hF9388 rfl
                    refine Ar.fall 214 rfl ?_
                    refine At.enter rfl ?_
                    refine q_iinc (w_p1 (by decide) (Or.inr rfl) (w_p1 (by decide) (Or.inr rfl) e9403)) (x9384.toInt + 6) rfl (by omega) (fun v9514 hv9514 => ?_)
                    refine r_goto ?_
                    exact ih9391 (405 - v9514.toInt) _ _ ⟨x9383, v9514, v9511, by first | rfl | omega, hI9512, hF9513, (gI_sI_eq hI9387.1 kx_231 rfl _), ((gI_sI_ne (by decide)).trans e9393), ((eA_c gA_sI).trans e9394), ((eA_c gA_sI).trans e9395), ((eA_c gA_sI).trans e9396), ((eA_c gA_sI).trans e9397), ((eA_c gA_sI).trans e9398), ((eA_c gA_sI).trans e9399), (w_p1 (by decide) (Or.inr rfl) (w_p1 (by decide) (Or.inr rfl) (w_p1 (by decide) (Or.inr rfl) e9400))), (w_p1 (by decide) (Or.inr rfl) (w_p1 (by decide) (Or.inr rfl) (w_p1 (by decide) (Or.inr rfl) e9401))), (w_p1 (by decide) (Or.inr rfl) (w_p1 (by decide) (Or.inr rfl) (w_p1 (by decide) (Or.inr rfl) e9402))), (w_e1 _ _ _), by omega, by omega, by omega, by omega, (by intro i i0 i1; refine (eA_ti ((gA_sI))).trans ?_; (first | (refine ((q9408 (i) (by first | exact i0 | omega) (by first | exact i1 | omega))).trans ?_; (first | with_reducible rfl | omega | exact eA_ix (by omega) | rfl)) | (refine ((q9409 (i) (by first | exact i0 | omega) (by first | exact i1 | omega))).trans ?_; (first | with_reducible rfl | omega | exact eA_ix (by omega) | rfl)) | (refine ((q9415 (i) (by first | exact i0 | omega) (by first | exact i1 | omega))).trans ?_; (first | with_reducible rfl | omega | exact eA_ix (by omega) | rfl)))), (by intro i i0 i1; refine (eA_ti ((gA_sI))).trans ?_; (first | (refine ((q9409 (i) (by first | exact i0 | omega) (by first | exact i1 | omega))).trans ?_; (first | with_reducible rfl | omega | exact eA_ix (by omega) | rfl)) | (refine ((q9408 (i) (by first | exact i0 | omega) (by first | exact i1 | omega))).trans ?_; (first | with_reducible rfl | omega | exact eA_ix (by omega) | rfl)) | (refine ((q9415 (i) (by first | exact i0 | omega) (by first | exact i1 | omega))).trans ?_; (first | with_reducible rfl | omega | exact eA_ix (by omega) | rfl)))), by omega, by omega, (RLI.n (by omega) (by omega) q9412 (fun h => by have h2 : x9384.toInt + 6 ≤ (gI g0 231 8).toInt ∧ (eA g9386 233 1).toInt < 8 ∧ (1 ≤ (eA g0 236 x9384.toInt).toInt ∧ (eA g0 236 x9384.toInt).toInt ≤ 9) ∧ (0 ≤ (eA g0 236 (x9384.toInt + 3)).toInt ∧ (eA g0 236 (x9384.toInt + 3)).toInt ≤ 99) ∧ (0 ≤ (eA g0 236 (x9384.toInt + 4)).toInt ∧ (eA g0 236 (x9384.toInt + 4)).toInt ≤ 9) ∧ (0 ≤ (eA g0 236 (x9384.toInt + 5)).toInt ∧ (eA g0 236 (x9384.toInt + 5)).toInt ≤ 9999) ∧ (0 ≤ (eA g0 236 (x9384.toInt + 1)).toInt ∧ (eA g0 236 (x9384.toInt + 1)).toInt < (eA g0 233 0).toInt) ∧ (0 ≤ (eA g0 236 (x9384.toInt + 2)).toInt ∧ (eA g0 236 (x9384.toInt + 2)).toInt < (eA g0 233 0).toInt) := h; have y369_ := congrArg Int32.toInt hv9480; have y370_ := congrArg Int32.toInt hv9482; have y371_ := congrArg Int32.toInt hv9484; have y372_ := congrArg Int32.toInt hv9486; omega) (eA_ti ((gA_sI))) (by omega)), (by have y_ := HI.eqA hI9512 (p := 233) (j := 1) (eA_c (j := 1) ((gA_sI))); omega), by omega, (by intro i i0 i1; refine (eA_ti ((gA_sI))).trans ?_; refine (q9415 i i0 i1).trans ?_; exact RFI.n (by omega) (by omega) q9412 (by omega) rfl (fun k => absurd k.1 (fun h => by have h2 : x9384.toInt + 6 ≤ (gI g0 231 8).toInt ∧ (eA g9386 233 1).toInt < 8 ∧ (1 ≤ (eA g0 236 x9384.toInt).toInt ∧ (eA g0 236 x9384.toInt).toInt ≤ 9) ∧ (0 ≤ (eA g0 236 (x9384.toInt + 3)).toInt ∧ (eA g0 236 (x9384.toInt + 3)).toInt ≤ 99) ∧ (0 ≤ (eA g0 236 (x9384.toInt + 4)).toInt ∧ (eA g0 236 (x9384.toInt + 4)).toInt ≤ 9) ∧ (0 ≤ (eA g0 236 (x9384.toInt + 5)).toInt ∧ (eA g0 236 (x9384.toInt + 5)).toInt ≤ 9999) ∧ (0 ≤ (eA g0 236 (x9384.toInt + 1)).toInt ∧ (eA g0 236 (x9384.toInt + 1)).toInt < (eA g0 233 0).toInt) ∧ (0 ≤ (eA g0 236 (x9384.toInt + 2)).toInt ∧ (eA g0 236 (x9384.toInt + 2)).toInt < (eA g0 233 0).toInt) := h; have y373_ := congrArg Int32.toInt hv9480; have y374_ := congrArg Int32.toInt hv9482; have y375_ := congrArg Int32.toInt hv9484; have y376_ := congrArg Int32.toInt hv9486; omega)))⟩ ⟨by omega, by omega⟩
                  · have c9510_ : v9509.toInt ≥ 0 := en_j_lt_f c9510
                    refine At.enter rfl ?_
                    refine r_lload_n rfl ?_
                    refine r_lload rfl ?_
                    refine r_lcmp _ rfl ?_
                    refine r_ifs 13 rfl (fun c9515 => ?_) (fun c9515 => ?_)
                    · have c9515_ : v9509.toInt > 9 := en_j_gt_t c9515
                      refine At.enter rfl ?_
                      refine r_iconst 0 rfl ?_
                      refine Ar.fall 18 rfl ?_
                      refine At.enter rfl ?_
                      refine q_iretz (by decide) ?_
                      refine At.enter rfl ?_
                      refine r_ift (by decide) ?_
                      refine At.enter rfl ?_
                      refine r_iconst 0 rfl ?_
                      refine Ar.fall 53 rfl ?_
                      refine At.enter rfl ?_
                      refine q_iretz (by decide) ?_
                      refine At.enter rfl ?_
                      refine r_ift (by decide) ?_
                      refine At.enter rfl ?_
                      refine r_iconst 0 rfl ?_
                      refine Ar.fall 141 rfl ?_
                      refine At.enter rfl ?_
                      refine r_istore _ rfl ?_
                      refine r_iload (w_e1 _ _ _) ?_
                      refine r_ift (by decide) ?_
                      refine At.enter rfl ?_
                      refine r_aload_n (w_p1 (by decide) (Or.inr rfl) (w_p1 (by decide) (Or.inr rfl) e9400)) ?_
                      refine r_dup rfl ?_
                      refine q_getI (Sh.int hI9387.1 kx_231 rfl) x9385 e9392 ?_
                      refine r_iconst 1 rfl ?_
                      refine q_iadd (x9385.toInt + 1) rfl (by omega) (fun v9516 hv9516 => ?_)
                      refine q_putI (Sh.int hI9387.1 kx_231 rfl) rfl ?_
                      have hI9517 := HI.wI0 hI9387 kx_231 rfl (p := 231) (b := 6) (v := v9516) rfl
                      have hF9518 := Fr.wI (p := 231) (b := 6) (v := v9516) hF9388 rfl
                      refine Ar.fall 214 rfl ?_
                      refine At.enter rfl ?_
                      refine q_iinc (w_p1 (by decide) (Or.inr rfl) (w_p1 (by decide) (Or.inr rfl) e9403)) (x9384.toInt + 6) rfl (by omega) (fun v9519 hv9519 => ?_)
                      refine r_goto ?_
                      exact ih9391 (405 - v9519.toInt) _ _ ⟨x9383, v9519, v9516, by first | rfl | omega, hI9517, hF9518, (gI_sI_eq hI9387.1 kx_231 rfl _), ((gI_sI_ne (by decide)).trans e9393), ((eA_c gA_sI).trans e9394), ((eA_c gA_sI).trans e9395), ((eA_c gA_sI).trans e9396), ((eA_c gA_sI).trans e9397), ((eA_c gA_sI).trans e9398), ((eA_c gA_sI).trans e9399), (w_p1 (by decide) (Or.inr rfl) (w_p1 (by decide) (Or.inr rfl) (w_p1 (by decide) (Or.inr rfl) e9400))), (w_p1 (by decide) (Or.inr rfl) (w_p1 (by decide) (Or.inr rfl) (w_p1 (by decide) (Or.inr rfl) e9401))), (w_p1 (by decide) (Or.inr rfl) (w_p1 (by decide) (Or.inr rfl) (w_p1 (by decide) (Or.inr rfl) e9402))), (w_e1 _ _ _), by omega, by omega, by omega, by omega, (by intro i i0 i1; refine (eA_ti ((gA_sI))).trans ?_; (first | (refine ((q9408 (i) (by first | exact i0 | omega) (by first | exact i1 | omega))).trans ?_; (first | with_reducible rfl | omega | exact eA_ix (by omega) | rfl)) | (refine ((q9409 (i) (by first | exact i0 | omega) (by first | exact i1 | omega))).trans ?_; (first | with_reducible rfl | omega | exact eA_ix (by omega) | rfl)) | (refine ((q9415 (i) (by first | exact i0 | omega) (by first | exact i1 | omega))).trans ?_; (first | with_reducible rfl | omega | exact eA_ix (by omega) | rfl)))), (by intro i i0 i1; refine (eA_ti ((gA_sI))).trans ?_; (first | (refine ((q9409 (i) (by first | exact i0 | omega) (by first | exact i1 | omega))).trans ?_; (first | with_reducible rfl | omega | exact eA_ix (by omega) | rfl)) | (refine ((q9408 (i) (by first | exact i0 | omega) (by first | exact i1 | omega))).trans ?_; (first | with_reducible rfl | omega | exact eA_ix (by omega) | rfl)) | (refine ((q9415 (i) (by first | exact i0 | omega) (by first | exact i1 | omega))).trans ?_; (first | with_reducible rfl | omega | exact eA_ix (by omega) | rfl)))), by omega, by omega, (RLI.n (by omega) (by omega) q9412 (fun h => by have h2 : x9384.toInt + 6 ≤ (gI g0 231 8).toInt ∧ (eA g9386 233 1).toInt < 8 ∧ (1 ≤ (eA g0 236 x9384.toInt).toInt ∧ (eA g0 236 x9384.toInt).toInt ≤ 9) ∧ (0 ≤ (eA g0 236 (x9384.toInt + 3)).toInt ∧ (eA g0 236 (x9384.toInt + 3)).toInt ≤ 99) ∧ (0 ≤ (eA g0 236 (x9384.toInt + 4)).toInt ∧ (eA g0 236 (x9384.toInt + 4)).toInt ≤ 9) ∧ (0 ≤ (eA g0 236 (x9384.toInt + 5)).toInt ∧ (eA g0 236 (x9384.toInt + 5)).toInt ≤ 9999) ∧ (0 ≤ (eA g0 236 (x9384.toInt + 1)).toInt ∧ (eA g0 236 (x9384.toInt + 1)).toInt < (eA g0 233 0).toInt) ∧ (0 ≤ (eA g0 236 (x9384.toInt + 2)).toInt ∧ (eA g0 236 (x9384.toInt + 2)).toInt < (eA g0 233 0).toInt) := h; have y377_ := congrArg Int32.toInt hv9480; have y378_ := congrArg Int32.toInt hv9482; have y379_ := congrArg Int32.toInt hv9484; have y380_ := congrArg Int32.toInt hv9486; omega) (eA_ti ((gA_sI))) (by omega)), (by have y_ := HI.eqA hI9517 (p := 233) (j := 1) (eA_c (j := 1) ((gA_sI))); omega), by omega, (by intro i i0 i1; refine (eA_ti ((gA_sI))).trans ?_; refine (q9415 i i0 i1).trans ?_; exact RFI.n (by omega) (by omega) q9412 (by omega) rfl (fun k => absurd k.1 (fun h => by have h2 : x9384.toInt + 6 ≤ (gI g0 231 8).toInt ∧ (eA g9386 233 1).toInt < 8 ∧ (1 ≤ (eA g0 236 x9384.toInt).toInt ∧ (eA g0 236 x9384.toInt).toInt ≤ 9) ∧ (0 ≤ (eA g0 236 (x9384.toInt + 3)).toInt ∧ (eA g0 236 (x9384.toInt + 3)).toInt ≤ 99) ∧ (0 ≤ (eA g0 236 (x9384.toInt + 4)).toInt ∧ (eA g0 236 (x9384.toInt + 4)).toInt ≤ 9) ∧ (0 ≤ (eA g0 236 (x9384.toInt + 5)).toInt ∧ (eA g0 236 (x9384.toInt + 5)).toInt ≤ 9999) ∧ (0 ≤ (eA g0 236 (x9384.toInt + 1)).toInt ∧ (eA g0 236 (x9384.toInt + 1)).toInt < (eA g0 233 0).toInt) ∧ (0 ≤ (eA g0 236 (x9384.toInt + 2)).toInt ∧ (eA g0 236 (x9384.toInt + 2)).toInt < (eA g0 233 0).toInt) := h; have y381_ := congrArg Int32.toInt hv9480; have y382_ := congrArg Int32.toInt hv9482; have y383_ := congrArg Int32.toInt hv9484; have y384_ := congrArg Int32.toInt hv9486; omega)))⟩ ⟨by omega, by omega⟩
                    · have c9515_ : v9509.toInt ≤ 9 := en_j_gt_f c9515
                      refine At.enter rfl ?_
                      refine r_iconst 1 rfl ?_
                      refine r_goto ?_
                      refine At.enter rfl ?_
                      refine q_iretz (by decide) ?_
                      refine At.enter rfl ?_
                      refine r_iff 36 rfl (by decide) ?_
                      refine At.enter rfl ?_
                      refine r_iload_n rfl ?_
                      refine q_i2l (fun v9520 hv9520 => ?_)
                      refine r_lconst 0 rfl ?_
                      refine r_ldc2 9999 rfl ?_
                      refine q_inlS 45 rfl [.long v9520, .long 0, .long 9999] [] (Nat.le_of_ble_eq_true rfl) rfl ?_
                      refine Ev.mk rfl rfl ⟨Nat.le_of_ble_eq_true rfl, Or.inl rfl⟩ ?_
                      show At _ none _ _ (0, [(0, .long v9520), (2, .long 0), (4, .long 9999)], [], (_, _)) _
                      refine At.enter rfl ?_
                      refine r_lload_n rfl ?_
                      refine r_lload_n rfl ?_
                      refine r_lcmp _ rfl ?_
                      refine r_ifs 6 rfl (fun c9521 => ?_) (fun c9521 => ?_)
                      · have c9521_ : v9520.toInt < 0 := en_j_lt_t c9521
                        refine At.enter rfl ?_
                        refine r_iconst 0 rfl ?_
                        refine Ar.fall 18 rfl ?_
                        refine At.enter rfl ?_
                        refine q_iretz (by decide) ?_
                        refine At.enter rfl ?_
                        refine r_ift (by decide) ?_
                        refine At.enter rfl ?_
                        refine r_iconst 0 rfl ?_
                        refine Ar.fall 53 rfl ?_
                        refine At.enter rfl ?_
                        refine q_iretz (by decide) ?_
                        refine At.enter rfl ?_
                        refine r_ift (by decide) ?_
                        refine At.enter rfl ?_
                        refine r_iconst 0 rfl ?_
                        refine Ar.fall 141 rfl ?_
                        refine At.enter rfl ?_
                        refine r_istore _ rfl ?_
                        refine r_iload (w_e1 _ _ _) ?_
                        refine r_ift (by decide) ?_
                        refine At.enter rfl ?_
                        refine r_aload_n (w_p1 (by decide) (Or.inr rfl) (w_p1 (by decide) (Or.inr rfl) e9400)) ?_
                        refine r_dup rfl ?_
                        refine q_getI (Sh.int hI9387.1 kx_231 rfl) x9385 e9392 ?_
                        refine r_iconst 1 rfl ?_
                        refine q_iadd (x9385.toInt + 1) rfl (by omega) (fun v9522 hv9522 => ?_)
                        refine q_putI (Sh.int hI9387.1 kx_231 rfl) rfl ?_
                        have hI9523 := HI.wI0 hI9387 kx_231 rfl (p := 231) (b := 6) (v := v9522) rfl
                        have hF9524 := Fr.wI (p := 231) (b := 6) (v := v9522) hF9388 rfl
                        refine Ar.fall 214 rfl ?_
                        refine At.enter rfl ?_
                        refine q_iinc (w_p1 (by decide) (Or.inr rfl) (w_p1 (by decide) (Or.inr rfl) e9403)) (x9384.toInt + 6) rfl (by omega) (fun v9525 hv9525 => ?_)
                        refine r_goto ?_
                        exact ih9391 (405 - v9525.toInt) _ _ ⟨x9383, v9525, v9522, by first | rfl | omega, hI9523, hF9524, (gI_sI_eq hI9387.1 kx_231 rfl _), ((gI_sI_ne (by decide)).trans e9393), ((eA_c gA_sI).trans e9394), ((eA_c gA_sI).trans e9395), ((eA_c gA_sI).trans e9396), ((eA_c gA_sI).trans e9397), ((eA_c gA_sI).trans e9398), ((eA_c gA_sI).trans e9399), (w_p1 (by decide) (Or.inr rfl) (w_p1 (by decide) (Or.inr rfl) (w_p1 (by decide) (Or.inr rfl) e9400))), (w_p1 (by decide) (Or.inr rfl) (w_p1 (by decide) (Or.inr rfl) (w_p1 (by decide) (Or.inr rfl) e9401))), (w_p1 (by decide) (Or.inr rfl) (w_p1 (by decide) (Or.inr rfl) (w_p1 (by decide) (Or.inr rfl) e9402))), (w_e1 _ _ _), by omega, by omega, by omega, by omega, (by intro i i0 i1; refine (eA_ti ((gA_sI))).trans ?_; (first | (refine ((q9408 (i) (by first | exact i0 | omega) (by first | exact i1 | omega))).trans ?_; (first | with_reducible rfl | omega | exact eA_ix (by omega) | rfl)) | (refine ((q9409 (i) (by first | exact i0 | omega) (by first | exact i1 | omega))).trans ?_; (first | with_reducible rfl | omega | exact eA_ix (by omega) | rfl)) | (refine ((q9415 (i) (by first | exact i0 | omega) (by first | exact i1 | omega))).trans ?_; (first | with_reducible rfl | omega | exact eA_ix (by omega) | rfl)))), (by intro i i0 i1; refine (eA_ti ((gA_sI))).trans ?_; (first | (refine ((q9409 (i) (by first | exact i0 | omega) (by first | exact i1 | omega))).trans ?_; (first | with_reducible rfl | omega | exact eA_ix (by omega) | rfl)) | (refine ((q9408 (i) (by first | exact i0 | omega) (by first | exact i1 | omega))).trans ?_; (first | with_reducible rfl | omega | exact eA_ix (by omega) | rfl)) | (refine ((q9415 (i) (by first | exact i0 | omega) (by first | exact i1 | omega))).trans ?_; (first | with_reducible rfl | omega | exact eA_ix (by omega) | rfl)))), by omega, by omega, (RLI.n (by omega) (by omega) q9412 (fun h => by have h2 : x9384.toInt + 6 ≤ (gI g0 231 8).toInt ∧ (eA g9386 233 1).toInt < 8 ∧ (1 ≤ (eA g0 236 x9384.toInt).toInt ∧ (eA g0 236 x9384.toInt).toInt ≤ 9) ∧ (0 ≤ (eA g0 236 (x9384.toInt + 3)).toInt ∧ (eA g0 236 (x9384.toInt + 3)).toInt ≤ 99) ∧ (0 ≤ (eA g0 236 (x9384.toInt + 4)).toInt ∧ (eA g0 236 (x9384.toInt + 4)).toInt ≤ 9) ∧ (0 ≤ (eA g0 236 (x9384.toInt + 5)).toInt ∧ (eA g0 236 (x9384.toInt + 5)).toInt ≤ 9999) ∧ (0 ≤ (eA g0 236 (x9384.toInt + 1)).toInt ∧ (eA g0 236 (x9384.toInt + 1)).toInt < (eA g0 233 0).toInt) ∧ (0 ≤ (eA g0 236 (x9384.toInt + 2)).toInt ∧ (eA g0 236 (x9384.toInt + 2)).toInt < (eA g0 233 0).toInt) := h; have y385_ := congrArg Int32.toInt hv9480; have y386_ := congrArg Int32.toInt hv9482; have y387_ := congrArg Int32.toInt hv9484; have y388_ := congrArg Int32.toInt hv9486; omega) (eA_ti ((gA_sI))) (by omega)), (by have y_ := HI.eqA hI9523 (p := 233) (j := 1) (eA_c (j := 1) ((gA_sI))); omega), by omega, (by intro i i0 i1; refine (eA_ti ((gA_sI))).trans ?_; refine (q9415 i i0 i1).trans ?_; exact RFI.n (by omega) (by omega) q9412 (by omega) rfl (fun k => absurd k.1 (fun h => by have h2 : x9384.toInt + 6 ≤ (gI g0 231 8).toInt ∧ (eA g9386 233 1).toInt < 8 ∧ (1 ≤ (eA g0 236 x9384.toInt).toInt ∧ (eA g0 236 x9384.toInt).toInt ≤ 9) ∧ (0 ≤ (eA g0 236 (x9384.toInt + 3)).toInt ∧ (eA g0 236 (x9384.toInt + 3)).toInt ≤ 99) ∧ (0 ≤ (eA g0 236 (x9384.toInt + 4)).toInt ∧ (eA g0 236 (x9384.toInt + 4)).toInt ≤ 9) ∧ (0 ≤ (eA g0 236 (x9384.toInt + 5)).toInt ∧ (eA g0 236 (x9384.toInt + 5)).toInt ≤ 9999) ∧ (0 ≤ (eA g0 236 (x9384.toInt + 1)).toInt ∧ (eA g0 236 (x9384.toInt + 1)).toInt < (eA g0 233 0).toInt) ∧ (0 ≤ (eA g0 236 (x9384.toInt + 2)).toInt ∧ (eA g0 236 (x9384.toInt + 2)).toInt < (eA g0 233 0).toInt) := h; have y389_ := congrArg Int32.toInt hv9480; have y390_ := congrArg Int32.toInt hv9482; have y391_ := congrArg Int32.toInt hv9484; have y392_ := congrArg Int32.toInt hv9486; omega)))⟩ ⟨by omega, by omega⟩
                      · have c9521_ : v9520.toInt ≥ 0 := en_j_lt_f c9521
                        refine At.enter rfl ?_
                        refine r_lload_n rfl ?_
                        refine r_lload rfl ?_
                        refine r_lcmp _ rfl ?_
                        refine r_ifs 13 rfl (fun c9526 => ?_) (fun c9526 => ?_)
                        · have c9526_ : v9520.toInt > 9999 := en_j_gt_t c9526
                          refine At.enter rfl ?_
                          refine r_iconst 0 rfl ?_
                          refine Ar.fall 18 rfl ?_
                          refine At.enter rfl ?_
                          refine q_iretz (by decide) ?_
                          refine At.enter rfl ?_
                          refine r_ift (by decide) ?_
                          refine At.enter rfl ?_
                          refine r_iconst 0 rfl ?_
                          refine Ar.fall 53 rfl ?_
                          refine At.enter rfl ?_
                          refine q_iretz (by decide) ?_
                          refine At.enter rfl ?_
                          refine r_ift (by decide) ?_
                          refine At.enter rfl ?_
                          refine r_iconst 0 rfl ?_
                          refine Ar.fall 141 rfl ?_
                          refine At.enter rfl ?_
                          refine r_istore _ rfl ?_
                          refine r_iload (w_e1 _ _ _) ?_
                          refine r_ift (by decide) ?_
                          refine At.enter rfl ?_
                          refine r_aload_n (w_p1 (by decide) (Or.inr rfl) (w_p1 (by decide) (Or.inr rfl) e9400)) ?_
                          refine r_dup rfl ?_
                          refine q_getI (Sh.int hI9387.1 kx_231 rfl) x9385 e9392 ?_
                          refine r_iconst 1 rfl ?_
                          refine q_iadd (x9385.toInt + 1) rfl (by omega) (fun v9527 hv9527 => ?_)
                          refine q_putI (Sh.int hI9387.1 kx_231 rfl) rfl ?_
                          have hI9528 := HI.wI0 hI9387 kx_231 rfl (p := 231) (b := 6) (v := v9527) rfl
                          have hF9529 := Fr.wI (p := 231) (b := 6) (v := v9527) hF9388 rfl
                          refine Ar.fall 214 rfl ?_
                          refine At.enter rfl ?_
                          refine q_iinc (w_p1 (by decide) (Or.inr rfl) (w_p1 (by decide) (Or.inr rfl) e9403)) (x9384.toInt + 6) rfl (by omega) (fun v9530 hv9530 => ?_)
                          refine r_goto ?_
                          exact ih9391 (405 - v9530.toInt) _ _ ⟨x9383, v9530, v9527, by first | rfl | omega, hI9528, hF9529, (gI_sI_eq hI9387.1 kx_231 rfl _), ((gI_sI_ne (by decide)).trans e9393), ((eA_c gA_sI).trans e9394), ((eA_c gA_sI).trans e9395), ((eA_c gA_sI).trans e9396), ((eA_c gA_sI).trans e9397), ((eA_c gA_sI).trans e9398), ((eA_c gA_sI).trans e9399), (w_p1 (by decide) (Or.inr rfl) (w_p1 (by decide) (Or.inr rfl) (w_p1 (by decide) (Or.inr rfl) e9400))), (w_p1 (by decide) (Or.inr rfl) (w_p1 (by decide) (Or.inr rfl) (w_p1 (by decide) (Or.inr rfl) e9401))), (w_p1 (by decide) (Or.inr rfl) (w_p1 (by decide) (Or.inr rfl) (w_p1 (by decide) (Or.inr rfl) e9402))), (w_e1 _ _ _), by omega, by omega, by omega, by omega, (by intro i i0 i1; refine (eA_ti ((gA_sI))).trans ?_; (first | (refine ((q9408 (i) (by first | exact i0 | omega) (by first | exact i1 | omega))).trans ?_; (first | with_reducible rfl | omega | exact eA_ix (by omega) | rfl)) | (refine ((q9409 (i) (by first | exact i0 | omega) (by first | exact i1 | omega))).trans ?_; (first | with_reducible rfl | omega | exact eA_ix (by omega) | rfl)) | (refine ((q9415 (i) (by first | exact i0 | omega) (by first | exact i1 | omega))).trans ?_; (first | with_reducible rfl | omega | exact eA_ix (by omega) | rfl)))), (by intro i i0 i1; refine (eA_ti ((gA_sI))).trans ?_; (first | (refine ((q9409 (i) (by first | exact i0 | omega) (by first | exact i1 | omega))).trans ?_; (first | with_reducible rfl | omega | exact eA_ix (by omega) | rfl)) | (refine ((q9408 (i) (by first | exact i0 | omega) (by first | exact i1 | omega))).trans ?_; (first | with_reducible rfl | omega | exact eA_ix (by omega) | rfl)) | (refine ((q9415 (i) (by first | exact i0 | omega) (by first | exact i1 | omega))).trans ?_; (first | with_reducible rfl | omega | exact eA_ix (by omega) | rfl)))), by omega, by omega, (RLI.n (by omega) (by omega) q9412 (fun h => by have h2 : x9384.toInt + 6 ≤ (gI g0 231 8).toInt ∧ (eA g9386 233 1).toInt < 8 ∧ (1 ≤ (eA g0 236 x9384.toInt).toInt ∧ (eA g0 236 x9384.toInt).toInt ≤ 9) ∧ (0 ≤ (eA g0 236 (x9384.toInt + 3)).toInt ∧ (eA g0 236 (x9384.toInt + 3)).toInt ≤ 99) ∧ (0 ≤ (eA g0 236 (x9384.toInt + 4)).toInt ∧ (eA g0 236 (x9384.toInt + 4)).toInt ≤ 9) ∧ (0 ≤ (eA g0 236 (x9384.toInt + 5)).toInt ∧ (eA g0 236 (x9384.toInt + 5)).toInt ≤ 9999) ∧ (0 ≤ (eA g0 236 (x9384.toInt + 1)).toInt ∧ (eA g0 236 (x9384.toInt + 1)).toInt < (eA g0 233 0).toInt) ∧ (0 ≤ (eA g0 236 (x9384.toInt + 2)).toInt ∧ (eA g0 236 (x9384.toInt + 2)).toInt < (eA g0 233 0).toInt) := h; have y393_ := congrArg Int32.toInt hv9480; have y394_ := congrArg Int32.toInt hv9482; have y395_ := congrArg Int32.toInt hv9484; have y396_ := congrArg Int32.toInt hv9486; omega) (eA_ti ((gA_sI))) (by omega)), (by have y_ := HI.eqA hI9528 (p := 233) (j := 1) (eA_c (j := 1) ((gA_sI))); omega), by omega, (by intro i i0 i1; refine (eA_ti ((gA_sI))).trans ?_; refine (q9415 i i0 i1).trans ?_; exact RFI.n (by omega) (by omega) q9412 (by omega) rfl (fun k => absurd k.1 (fun h => by have h2 : x9384.toInt + 6 ≤ (gI g0 231 8).toInt ∧ (eA g9386 233 1).toInt < 8 ∧ (1 ≤ (eA g0 236 x9384.toInt).toInt ∧ (eA g0 236 x9384.toInt).toInt ≤ 9) ∧ (0 ≤ (eA g0 236 (x9384.toInt + 3)).toInt ∧ (eA g0 236 (x9384.toInt + 3)).toInt ≤ 99) ∧ (0 ≤ (eA g0 236 (x9384.toInt + 4)).toInt ∧ (eA g0 236 (x9384.toInt + 4)).toInt ≤ 9) ∧ (0 ≤ (eA g0 236 (x9384.toInt + 5)).toInt ∧ (eA g0 236 (x9384.toInt + 5)).toInt ≤ 9999) ∧ (0 ≤ (eA g0 236 (x9384.toInt + 1)).toInt ∧ (eA g0 236 (x9384.toInt + 1)).toInt < (eA g0 233 0).toInt) ∧ (0 ≤ (eA g0 236 (x9384.toInt + 2)).toInt ∧ (eA g0 236 (x9384.toInt + 2)).toInt < (eA g0 233 0).toInt) := h; have y397_ := congrArg Int32.toInt hv9480; have y398_ := congrArg Int32.toInt hv9482; have y399_ := congrArg Int32.toInt hv9484; have y400_ := congrArg Int32.toInt hv9486; omega)))⟩ ⟨by omega, by omega⟩
                        · have c9526_ : v9520.toInt ≤ 9999 := en_j_gt_f c9526
                          refine At.enter rfl ?_
                          refine r_iconst 1 rfl ?_
                          refine r_goto ?_
                          refine At.enter rfl ?_
                          refine q_iretz (by decide) ?_
                          refine At.enter rfl ?_
                          refine r_iff 48 rfl (by decide) ?_
                          refine At.enter rfl ?_
                          refine r_iconst 1 rfl ?_
                          refine r_goto ?_
                          refine At.enter rfl ?_
                          refine q_iretz (by decide) ?_
                          refine At.enter rfl ?_
                          refine r_iff 106 rfl (by decide) ?_
                          refine At.enter rfl ?_
                          refine r_aload_n (w_p1 (by decide) (Or.inr rfl) e9400) ?_
                          refine r_aload_n (w_p1 (by decide) (Or.inr rfl) e9400) ?_
                          refine q_getR (Sh.ref hI9387.1 kx_231 rfl) ?_
                          refine r_iload_n (w_p1 (by decide) (Or.inr rfl) e9403) ?_
                          refine r_iconst 1 rfl ?_
                          refine q_iadd (x9384.toInt + 1) rfl (by omega) (fun v9531 hv9531 => ?_)
                          obtain ⟨v9532, hv9532⟩ : ∃ v, eA g0 236 (x9384.toInt + 1) = v := ⟨_, rfl⟩
                          refine q_iald (Sh.arr hI9387.1 ka_236) (x9384.toInt + 1) (by omega) (by omega) v9532 ((eA_c (hF9388.2.1 236 (by decide))).trans hv9532) ?_
                          refine q_inlV 118 rfl [.ref 231, .int v9532] [] (Nat.le_of_ble_eq_true rfl) rfl ?_
                          refine Ev.mk rfl rfl ⟨Nat.le_of_ble_eq_true rfl, Or.inr (q_rc hI9387.1 kx_231 rfl)⟩ ?_
                          show At _ none _ _ (0, [(0, .ref 231), (1, .int v9532)], [], (_, _)) _
                          refine At.enter rfl ?_
                          refine r_iload_n rfl ?_
                          refine q_i2l (fun v9533 hv9533 => ?_)
                          refine r_lconst 0 rfl ?_
                          refine r_aload_n rfl ?_
                          refine q_getR (Sh.ref hI9387.1 kx_231 rfl) ?_
                          refine r_iconst 0 rfl ?_
                          refine q_iald (Sh.arr hI9387.1 ka_233) 0 rfl (by decide) v6383 e9394 ?_
                          refine q_i2l (fun v9534 hv9534 => ?_)
                          refine r_lconst 1 rfl ?_
                          refine q_lsub (v9534.toInt - 1) rfl (by omega) (fun v9535 hv9535 => ?_)
                          refine q_inlS 15 rfl [.long v9533, .long 0, .long v9535] [] (Nat.le_of_ble_eq_true rfl) rfl ?_
                          refine Ev.mk rfl rfl ⟨Nat.le_of_ble_eq_true rfl, Or.inl rfl⟩ ?_
                          show At _ none _ _ (0, [(0, .long v9533), (2, .long 0), (4, .long v9535)], [], (_, _)) _
                          refine At.enter rfl ?_
                          refine r_lload_n rfl ?_
                          refine r_lload_n rfl ?_
                          refine r_lcmp _ rfl ?_
                          refine r_ifs 6 rfl (fun c9536 => ?_) (fun c9536 => ?_)
                          · have c9536_ : v9533.toInt < 0 := en_j_lt_t c9536
                            refine At.enter rfl ?_
                            refine r_iconst 0 rfl ?_
                            refine Ar.fall 18 rfl ?_
                            refine At.enter rfl ?_
                            refine q_iretz (by decide) ?_
                            refine At.enter rfl ?_
                            refine q_iretz (by decide) ?_
                            refine At.enter rfl ?_
                            refine r_ift (by decide) ?_
                            refine At.enter rfl ?_
                            refine r_iconst 0 rfl ?_
                            refine Ar.fall 141 rfl ?_
                            refine At.enter rfl ?_
                            refine r_istore _ rfl ?_
                            refine r_iload (w_e1 _ _ _) ?_
                            refine r_ift (by decide) ?_
                            refine At.enter rfl ?_
                            refine r_aload_n (w_p1 (by decide) (Or.inr rfl) (w_p1 (by decide) (Or.inr rfl) e9400)) ?_
                            refine r_dup rfl ?_
                            refine q_getI (Sh.int hI9387.1 kx_231 rfl) x9385 e9392 ?_
                            refine r_iconst 1 rfl ?_
                            refine q_iadd (x9385.toInt + 1) rfl (by omega) (fun v9537 hv9537 => ?_)
                            refine q_putI (Sh.int hI9387.1 kx_231 rfl) rfl ?_
                            have hI9538 := HI.wI0 hI9387 kx_231 rfl (p := 231) (b := 6) (v := v9537) rfl
                            have hF9539 := Fr.wI (p := 231) (b := 6) (v := v9537) hF9388 rfl
                            refine Ar.fall 214 rfl ?_
                            refine At.enter rfl ?_
                            refine q_iinc (w_p1 (by decide) (Or.inr rfl) (w_p1 (by decide) (Or.inr rfl) e9403)) (x9384.toInt + 6) rfl (by omega) (fun v9540 hv9540 => ?_)
                            refine r_goto ?_
                            exact ih9391 (405 - v9540.toInt) _ _ ⟨x9383, v9540, v9537, by first | rfl | omega, hI9538, hF9539, (gI_sI_eq hI9387.1 kx_231 rfl _), ((gI_sI_ne (by decide)).trans e9393), ((eA_c gA_sI).trans e9394), ((eA_c gA_sI).trans e9395), ((eA_c gA_sI).trans e9396), ((eA_c gA_sI).trans e9397), ((eA_c gA_sI).trans e9398), ((eA_c gA_sI).trans e9399), (w_p1 (by decide) (Or.inr rfl) (w_p1 (by decide) (Or.inr rfl) (w_p1 (by decide) (Or.inr rfl) e9400))), (w_p1 (by decide) (Or.inr rfl) (w_p1 (by decide) (Or.inr rfl) (w_p1 (by decide) (Or.inr rfl) e9401))), (w_p1 (by decide) (Or.inr rfl) (w_p1 (by decide) (Or.inr rfl) (w_p1 (by decide) (Or.inr rfl) e9402))), (w_e1 _ _ _), by omega, by omega, by omega, by omega, (by intro i i0 i1; refine (eA_ti ((gA_sI))).trans ?_; (first | (refine ((q9408 (i) (by first | exact i0 | omega) (by first | exact i1 | omega))).trans ?_; (first | with_reducible rfl | omega | exact eA_ix (by omega) | rfl)) | (refine ((q9409 (i) (by first | exact i0 | omega) (by first | exact i1 | omega))).trans ?_; (first | with_reducible rfl | omega | exact eA_ix (by omega) | rfl)) | (refine ((q9415 (i) (by first | exact i0 | omega) (by first | exact i1 | omega))).trans ?_; (first | with_reducible rfl | omega | exact eA_ix (by omega) | rfl)))), (by intro i i0 i1; refine (eA_ti ((gA_sI))).trans ?_; (first | (refine ((q9409 (i) (by first | exact i0 | omega) (by first | exact i1 | omega))).trans ?_; (first | with_reducible rfl | omega | exact eA_ix (by omega) | rfl)) | (refine ((q9408 (i) (by first | exact i0 | omega) (by first | exact i1 | omega))).trans ?_; (first | with_reducible rfl | omega | exact eA_ix (by omega) | rfl)) | (refine ((q9415 (i) (by first | exact i0 | omega) (by first | exact i1 | omega))).trans ?_; (first | with_reducible rfl | omega | exact eA_ix (by omega) | rfl)))), by omega, by omega, (RLI.n (by omega) (by omega) q9412 (fun h => by have h2 : x9384.toInt + 6 ≤ (gI g0 231 8).toInt ∧ (eA g9386 233 1).toInt < 8 ∧ (1 ≤ (eA g0 236 x9384.toInt).toInt ∧ (eA g0 236 x9384.toInt).toInt ≤ 9) ∧ (0 ≤ (eA g0 236 (x9384.toInt + 3)).toInt ∧ (eA g0 236 (x9384.toInt + 3)).toInt ≤ 99) ∧ (0 ≤ (eA g0 236 (x9384.toInt + 4)).toInt ∧ (eA g0 236 (x9384.toInt + 4)).toInt ≤ 9) ∧ (0 ≤ (eA g0 236 (x9384.toInt + 5)).toInt ∧ (eA g0 236 (x9384.toInt + 5)).toInt ≤ 9999) ∧ (0 ≤ (eA g0 236 (x9384.toInt + 1)).toInt ∧ (eA g0 236 (x9384.toInt + 1)).toInt < (eA g0 233 0).toInt) ∧ (0 ≤ (eA g0 236 (x9384.toInt + 2)).toInt ∧ (eA g0 236 (x9384.toInt + 2)).toInt < (eA g0 233 0).toInt) := h; have y401_ := congrArg Int32.toInt hv9480; have y402_ := congrArg Int32.toInt hv9482; have y403_ := congrArg Int32.toInt hv9484; have y404_ := congrArg Int32.toInt hv9486; have y405_ := congrArg Int32.toInt hv9532; omega) (eA_ti ((gA_sI))) (by omega)), (by have y_ := HI.eqA hI9538 (p := 233) (j := 1) (eA_c (j := 1) ((gA_sI))); omega), by omega, (by intro i i0 i1; refine (eA_ti ((gA_sI))).trans ?_; refine (q9415 i i0 i1).trans ?_; exact RFI.n (by omega) (by omega) q9412 (by omega) rfl (fun k => absurd k.1 (fun h => by have h2 : x9384.toInt + 6 ≤ (gI g0 231 8).toInt ∧ (eA g9386 233 1).toInt < 8 ∧ (1 ≤ (eA g0 236 x9384.toInt).toInt ∧ (eA g0 236 x9384.toInt).toInt ≤ 9) ∧ (0 ≤ (eA g0 236 (x9384.toInt + 3)).toInt ∧ (eA g0 236 (x9384.toInt + 3)).toInt ≤ 99) ∧ (0 ≤ (eA g0 236 (x9384.toInt + 4)).toInt ∧ (eA g0 236 (x9384.toInt + 4)).toInt ≤ 9) ∧ (0 ≤ (eA g0 236 (x9384.toInt + 5)).toInt ∧ (eA g0 236 (x9384.toInt + 5)).toInt ≤ 9999) ∧ (0 ≤ (eA g0 236 (x9384.toInt + 1)).toInt ∧ (eA g0 236 (x9384.toInt + 1)).toInt < (eA g0 233 0).toInt) ∧ (0 ≤ (eA g0 236 (x9384.toInt + 2)).toInt ∧ (eA g0 236 (x9384.toInt + 2)).toInt < (eA g0 233 0).toInt) := h; have y406_ := congrArg Int32.toInt hv9480; have y407_ := congrArg Int32.toInt hv9482; have y408_ := congrArg Int32.toInt hv9484; have y409_ := congrArg Int32.toInt hv9486; have y410_ := congrArg Int32.toInt hv9532; omega)))⟩ ⟨by omega, by omega⟩
                          · have c9536_ : v9533.toInt ≥ 0 := en_j_lt_f c9536
                            refine At.enter rfl ?_
                            refine r_lload_n rfl ?_
                            refine r_lload rfl ?_
                            refine r_lcmp _ rfl ?_
                            refine r_ifs 13 rfl (fun c9541 => ?_) (fun c9541 => ?_)
                            · have c9541_ : v9533.toInt > v9535.toInt := en_j_gt_t c9541
                              refine At.enter rfl ?_
                              refine r_iconst 0 rfl ?_
                              refine Ar.fall 18 rfl ?_
                              refine At.enter rfl ?_
                              refine q_iretz (by decide) ?_
                              refine At.enter rfl ?_
                              refine q_iretz (by decide) ?_
                              refine At.enter rfl ?_
                              refine r_ift (by decide) ?_
                              refine At.enter rfl ?_
                              refine r_iconst 0 rfl ?_
                              refine Ar.fall 141 rfl ?_
                              refine At.enter rfl ?_
                              refine r_istore _ rfl ?_
                              refine r_iload (w_e1 _ _ _) ?_
                              refine r_ift (by decide) ?_
                              refine At.enter rfl ?_
                              refine r_aload_n (w_p1 (by decide) (Or.inr rfl) (w_p1 (by decide) (Or.inr rfl) e9400)) ?_
                              refine r_dup rfl ?_
                              refine q_getI (Sh.int hI9387.1 kx_231 rfl) x9385 e9392 ?_
                              refine r_iconst 1 rfl ?_
                              refine q_iadd (x9385.toInt + 1) rfl (by omega) (fun v9542 hv9542 => ?_)
                              refine q_putI (Sh.int hI9387.1 kx_231 rfl) rfl ?_
                              have hI9543 := HI.wI0 hI9387 kx_231 rfl (p := 231) (b := 6) (v := v9542) rfl
                              have hF9544 := Fr.wI (p := 231) (b := 6) (v := v9542) hF9388 rfl
                              refine Ar.fall 214 rfl ?_
                              refine At.enter rfl ?_
                              refine q_iinc (w_p1 (by decide) (Or.inr rfl) (w_p1 (by decide) (Or.inr rfl) e9403)) (x9384.toInt + 6) rfl (by omega) (fun v9545 hv9545 => ?_)
                              refine r_goto ?_
                              exact ih9391 (405 - v9545.toInt) _ _ ⟨x9383, v9545, v9542, by first | rfl | omega, hI9543, hF9544, (gI_sI_eq hI9387.1 kx_231 rfl _), ((gI_sI_ne (by decide)).trans e9393), ((eA_c gA_sI).trans e9394), ((eA_c gA_sI).trans e9395), ((eA_c gA_sI).trans e9396), ((eA_c gA_sI).trans e9397), ((eA_c gA_sI).trans e9398), ((eA_c gA_sI).trans e9399), (w_p1 (by decide) (Or.inr rfl) (w_p1 (by decide) (Or.inr rfl) (w_p1 (by decide) (Or.inr rfl) e9400))), (w_p1 (by decide) (Or.inr rfl) (w_p1 (by decide) (Or.inr rfl) (w_p1 (by decide) (Or.inr rfl) e9401))), (w_p1 (by decide) (Or.inr rfl) (w_p1 (by decide) (Or.inr rfl) (w_p1 (by decide) (Or.inr rfl) e9402))), (w_e1 _ _ _), by omega, by omega, by omega, by omega, (by intro i i0 i1; refine (eA_ti ((gA_sI))).trans ?_; (first | (refine ((q9408 (i) (by first | exact i0 | omega) (by first | exact i1 | omega))).trans ?_; (first | with_reducible rfl | omega | exact eA_ix (by omega) | rfl)) | (refine ((q9409 (i) (by first | exact i0 | omega) (by first | exact i1 | omega))).trans ?_; (first | with_reducible rfl | omega | exact eA_ix (by omega) | rfl)) | (refine ((q9415 (i) (by first | exact i0 | omega) (by first | exact i1 | omega))).trans ?_; (first | with_reducible rfl | omega | exact eA_ix (by omega) | rfl)))), (by intro i i0 i1; refine (eA_ti ((gA_sI))).trans ?_; (first | (refine ((q9409 (i) (by first | exact i0 | omega) (by first | exact i1 | omega))).trans ?_; (first | with_reducible rfl | omega | exact eA_ix (by omega) | rfl)) | (refine ((q9408 (i) (by first | exact i0 | omega) (by first | exact i1 | omega))).trans ?_; (first | with_reducible rfl | omega | exact eA_ix (by omega) | rfl)) | (refine ((q9415 (i) (by first | exact i0 | omega) (by first | exact i1 | omega))).trans ?_; (first | with_reducible rfl | omega | exact eA_ix (by omega) | rfl)))), by omega, by omega, (RLI.n (by omega) (by omega) q9412 (fun h => by have h2 : x9384.toInt + 6 ≤ (gI g0 231 8).toInt ∧ (eA g9386 233 1).toInt < 8 ∧ (1 ≤ (eA g0 236 x9384.toInt).toInt ∧ (eA g0 236 x9384.toInt).toInt ≤ 9) ∧ (0 ≤ (eA g0 236 (x9384.toInt + 3)).toInt ∧ (eA g0 236 (x9384.toInt + 3)).toInt ≤ 99) ∧ (0 ≤ (eA g0 236 (x9384.toInt + 4)).toInt ∧ (eA g0 236 (x9384.toInt + 4)).toInt ≤ 9) ∧ (0 ≤ (eA g0 236 (x9384.toInt + 5)).toInt ∧ (eA g0 236 (x9384.toInt + 5)).toInt ≤ 9999) ∧ (0 ≤ (eA g0 236 (x9384.toInt + 1)).toInt ∧ (eA g0 236 (x9384.toInt + 1)).toInt < (eA g0 233 0).toInt) ∧ (0 ≤ (eA g0 236 (x9384.toInt + 2)).toInt ∧ (eA g0 236 (x9384.toInt + 2)).toInt < (eA g0 233 0).toInt) := h; have y411_ := congrArg Int32.toInt hv9480; have y412_ := congrArg Int32.toInt hv9482; have y413_ := congrArg Int32.toInt hv9484; have y414_ := congrArg Int32.toInt hv9486; have y415_ := congrArg Int32.toInt hv9532; omega) (eA_ti ((gA_sI))) (by omega)), (by have y_ := HI.eqA hI9543 (p := 233) (j := 1) (eA_c (j := 1) ((gA_sI))); omega), by omega, (by intro i i0 i1; refine (eA_ti ((gA_sI))).trans ?_; refine (q9415 i i0 i1).trans ?_; exact RFI.n (by omega) (by omega) q9412 (by omega) rfl (fun k => absurd k.1 (fun h => by have h2 : x9384.toInt + 6 ≤ (gI g0 231 8).toInt ∧ (eA g9386 233 1).toInt < 8 ∧ (1 ≤ (eA g0 236 x9384.toInt).toInt ∧ (eA g0 236 x9384.toInt).toInt ≤ 9) ∧ (0 ≤ (eA g0 236 (x9384.toInt + 3)).toInt ∧ (eA g0 236 (x9384.toInt + 3)).toInt ≤ 99) ∧ (0 ≤ (eA g0 236 (x9384.toInt + 4)).toInt ∧ (eA g0 236 (x9384.toInt + 4)).toInt ≤ 9) ∧ (0 ≤ (eA g0 236 (x9384.toInt + 5)).toInt ∧ (eA g0 236 (x9384.toInt + 5)).toInt ≤ 9999) ∧ (0 ≤ (eA g0 236 (x9384.toInt + 1)).toInt ∧ (eA g0 236 (x9384.toInt + 1)).toInt < (eA g0 233 0).toInt) ∧ (0 ≤ (eA g0 236 (x9384.toInt + 2)).toInt ∧ (eA g0 236 (x9384.toInt + 2)).toInt < (eA g0 233 0).toInt) := h; have y416_ := congrArg Int32.toInt hv9480; have y417_ := congrArg Int32.toInt hv9482; have y418_ := congrArg Int32.toInt hv9484; have y419_ := congrArg Int32.toInt hv9486; have y420_ := congrArg Int32.toInt hv9532; omega)))⟩ ⟨by omega, by omega⟩
                            · have c9541_ : v9533.toInt ≤ v9535.toInt := en_j_gt_f c9541
                              refine At.enter rfl ?_
                              refine r_iconst 1 rfl ?_
                              refine r_goto ?_
                              refine At.enter rfl ?_
                              refine q_iretz (by decide) ?_
                              refine At.enter rfl ?_
                              refine q_iretz (by decide) ?_
                              refine At.enter rfl ?_
                              refine r_iff 121 rfl (by decide) ?_
                              refine At.enter rfl ?_
                              refine r_aload_n (w_p1 (by decide) (Or.inr rfl) e9400) ?_
                              refine r_aload_n (w_p1 (by decide) (Or.inr rfl) e9400) ?_
                              refine q_getR (Sh.ref hI9387.1 kx_231 rfl) ?_
                              refine r_iload_n (w_p1 (by decide) (Or.inr rfl) e9403) ?_
                              refine r_iconst 2 rfl ?_
                              refine q_iadd (x9384.toInt + 2) rfl (by omega) (fun v9546 hv9546 => ?_)
                              obtain ⟨v9547, hv9547⟩ : ∃ v, eA g0 236 (x9384.toInt + 2) = v := ⟨_, rfl⟩
                              refine q_iald (Sh.arr hI9387.1 ka_236) (x9384.toInt + 2) (by omega) (by omega) v9547 ((eA_c (hF9388.2.1 236 (by decide))).trans hv9547) ?_
                              refine q_inlV 133 rfl [.ref 231, .int v9547] [] (Nat.le_of_ble_eq_true rfl) rfl ?_
                              refine Ev.mk rfl rfl ⟨Nat.le_of_ble_eq_true rfl, Or.inr (q_rc hI9387.1 kx_231 rfl)⟩ ?_
                              show At _ none _ _ (0, [(0, .ref 231), (1, .int v9547)], [], (_, _)) _
                              refine At.enter rfl ?_
                              refine r_iload_n rfl ?_
                              refine q_i2l (fun v9548 hv9548 => ?_)
                              refine r_lconst 0 rfl ?_
                              refine r_aload_n rfl ?_
                              refine q_getR (Sh.ref hI9387.1 kx_231 rfl) ?_
                              refine r_iconst 0 rfl ?_
                              refine q_iald (Sh.arr hI9387.1 ka_233) 0 rfl (by decide) v6383 e9394 ?_
                              refine q_i2l (fun v9549 hv9549 => ?_)
                              refine r_lconst 1 rfl ?_
                              refine q_lsub (v9549.toInt - 1) rfl (by omega) (fun v9550 hv9550 => ?_)
                              refine q_inlS 15 rfl [.long v9548, .long 0, .long v9550] [] (Nat.le_of_ble_eq_true rfl) rfl ?_
                              refine Ev.mk rfl rfl ⟨Nat.le_of_ble_eq_true rfl, Or.inl rfl⟩ ?_
                              show At _ none _ _ (0, [(0, .long v9548), (2, .long 0), (4, .long v9550)], [], (_, _)) _
                              refine At.enter rfl ?_
                              refine r_lload_n rfl ?_
                              refine r_lload_n rfl ?_
                              refine r_lcmp _ rfl ?_
                              refine r_ifs 6 rfl (fun c9551 => ?_) (fun c9551 => ?_)
                              · have c9551_ : v9548.toInt < 0 := en_j_lt_t c9551
                                refine At.enter rfl ?_
                                refine r_iconst 0 rfl ?_
                                refine Ar.fall 18 rfl ?_
                                refine At.enter rfl ?_
                                refine q_iretz (by decide) ?_
                                refine At.enter rfl ?_
                                refine q_iretz (by decide) ?_
                                refine At.enter rfl ?_
                                refine r_ift (by decide) ?_
                                refine At.enter rfl ?_
                                refine r_iconst 0 rfl ?_
                                refine Ar.fall 141 rfl ?_
                                refine At.enter rfl ?_
                                refine r_istore _ rfl ?_
                                refine r_iload (w_e1 _ _ _) ?_
                                refine r_ift (by decide) ?_
                                refine At.enter rfl ?_
                                refine r_aload_n (w_p1 (by decide) (Or.inr rfl) (w_p1 (by decide) (Or.inr rfl) e9400)) ?_
                                refine r_dup rfl ?_
                                refine q_getI (Sh.int hI9387.1 kx_231 rfl) x9385 e9392 ?_
                                refine r_iconst 1 rfl ?_
                                refine q_iadd (x9385.toInt + 1) rfl (by omega) (fun v9552 hv9552 => ?_)
                                refine q_putI (Sh.int hI9387.1 kx_231 rfl) rfl ?_
                                have hI9553 := HI.wI0 hI9387 kx_231 rfl (p := 231) (b := 6) (v := v9552) rfl
                                have hF9554 := Fr.wI (p := 231) (b := 6) (v := v9552) hF9388 rfl
                                refine Ar.fall 214 rfl ?_
                                refine At.enter rfl ?_
                                refine q_iinc (w_p1 (by decide) (Or.inr rfl) (w_p1 (by decide) (Or.inr rfl) e9403)) (x9384.toInt + 6) rfl (by omega) (fun v9555 hv9555 => ?_)
                                refine r_goto ?_
                                exact ih9391 (405 - v9555.toInt) _ _ ⟨x9383, v9555, v9552, by first | rfl | omega, hI9553, hF9554, (gI_sI_eq hI9387.1 kx_231 rfl _), ((gI_sI_ne (by decide)).trans e9393), ((eA_c gA_sI).trans e9394), ((eA_c gA_sI).trans e9395), ((eA_c gA_sI).trans e9396), ((eA_c gA_sI).trans e9397), ((eA_c gA_sI).trans e9398), ((eA_c gA_sI).trans e9399), (w_p1 (by decide) (Or.inr rfl) (w_p1 (by decide) (Or.inr rfl) (w_p1 (by decide) (Or.inr rfl) e9400))), (w_p1 (by decide) (Or.inr rfl) (w_p1 (by decide) (Or.inr rfl) (w_p1 (by decide) (Or.inr rfl) e9401))), (w_p1 (by decide) (Or.inr rfl) (w_p1 (by decide) (Or.inr rfl) (w_p1 (by decide) (Or.inr rfl) e9402))), (w_e1 _ _ _), by omega, by omega, by omega, by omega, (by intro i i0 i1; refine (eA_ti ((gA_sI))).trans ?_; (first | (refine ((q9408 (i) (by first | exact i0 | omega) (by first | exact i1 | omega))).trans ?_; (first | with_reducible rfl | omega | exact eA_ix (by omega) | rfl)) | (refine ((q9409 (i) (by first | exact i0 | omega) (by first | exact i1 | omega))).trans ?_; (first | with_reducible rfl | omega | exact eA_ix (by omega) | rfl)) | (refine ((q9415 (i) (by first | exact i0 | omega) (by first | exact i1 | omega))).trans ?_; (first | with_reducible rfl | omega | exact eA_ix (by omega) | rfl)))), (by intro i i0 i1; refine (eA_ti ((gA_sI))).trans ?_; (first | (refine ((q9409 (i) (by first | exact i0 | omega) (by first | exact i1 | omega))).trans ?_; (first | with_reducible rfl | omega | exact eA_ix (by omega) | rfl)) | (refine ((q9408 (i) (by first | exact i0 | omega) (by first | exact i1 | omega))).trans ?_; (first | with_reducible rfl | omega | exact eA_ix (by omega) | rfl)) | (refine ((q9415 (i) (by first | exact i0 | omega) (by first | exact i1 | omega))).trans ?_; (first | with_reducible rfl | omega | exact eA_ix (by omega) | rfl)))), by omega, by omega, (RLI.n (by omega) (by omega) q9412 (fun h => by have h2 : x9384.toInt + 6 ≤ (gI g0 231 8).toInt ∧ (eA g9386 233 1).toInt < 8 ∧ (1 ≤ (eA g0 236 x9384.toInt).toInt ∧ (eA g0 236 x9384.toInt).toInt ≤ 9) ∧ (0 ≤ (eA g0 236 (x9384.toInt + 3)).toInt ∧ (eA g0 236 (x9384.toInt + 3)).toInt ≤ 99) ∧ (0 ≤ (eA g0 236 (x9384.toInt + 4)).toInt ∧ (eA g0 236 (x9384.toInt + 4)).toInt ≤ 9) ∧ (0 ≤ (eA g0 236 (x9384.toInt + 5)).toInt ∧ (eA g0 236 (x9384.toInt + 5)).toInt ≤ 9999) ∧ (0 ≤ (eA g0 236 (x9384.toInt + 1)).toInt ∧ (eA g0 236 (x9384.toInt + 1)).toInt < (eA g0 233 0).toInt) ∧ (0 ≤ (eA g0 236 (x9384.toInt + 2)).toInt ∧ (eA g0 236 (x9384.toInt + 2)).toInt < (eA g0 233 0).toInt) := h; have y421_ := congrArg Int32.toInt hv9480; have y422_ := congrArg Int32.toInt hv9482; have y423_ := congrArg Int32.toInt hv9484; have y424_ := congrArg Int32.toInt hv9486; have y425_ := congrArg Int32.toInt hv9532; have y426_ := congrArg Int32.toInt hv9547; omega) (eA_ti ((gA_sI))) (by omega)), (by have y_ := HI.eqA hI9553 (p := 233) (j := 1) (eA_c (j := 1) ((gA_sI))); omega), by omega, (by intro i i0 i1; refine (eA_ti ((gA_sI))).trans ?_; refine (q9415 i i0 i1).trans ?_; exact RFI.n (by omega) (by omega) q9412 (by omega) rfl (fun k => absurd k.1 (fun h => by have h2 : x9384.toInt + 6 ≤ (gI g0 231 8).toInt ∧ (eA g9386 233 1).toInt < 8 ∧ (1 ≤ (eA g0 236 x9384.toInt).toInt ∧ (eA g0 236 x9384.toInt).toInt ≤ 9) ∧ (0 ≤ (eA g0 236 (x9384.toInt + 3)).toInt ∧ (eA g0 236 (x9384.toInt + 3)).toInt ≤ 99) ∧ (0 ≤ (eA g0 236 (x9384.toInt + 4)).toInt ∧ (eA g0 236 (x9384.toInt + 4)).toInt ≤ 9) ∧ (0 ≤ (eA g0 236 (x9384.toInt + 5)).toInt ∧ (eA g0 236 (x9384.toInt + 5)).toInt ≤ 9999) ∧ (0 ≤ (eA g0 236 (x9384.toInt + 1)).toInt ∧ (eA g0 236 (x9384.toInt + 1)).toInt < (eA g0 233 0).toInt) ∧ (0 ≤ (eA g0 236 (x9384.toInt + 2)).toInt ∧ (eA g0 236 (x9384.toInt + 2)).toInt < (eA g0 233 0).toInt) := h; have y427_ := congrArg Int32.toInt hv9480; have y428_ := congrArg Int32.toInt hv9482; have y429_ := congrArg Int32.toInt hv9484; have y430_ := congrArg Int32.toInt hv9486; have y431_ := congrArg Int32.toInt hv9532; have y432_ := congrArg Int32.toInt hv9547; omega)))⟩ ⟨by omega, by omega⟩
                              · have c9551_ : v9548.toInt ≥ 0 := en_j_lt_f c9551
                                refine At.enter rfl ?_
                                refine r_lload_n rfl ?_
                                refine r_lload rfl ?_
                                refine r_lcmp _ rfl ?_
                                refine r_ifs 13 rfl (fun c9556 => ?_) (fun c9556 => ?_)
                                · have c9556_ : v9548.toInt > v9550.toInt := en_j_gt_t c9556
                                  refine At.enter rfl ?_
                                  refine r_iconst 0 rfl ?_
                                  refine Ar.fall 18 rfl ?_
                                  refine At.enter rfl ?_
                                  refine q_iretz (by decide) ?_
                                  refine At.enter rfl ?_
                                  refine q_iretz (by decide) ?_
                                  refine At.enter rfl ?_
                                  refine r_ift (by decide) ?_
                                  refine At.enter rfl ?_
                                  refine r_iconst 0 rfl ?_
                                  refine Ar.fall 141 rfl ?_
                                  refine At.enter rfl ?_
                                  refine r_istore _ rfl ?_
                                  refine r_iload (w_e1 _ _ _) ?_
                                  refine r_ift (by decide) ?_
                                  refine At.enter rfl ?_
                                  refine r_aload_n (w_p1 (by decide) (Or.inr rfl) (w_p1 (by decide) (Or.inr rfl) e9400)) ?_
                                  refine r_dup rfl ?_
                                  refine q_getI (Sh.int hI9387.1 kx_231 rfl) x9385 e9392 ?_
                                  refine r_iconst 1 rfl ?_
                                  refine q_iadd (x9385.toInt + 1) rfl (by omega) (fun v9557 hv9557 => ?_)
                                  refine q_putI (Sh.int hI9387.1 kx_231 rfl) rfl ?_
                                  have hI9558 := HI.wI0 hI9387 kx_231 rfl (p := 231) (b := 6) (v := v9557) rfl
                                  have hF9559 := Fr.wI (p := 231) (b := 6) (v := v9557) hF9388 rfl
                                  refine Ar.fall 214 rfl ?_
                                  refine At.enter rfl ?_
                                  refine q_iinc (w_p1 (by decide) (Or.inr rfl) (w_p1 (by decide) (Or.inr rfl) e9403)) (x9384.toInt + 6) rfl (by omega) (fun v9560 hv9560 => ?_)
                                  refine r_goto ?_
                                  exact ih9391 (405 - v9560.toInt) _ _ ⟨x9383, v9560, v9557, by first | rfl | omega, hI9558, hF9559, (gI_sI_eq hI9387.1 kx_231 rfl _), ((gI_sI_ne (by decide)).trans e9393), ((eA_c gA_sI).trans e9394), ((eA_c gA_sI).trans e9395), ((eA_c gA_sI).trans e9396), ((eA_c gA_sI).trans e9397), ((eA_c gA_sI).trans e9398), ((eA_c gA_sI).trans e9399), (w_p1 (by decide) (Or.inr rfl) (w_p1 (by decide) (Or.inr rfl) (w_p1 (by decide) (Or.inr rfl) e9400))), (w_p1 (by decide) (Or.inr rfl) (w_p1 (by decide) (Or.inr rfl) (w_p1 (by decide) (Or.inr rfl) e9401))), (w_p1 (by decide) (Or.inr rfl) (w_p1 (by decide) (Or.inr rfl) (w_p1 (by decide) (Or.inr rfl) e9402))), (w_e1 _ _ _), by omega, by omega, by omega, by omega, (by intro i i0 i1; refine (eA_ti ((gA_sI))).trans ?_; (first | (refine ((q9408 (i) (by first | exact i0 | omega) (by first | exact i1 | omega))).trans ?_; (first | with_reducible rfl | omega | exact eA_ix (by omega) | rfl)) | (refine ((q9409 (i) (by first | exact i0 | omega) (by first | exact i1 | omega))).trans ?_; (first | with_reducible rfl | omega | exact eA_ix (by omega) | rfl)) | (refine ((q9415 (i) (by first | exact i0 | omega) (by first | exact i1 | omega))).trans ?_; (first | with_reducible rfl | omega | exact eA_ix (by omega) | rfl)))), (by intro i i0 i1; refine (eA_ti ((gA_sI))).trans ?_; (first | (refine ((q9409 (i) (by first | exact i0 | omega) (by first | exact i1 | omega))).trans ?_; (first | with_reducible rfl | omega | exact eA_ix (by omega) | rfl)) | (refine ((q9408 (i) (by first | exact i0 | omega) (by first | exact i1 | omega))).trans ?_; (first | with_reducible rfl | omega | exact eA_ix (by omega) | rfl)) | (refine ((q9415 (i) (by first | exact i0 | omega) (by first | exact i1 | omega))).trans ?_; (first | with_reducible rfl | omega | exact eA_ix (by omega) | rfl)))), by omega, by omega, (RLI.n (by omega) (by omega) q9412 (fun h => by have h2 : x9384.toInt + 6 ≤ (gI g0 231 8).toInt ∧ (eA g9386 233 1).toInt < 8 ∧ (1 ≤ (eA g0 236 x9384.toInt).toInt ∧ (eA g0 236 x9384.toInt).toInt ≤ 9) ∧ (0 ≤ (eA g0 236 (x9384.toInt + 3)).toInt ∧ (eA g0 236 (x9384.toInt + 3)).toInt ≤ 99) ∧ (0 ≤ (eA g0 236 (x9384.toInt + 4)).toInt ∧ (eA g0 236 (x9384.toInt + 4)).toInt ≤ 9) ∧ (0 ≤ (eA g0 236 (x9384.toInt + 5)).toInt ∧ (eA g0 236 (x9384.toInt + 5)).toInt ≤ 9999) ∧ (0 ≤ (eA g0 236 (x9384.toInt + 1)).toInt ∧ (eA g0 236 (x9384.toInt + 1)).toInt < (eA g0 233 0).toInt) ∧ (0 ≤ (eA g0 236 (x9384.toInt + 2)).toInt ∧ (eA g0 236 (x9384.toInt + 2)).toInt < (eA g0 233 0).toInt) := h; have y433_ := congrArg Int32.toInt hv9480; have y434_ := congrArg Int32.toInt hv9482; have y435_ := congrArg Int32.toInt hv9484; have y436_ := congrArg Int32.toInt hv9486; have y437_ := congrArg Int32.toInt hv9532; have y438_ := congrArg Int32.toInt hv9547; omega) (eA_ti ((gA_sI))) (by omega)), (by have y_ := HI.eqA hI9558 (p := 233) (j := 1) (eA_c (j := 1) ((gA_sI))); omega), by omega, (by intro i i0 i1; refine (eA_ti ((gA_sI))).trans ?_; refine (q9415 i i0 i1).trans ?_; exact RFI.n (by omega) (by omega) q9412 (by omega) rfl (fun k => absurd k.1 (fun h => by have h2 : x9384.toInt + 6 ≤ (gI g0 231 8).toInt ∧ (eA g9386 233 1).toInt < 8 ∧ (1 ≤ (eA g0 236 x9384.toInt).toInt ∧ (eA g0 236 x9384.toInt).toInt ≤ 9) ∧ (0 ≤ (eA g0 236 (x9384.toInt + 3)).toInt ∧ (eA g0 236 (x9384.toInt + 3)).toInt ≤ 99) ∧ (0 ≤ (eA g0 236 (x9384.toInt + 4)).toInt ∧ (eA g0 236 (x9384.toInt + 4)).toInt ≤ 9) ∧ (0 ≤ (eA g0 236 (x9384.toInt + 5)).toInt ∧ (eA g0 236 (x9384.toInt + 5)).toInt ≤ 9999) ∧ (0 ≤ (eA g0 236 (x9384.toInt + 1)).toInt ∧ (eA g0 236 (x9384.toInt + 1)).toInt < (eA g0 233 0).toInt) ∧ (0 ≤ (eA g0 236 (x9384.toInt + 2)).toInt ∧ (eA g0 236 (x9384.toInt + 2)).toInt < (eA g0 233 0).toInt) := h; have y439_ := congrArg Int32.toInt hv9480; have y440_ := congrArg Int32.toInt hv9482; have y441_ := congrArg Int32.toInt hv9484; have y442_ := congrArg Int32.toInt hv9486; have y443_ := congrArg Int32.toInt hv9532; have y444_ := congrArg Int32.toInt hv9547; omega)))⟩ ⟨by omega, by omega⟩
                                · have c9556_ : v9548.toInt ≤ v9550.toInt := en_j_gt_f c9556
                                  refine At.enter rfl ?_
                                  refine r_iconst 1 rfl ?_
                                  refine r_goto ?_
                                  refine At.enter rfl ?_
                                  refine q_iretz (by decide) ?_
                                  refine At.enter rfl ?_
                                  refine q_iretz (by decide) ?_
                                  refine At.enter rfl ?_
                                  refine r_iff 136 rfl (by decide) ?_
                                  refine At.enter rfl ?_
                                  refine r_iconst 1 rfl ?_
                                  refine r_goto ?_
                                  refine At.enter rfl ?_
                                  refine r_istore _ rfl ?_
                                  refine r_iload (w_e1 _ _ _) ?_
                                  refine r_iff 148 rfl (by decide) ?_
                                  refine At.enter rfl ?_
                                  refine r_aload_n (w_p1 (by decide) (Or.inr rfl) (w_p1 (by decide) (Or.inr rfl) e9400)) ?_
                                  refine r_aload_n (w_p1 (by decide) (Or.inr rfl) (w_p1 (by decide) (Or.inr rfl) e9400)) ?_
                                  refine q_getR (Sh.ref hI9387.1 kx_231 rfl) ?_
                                  refine r_iload_n (w_p1 (by decide) (Or.inr rfl) (w_p1 (by decide) (Or.inr rfl) e9403)) ?_
                                  refine q_iald (Sh.arr hI9387.1 ka_236) x9384.toInt rfl (by omega) v9480 ((eA_c (hF9388.2.1 236 (by decide))).trans hv9480) ?_
                                  refine r_aload_n (w_p1 (by decide) (Or.inr rfl) (w_p1 (by decide) (Or.inr rfl) e9400)) ?_
                                  refine q_getR (Sh.ref hI9387.1 kx_231 rfl) ?_
                                  refine r_iload_n (w_p1 (by decide) (Or.inr rfl) (w_p1 (by decide) (Or.inr rfl) e9403)) ?_
                                  refine r_iconst 1 rfl ?_
                                  refine q_iadd (x9384.toInt + 1) rfl (by omega) (fun v9561 hv9561 => ?_)
                                  refine q_iald (Sh.arr hI9387.1 ka_236) (x9384.toInt + 1) (by omega) (by omega) v9532 ((eA_c (hF9388.2.1 236 (by decide))).trans hv9532) ?_
                                  refine r_aload_n (w_p1 (by decide) (Or.inr rfl) (w_p1 (by decide) (Or.inr rfl) e9400)) ?_
                                  refine q_getR (Sh.ref hI9387.1 kx_231 rfl) ?_
                                  refine r_iload_n (w_p1 (by decide) (Or.inr rfl) (w_p1 (by decide) (Or.inr rfl) e9403)) ?_
                                  refine r_iconst 2 rfl ?_
                                  refine q_iadd (x9384.toInt + 2) rfl (by omega) (fun v9562 hv9562 => ?_)
                                  refine q_iald (Sh.arr hI9387.1 ka_236) (x9384.toInt + 2) (by omega) (by omega) v9547 ((eA_c (hF9388.2.1 236 (by decide))).trans hv9547) ?_
                                  refine r_aload_n (w_p1 (by decide) (Or.inr rfl) (w_p1 (by decide) (Or.inr rfl) e9400)) ?_
                                  refine q_getR (Sh.ref hI9387.1 kx_231 rfl) ?_
                                  refine r_iload_n (w_p1 (by decide) (Or.inr rfl) (w_p1 (by decide) (Or.inr rfl) e9403)) ?_
                                  refine r_iconst 3 rfl ?_
                                  refine q_iadd (x9384.toInt + 3) rfl (by omega) (fun v9563 hv9563 => ?_)
                                  refine q_iald (Sh.arr hI9387.1 ka_236) (x9384.toInt + 3) (by omega) (by omega) v9482 ((eA_c (hF9388.2.1 236 (by decide))).trans hv9482) ?_
                                  refine r_aload_n (w_p1 (by decide) (Or.inr rfl) (w_p1 (by decide) (Or.inr rfl) e9400)) ?_
                                  refine q_getR (Sh.ref hI9387.1 kx_231 rfl) ?_
                                  refine r_iload_n (w_p1 (by decide) (Or.inr rfl) (w_p1 (by decide) (Or.inr rfl) e9403)) ?_
                                  refine r_iconst 4 rfl ?_
                                  refine q_iadd (x9384.toInt + 4) rfl (by omega) (fun v9564 hv9564 => ?_)
                                  refine q_iald (Sh.arr hI9387.1 ka_236) (x9384.toInt + 4) (by omega) (by omega) v9484 ((eA_c (hF9388.2.1 236 (by decide))).trans hv9484) ?_
                                  refine r_aload_n (w_p1 (by decide) (Or.inr rfl) (w_p1 (by decide) (Or.inr rfl) e9400)) ?_
                                  refine q_getR (Sh.ref hI9387.1 kx_231 rfl) ?_
                                  refine r_iload_n (w_p1 (by decide) (Or.inr rfl) (w_p1 (by decide) (Or.inr rfl) e9403)) ?_
                                  refine r_iconst 5 rfl ?_
                                  refine q_iadd (x9384.toInt + 5) rfl (by omega) (fun v9565 hv9565 => ?_)
                                  refine q_iald (Sh.arr hI9387.1 ka_236) (x9384.toInt + 5) (by omega) (by omega) v9486 ((eA_c (hF9388.2.1 236 (by decide))).trans hv9486) ?_
                                  have x9566 := HI.eqA hI9387 (p := 233) (j := 0) (e9394)
                                  have x9567 := HI.eqA hI9387 (p := 233) (j := 1) (hv9474)
                                  refine r_callV 198 rfl [.ref 231, .int v9480, .int v9532, .int v9547, .int v9482, .int v9484, .int v9486] [] (Nat.le_of_ble_eq_true rfl) rfl (T_X11_addLoad_231 _ hI9387 v9480 (by omega) v9532 (by omega) v9547 (by omega) v9482 (by omega) v9484 (by omega) v9486 (by omega) (by omega) (by omega) (by omega)) ?_
                                  rintro _ _ ⟨g9568, rfl, hI9569, hF9570, rfl, hr9572⟩
                                  refine At.stn ?_
                                  have hF9573 := Fr.tr hF9388 hF9570 rfl rfl
                                  obtain ⟨v9574, hv9574⟩ : ∃ v, eA g9568 233 1 = v := ⟨_, rfl⟩
                                  have y9575 := hr9572.2.1
                                  have tv9574 := congrArg Int32.toInt hv9574
                                  have x9576 := HI.eqA hI9387 (p := 233) (j := 1) (hv9474)
                                  have lw_v9574 := fun i h0 h1 => congrArg Int32.toInt (hr9572.1 i (Int.le_trans (by decide) h0) h1 (fun e => absurd (e ▸ h0 : (10 : Int) ≤ 1) (by decide)))
                                  refine At.enter rfl ?_
                                  refine q_iinc (w_p1 (by decide) (Or.inr rfl) (w_p1 (by decide) (Or.inr rfl) e9402)) (x9383.toInt + 1) rfl (by omega) (fun v9577 hv9577 => ?_)
                                  refine r_goto ?_
                                  refine At.enter rfl ?_
                                  refine q_iinc (w_p1 (by decide) (Or.inr rfl) (w_p1 (by decide) (Or.inr rfl) (w_p1 (by decide) (Or.inr rfl) e9403))) (x9384.toInt + 6) rfl (by omega) (fun v9578 hv9578 => ?_)
                                  refine r_goto ?_
                                  exact ih9391 (405 - v9578.toInt) _ _ ⟨v9577, v9578, x9385, by first | rfl | omega, hI9569, hF9573, ((hF9570.1 231 6 mf_X11_addLoad_231_231_6).trans e9392), ((hF9570.1 231 8 mf_X11_addLoad_231_231_8).trans e9393), ((hr9572.1 0 (by decide) (by decide) (by decide)).trans e9394), ((hr9572.1 4 (by decide) (by decide) (by decide)).trans e9395), ((hr9572.1 5 (by decide) (by decide) (by decide)).trans e9396), ((hr9572.1 6 (by decide) (by decide) (by decide)).trans e9397), ((hr9572.1 2 (by decide) (by decide) (by decide)).trans e9398), ((hr9572.1 3 (by decide) (by decide) (by decide)).trans e9399), (w_p1 (by decide) (Or.inr rfl) (w_p1 (by decide) (Or.inr rfl) (w_p1 (by decide) (Or.inr rfl) (w_p1 (by decide) (Or.inr rfl) e9400)))), (w_p1 (by decide) (Or.inr rfl) (w_p1 (by decide) (Or.inr rfl) (w_p1 (by decide) (Or.inr rfl) (w_p1 (by decide) (Or.inr rfl) e9401)))), (w_p1 (by decide) (Or.inr rfl) (w_e1 _ _ _)), (w_e1 _ _ _), by omega, by omega, by omega, by omega, (by intro i i0 i1; (first | (refine ((lw_v9574 (i) (by first | exact i0 | omega) (by first | exact i1 | omega))).trans ?_; (first | (refine ((q9408 ((i)) (by omega) (by omega))).trans ?_; (first | with_reducible rfl | omega | exact eA_ix (by omega) | rfl)) | (refine ((q9409 ((i)) (by omega) (by omega))).trans ?_; (first | with_reducible rfl | omega | exact eA_ix (by omega) | rfl)) | (refine ((q9415 ((i)) (by omega) (by omega))).trans ?_; (first | with_reducible rfl | omega | exact eA_ix (by omega) | rfl)))) | (refine ((hr9572.2.2.1 (i) (by first | exact i0 | omega) (by first | exact i1 | omega))).trans ?_; (first | (refine ((q9408 ((i)) (by omega) (by omega))).trans ?_; (first | with_reducible rfl | omega | exact eA_ix (by omega) | rfl)) | (refine ((q9409 ((i)) (by omega) (by omega))).trans ?_; (first | with_reducible rfl | omega | exact eA_ix (by omega) | rfl)) | (refine ((q9415 ((i)) (by omega) (by omega))).trans ?_; (first | with_reducible rfl | omega | exact eA_ix (by omega) | rfl)))) | (refine ((hr9572.2.2.2 (i) (by first | exact i0 | omega) (by first | exact i1 | omega))).trans ?_; exact (Decidable.em ((i) = 46 + 6 * (eA g9386 233 1).toInt + 0)).elim (fun k445_ => by refine (if_pos k445_).trans ?_; (first | with_reducible rfl | omega | exact eA_ix (by omega) | rfl)) (fun k445_ => by refine (if_neg k445_).trans ?_; exact (Decidable.em ((i) = 46 + 6 * (eA g9386 233 1).toInt + 1)).elim (fun k446_ => by refine (if_pos k446_).trans ?_; (first | with_reducible rfl | omega | exact eA_ix (by omega) | rfl)) (fun k446_ => by refine (if_neg k446_).trans ?_; exact (Decidable.em ((i) = 46 + 6 * (eA g9386 233 1).toInt + 2)).elim (fun k447_ => by refine (if_pos k447_).trans ?_; (first | with_reducible rfl | omega | exact eA_ix (by omega) | rfl)) (fun k447_ => by refine (if_neg k447_).trans ?_; exact (Decidable.em ((i) = 46 + 6 * (eA g9386 233 1).toInt + 3)).elim (fun k448_ => by refine (if_pos k448_).trans ?_; (first | with_reducible rfl | omega | exact eA_ix (by omega) | rfl)) (fun k448_ => by refine (if_neg k448_).trans ?_; exact (Decidable.em ((i) = 46 + 6 * (eA g9386 233 1).toInt + 4)).elim (fun k449_ => by refine (if_pos k449_).trans ?_; (first | with_reducible rfl | omega | exact eA_ix (by omega) | rfl)) (fun k449_ => by refine (if_neg k449_).trans ?_; exact (Decidable.em ((i) = 46 + 6 * (eA g9386 233 1).toInt + 5)).elim (fun k450_ => by refine (if_pos k450_).trans ?_; (first | with_reducible rfl | omega | exact eA_ix (by omega) | rfl)) (fun k450_ => by refine (if_neg k450_).trans ?_; (first | (refine ((q9408 ((i)) (by omega) (by omega))).trans ?_; (first | with_reducible rfl | omega | exact eA_ix (by omega) | rfl)) | (refine ((q9409 ((i)) (by omega) (by omega))).trans ?_; (first | with_reducible rfl | omega | exact eA_ix (by omega) | rfl)) | (refine ((q9415 ((i)) (by omega) (by omega))).trans ?_; (first | with_reducible rfl | omega | exact eA_ix (by omega) | rfl)))))))))))), (by intro i i0 i1; (first | (refine ((hr9572.2.2.1 (i) (by first | exact i0 | omega) (by first | exact i1 | omega))).trans ?_; (first | (refine ((q9408 ((i)) (by omega) (by omega))).trans ?_; (first | with_reducible rfl | omega | exact eA_ix (by omega) | rfl)) | (refine ((q9409 ((i)) (by omega) (by omega))).trans ?_; (first | with_reducible rfl | omega | exact eA_ix (by omega) | rfl)) | (refine ((q9415 ((i)) (by omega) (by omega))).trans ?_; (first | with_reducible rfl | omega | exact eA_ix (by omega) | rfl)))) | (refine ((hr9572.2.2.2 (i) (by first | exact i0 | omega) (by first | exact i1 | omega))).trans ?_; exact (Decidable.em ((i) = 46 + 6 * (eA g9386 233 1).toInt + 0)).elim (fun k451_ => by refine (if_pos k451_).trans ?_; (first | with_reducible rfl | omega | exact eA_ix (by omega) | rfl)) (fun k451_ => by refine (if_neg k451_).trans ?_; exact (Decidable.em ((i) = 46 + 6 * (eA g9386 233 1).toInt + 1)).elim (fun k452_ => by refine (if_pos k452_).trans ?_; (first | with_reducible rfl | omega | exact eA_ix (by omega) | rfl)) (fun k452_ => by refine (if_neg k452_).trans ?_; exact (Decidable.em ((i) = 46 + 6 * (eA g9386 233 1).toInt + 2)).elim (fun k453_ => by refine (if_pos k453_).trans ?_; (first | with_reducible rfl | omega | exact eA_ix (by omega) | rfl)) (fun k453_ => by refine (if_neg k453_).trans ?_; exact (Decidable.em ((i) = 46 + 6 * (eA g9386 233 1).toInt + 3)).elim (fun k454_ => by refine (if_pos k454_).trans ?_; (first | with_reducible rfl | omega | exact eA_ix (by omega) | rfl)) (fun k454_ => by refine (if_neg k454_).trans ?_; exact (Decidable.em ((i) = 46 + 6 * (eA g9386 233 1).toInt + 4)).elim (fun k455_ => by refine (if_pos k455_).trans ?_; (first | with_reducible rfl | omega | exact eA_ix (by omega) | rfl)) (fun k455_ => by refine (if_neg k455_).trans ?_; exact (Decidable.em ((i) = 46 + 6 * (eA g9386 233 1).toInt + 5)).elim (fun k456_ => by refine (if_pos k456_).trans ?_; (first | with_reducible rfl | omega | exact eA_ix (by omega) | rfl)) (fun k456_ => by refine (if_neg k456_).trans ?_; (first | (refine ((q9408 ((i)) (by omega) (by omega))).trans ?_; (first | with_reducible rfl | omega | exact eA_ix (by omega) | rfl)) | (refine ((q9409 ((i)) (by omega) (by omega))).trans ?_; (first | with_reducible rfl | omega | exact eA_ix (by omega) | rfl)) | (refine ((q9415 ((i)) (by omega) (by omega))).trans ?_; (first | with_reducible rfl | omega | exact eA_ix (by omega) | rfl)))))))))) | (refine ((lw_v9574 (i) (by first | exact i0 | omega) (by first | exact i1 | omega))).trans ?_; (first | (refine ((q9408 ((i)) (by omega) (by omega))).trans ?_; (first | with_reducible rfl | omega | exact eA_ix (by omega) | rfl)) | (refine ((q9409 ((i)) (by omega) (by omega))).trans ?_; (first | with_reducible rfl | omega | exact eA_ix (by omega) | rfl)) | (refine ((q9415 ((i)) (by omega) (by omega))).trans ?_; (first | with_reducible rfl | omega | exact eA_ix (by omega) | rfl)))))), by omega, by omega, (RLI.y (by omega) (by omega) q9412 (show x9384.toInt + 6 ≤ (gI g0 231 8).toInt ∧ (eA g9386 233 1).toInt < 8 ∧ (1 ≤ (eA g0 236 x9384.toInt).toInt ∧ (eA g0 236 x9384.toInt).toInt ≤ 9) ∧ (0 ≤ (eA g0 236 (x9384.toInt + 3)).toInt ∧ (eA g0 236 (x9384.toInt + 3)).toInt ≤ 99) ∧ (0 ≤ (eA g0 236 (x9384.toInt + 4)).toInt ∧ (eA g0 236 (x9384.toInt + 4)).toInt ≤ 9) ∧ (0 ≤ (eA g0 236 (x9384.toInt + 5)).toInt ∧ (eA g0 236 (x9384.toInt + 5)).toInt ≤ 9999) ∧ (0 ≤ (eA g0 236 (x9384.toInt + 1)).toInt ∧ (eA g0 236 (x9384.toInt + 1)).toInt < (eA g0 233 0).toInt) ∧ (0 ≤ (eA g0 236 (x9384.toInt + 2)).toInt ∧ (eA g0 236 (x9384.toInt + 2)).toInt < (eA g0 233 0).toInt) from by have y457_ := congrArg Int32.toInt hv9480; have y458_ := congrArg Int32.toInt hv9482; have y459_ := congrArg Int32.toInt hv9484; have y460_ := congrArg Int32.toInt hv9486; have y461_ := congrArg Int32.toInt hv9532; have y462_ := congrArg Int32.toInt hv9547; omega) (by omega) (by omega)), (by omega), by omega, (by intro i i0 i1; refine (hr9572.2.2.2 i i0 i1).trans ?_; exact (Decidable.em (i = 46 + 6 * (eA g9386 233 1).toInt + 0)).elim (fun k475_ => by refine (if_pos k475_).trans ?_; refine Eq.trans ?_ (RFI.y (by omega) (by omega) q9412 (show x9384.toInt + 6 ≤ (gI g0 231 8).toInt ∧ (eA g9386 233 1).toInt < 8 ∧ (1 ≤ (eA g0 236 x9384.toInt).toInt ∧ (eA g0 236 x9384.toInt).toInt ≤ 9) ∧ (0 ≤ (eA g0 236 (x9384.toInt + 3)).toInt ∧ (eA g0 236 (x9384.toInt + 3)).toInt ≤ 99) ∧ (0 ≤ (eA g0 236 (x9384.toInt + 4)).toInt ∧ (eA g0 236 (x9384.toInt + 4)).toInt ≤ 9) ∧ (0 ≤ (eA g0 236 (x9384.toInt + 5)).toInt ∧ (eA g0 236 (x9384.toInt + 5)).toInt ≤ 9999) ∧ (0 ≤ (eA g0 236 (x9384.toInt + 1)).toInt ∧ (eA g0 236 (x9384.toInt + 1)).toInt < (eA g0 233 0).toInt) ∧ (0 ≤ (eA g0 236 (x9384.toInt + 2)).toInt ∧ (eA g0 236 (x9384.toInt + 2)).toInt < (eA g0 233 0).toInt) from by have y463_ := congrArg Int32.toInt hv9480; have y464_ := congrArg Int32.toInt hv9482; have y465_ := congrArg Int32.toInt hv9484; have y466_ := congrArg Int32.toInt hv9486; have y467_ := congrArg Int32.toInt hv9532; have y468_ := congrArg Int32.toInt hv9547; omega) (by omega) (by omega)); refine Eq.trans ?_ (eA_ix (g := g0) (p := 236) (show x9384.toInt = x9384.toInt + (i - 46 - 6 * (eA g9386 233 1).toInt) from by omega)); have y469_ := congrArg Int32.toInt hv9480; have y470_ := congrArg Int32.toInt hv9482; have y471_ := congrArg Int32.toInt hv9484; have y472_ := congrArg Int32.toInt hv9486; have y473_ := congrArg Int32.toInt hv9532; have y474_ := congrArg Int32.toInt hv9547; omega) (fun k475_ => by refine (if_neg k475_).trans ?_; exact (Decidable.em (i = 46 + 6 * (eA g9386 233 1).toInt + 1)).elim (fun k476_ => by refine (if_pos k476_).trans ?_; refine Eq.trans ?_ (RFI.y (by omega) (by omega) q9412 (show x9384.toInt + 6 ≤ (gI g0 231 8).toInt ∧ (eA g9386 233 1).toInt < 8 ∧ (1 ≤ (eA g0 236 x9384.toInt).toInt ∧ (eA g0 236 x9384.toInt).toInt ≤ 9) ∧ (0 ≤ (eA g0 236 (x9384.toInt + 3)).toInt ∧ (eA g0 236 (x9384.toInt + 3)).toInt ≤ 99) ∧ (0 ≤ (eA g0 236 (x9384.toInt + 4)).toInt ∧ (eA g0 236 (x9384.toInt + 4)).toInt ≤ 9) ∧ (0 ≤ (eA g0 236 (x9384.toInt + 5)).toInt ∧ (eA g0 236 (x9384.toInt + 5)).toInt ≤ 9999) ∧ (0 ≤ (eA g0 236 (x9384.toInt + 1)).toInt ∧ (eA g0 236 (x9384.toInt + 1)).toInt < (eA g0 233 0).toInt) ∧ (0 ≤ (eA g0 236 (x9384.toInt + 2)).toInt ∧ (eA g0 236 (x9384.toInt + 2)).toInt < (eA g0 233 0).toInt) from by have y463_ := congrArg Int32.toInt hv9480; have y464_ := congrArg Int32.toInt hv9482; have y465_ := congrArg Int32.toInt hv9484; have y466_ := congrArg Int32.toInt hv9486; have y467_ := congrArg Int32.toInt hv9532; have y468_ := congrArg Int32.toInt hv9547; omega) (by omega) (by omega)); refine Eq.trans ?_ (eA_ix (g := g0) (p := 236) (show x9384.toInt + 1 = x9384.toInt + (i - 46 - 6 * (eA g9386 233 1).toInt) from by omega)); have y469_ := congrArg Int32.toInt hv9480; have y470_ := congrArg Int32.toInt hv9482; have y471_ := congrArg Int32.toInt hv9484; have y472_ := congrArg Int32.toInt hv9486; have y473_ := congrArg Int32.toInt hv9532; have y474_ := congrArg Int32.toInt hv9547; omega) (fun k476_ => by refine (if_neg k476_).trans ?_; exact (Decidable.em (i = 46 + 6 * (eA g9386 233 1).toInt + 2)).elim (fun k477_ => by refine (if_pos k477_).trans ?_; refine Eq.trans ?_ (RFI.y (by omega) (by omega) q9412 (show x9384.toInt + 6 ≤ (gI g0 231 8).toInt ∧ (eA g9386 233 1).toInt < 8 ∧ (1 ≤ (eA g0 236 x9384.toInt).toInt ∧ (eA g0 236 x9384.toInt).toInt ≤ 9) ∧ (0 ≤ (eA g0 236 (x9384.toInt + 3)).toInt ∧ (eA g0 236 (x9384.toInt + 3)).toInt ≤ 99) ∧ (0 ≤ (eA g0 236 (x9384.toInt + 4)).toInt ∧ (eA g0 236 (x9384.toInt + 4)).toInt ≤ 9) ∧ (0 ≤ (eA g0 236 (x9384.toInt + 5)).toInt ∧ (eA g0 236 (x9384.toInt + 5)).toInt ≤ 9999) ∧ (0 ≤ (eA g0 236 (x9384.toInt + 1)).toInt ∧ (eA g0 236 (x9384.toInt + 1)).toInt < (eA g0 233 0).toInt) ∧ (0 ≤ (eA g0 236 (x9384.toInt + 2)).toInt ∧ (eA g0 236 (x9384.toInt + 2)).toInt < (eA g0 233 0).toInt) from by have y463_ := congrArg Int32.toInt hv9480; have y464_ := congrArg Int32.toInt hv9482; have y465_ := congrArg Int32.toInt hv9484; have y466_ := congrArg Int32.toInt hv9486; have y467_ := congrArg Int32.toInt hv9532; have y468_ := congrArg Int32.toInt hv9547; omega) (by omega) (by omega)); refine Eq.trans ?_ (eA_ix (g := g0) (p := 236) (show x9384.toInt + 2 = x9384.toInt + (i - 46 - 6 * (eA g9386 233 1).toInt) from by omega)); have y469_ := congrArg Int32.toInt hv9480; have y470_ := congrArg Int32.toInt hv9482; have y471_ := congrArg Int32.toInt hv9484; have y472_ := congrArg Int32.toInt hv9486; have y473_ := congrArg Int32.toInt hv9532; have y474_ := congrArg Int32.toInt hv9547; omega) (fun k477_ => by refine (if_neg k477_).trans ?_; exact (Decidable.em (i = 46 + 6 * (eA g9386 233 1).toInt + 3)).elim (fun k478_ => by refine (if_pos k478_).trans ?_; refine Eq.trans ?_ (RFI.y (by omega) (by omega) q9412 (show x9384.toInt + 6 ≤ (gI g0 231 8).toInt ∧ (eA g9386 233 1).toInt < 8 ∧ (1 ≤ (eA g0 236 x9384.toInt).toInt ∧ (eA g0 236 x9384.toInt).toInt ≤ 9) ∧ (0 ≤ (eA g0 236 (x9384.toInt + 3)).toInt ∧ (eA g0 236 (x9384.toInt + 3)).toInt ≤ 99) ∧ (0 ≤ (eA g0 236 (x9384.toInt + 4)).toInt ∧ (eA g0 236 (x9384.toInt + 4)).toInt ≤ 9) ∧ (0 ≤ (eA g0 236 (x9384.toInt + 5)).toInt ∧ (eA g0 236 (x9384.toInt + 5)).toInt ≤ 9999) ∧ (0 ≤ (eA g0 236 (x9384.toInt + 1)).toInt ∧ (eA g0 236 (x9384.toInt + 1)).toInt < (eA g0 233 0).toInt) ∧ (0 ≤ (eA g0 236 (x9384.toInt + 2)).toInt ∧ (eA g0 236 (x9384.toInt + 2)).toInt < (eA g0 233 0).toInt) from by have y463_ := congrArg Int32.toInt hv9480; have y464_ := congrArg Int32.toInt hv9482; have y465_ := congrArg Int32.toInt hv9484; have y466_ := congrArg Int32.toInt hv9486; have y467_ := congrArg Int32.toInt hv9532; have y468_ := congrArg Int32.toInt hv9547; omega) (by omega) (by omega)); refine Eq.trans ?_ (eA_ix (g := g0) (p := 236) (show x9384.toInt + 3 = x9384.toInt + (i - 46 - 6 * (eA g9386 233 1).toInt) from by omega)); have y469_ := congrArg Int32.toInt hv9480; have y470_ := congrArg Int32.toInt hv9482; have y471_ := congrArg Int32.toInt hv9484; have y472_ := congrArg Int32.toInt hv9486; have y473_ := congrArg Int32.toInt hv9532; have y474_ := congrArg Int32.toInt hv9547; omega) (fun k478_ => by refine (if_neg k478_).trans ?_; exact (Decidable.em (i = 46 + 6 * (eA g9386 233 1).toInt + 4)).elim (fun k479_ => by refine (if_pos k479_).trans ?_; refine Eq.trans ?_ (RFI.y (by omega) (by omega) q9412 (show x9384.toInt + 6 ≤ (gI g0 231 8).toInt ∧ (eA g9386 233 1).toInt < 8 ∧ (1 ≤ (eA g0 236 x9384.toInt).toInt ∧ (eA g0 236 x9384.toInt).toInt ≤ 9) ∧ (0 ≤ (eA g0 236 (x9384.toInt + 3)).toInt ∧ (eA g0 236 (x9384.toInt + 3)).toInt ≤ 99) ∧ (0 ≤ (eA g0 236 (x9384.toInt + 4)).toInt ∧ (eA g0 236 (x9384.toInt + 4)).toInt ≤ 9) ∧ (0 ≤ (eA g0 236 (x9384.toInt + 5)).toInt ∧ (eA g0 236 (x9384.toInt + 5)).toInt ≤ 9999) ∧ (0 ≤ (eA g0 236 (x9384.toInt + 1)).toInt ∧ (eA g0 236 (x9384.toInt + 1)).toInt < (eA g0 233 0).toInt) ∧ (0 ≤ (eA g0 236 (x9384.toInt + 2)).toInt ∧ (eA g0 236 (x9384.toInt + 2)).toInt < (eA g0 233 0).toInt) from by have y463_ := congrArg Int32.toInt hv9480; have y464_ := congrArg Int32.toInt hv9482; have y465_ := congrArg Int32.toInt hv9484; have y466_ := congrArg Int32.toInt hv9486; have y467_ := congrArg Int32.toInt hv9532; have y468_ := congrArg Int32.toInt hv9547; omega) (by omega) (by omega)); refine Eq.trans ?_ (eA_ix (g := g0) (p := 236) (show x9384.toInt + 4 = x9384.toInt + (i - 46 - 6 * (eA g9386 233 1).toInt) from by omega)); have y469_ := congrArg Int32.toInt hv9480; have y470_ := congrArg Int32.toInt hv9482; have y471_ := congrArg Int32.toInt hv9484; have y472_ := congrArg Int32.toInt hv9486; have y473_ := congrArg Int32.toInt hv9532; have y474_ := congrArg Int32.toInt hv9547; omega) (fun k479_ => by refine (if_neg k479_).trans ?_; exact (Decidable.em (i = 46 + 6 * (eA g9386 233 1).toInt + 5)).elim (fun k480_ => by refine (if_pos k480_).trans ?_; refine Eq.trans ?_ (RFI.y (by omega) (by omega) q9412 (show x9384.toInt + 6 ≤ (gI g0 231 8).toInt ∧ (eA g9386 233 1).toInt < 8 ∧ (1 ≤ (eA g0 236 x9384.toInt).toInt ∧ (eA g0 236 x9384.toInt).toInt ≤ 9) ∧ (0 ≤ (eA g0 236 (x9384.toInt + 3)).toInt ∧ (eA g0 236 (x9384.toInt + 3)).toInt ≤ 99) ∧ (0 ≤ (eA g0 236 (x9384.toInt + 4)).toInt ∧ (eA g0 236 (x9384.toInt + 4)).toInt ≤ 9) ∧ (0 ≤ (eA g0 236 (x9384.toInt + 5)).toInt ∧ (eA g0 236 (x9384.toInt + 5)).toInt ≤ 9999) ∧ (0 ≤ (eA g0 236 (x9384.toInt + 1)).toInt ∧ (eA g0 236 (x9384.toInt + 1)).toInt < (eA g0 233 0).toInt) ∧ (0 ≤ (eA g0 236 (x9384.toInt + 2)).toInt ∧ (eA g0 236 (x9384.toInt + 2)).toInt < (eA g0 233 0).toInt) from by have y463_ := congrArg Int32.toInt hv9480; have y464_ := congrArg Int32.toInt hv9482; have y465_ := congrArg Int32.toInt hv9484; have y466_ := congrArg Int32.toInt hv9486; have y467_ := congrArg Int32.toInt hv9532; have y468_ := congrArg Int32.toInt hv9547; omega) (by omega) (by omega)); refine Eq.trans ?_ (eA_ix (g := g0) (p := 236) (show x9384.toInt + 5 = x9384.toInt + (i - 46 - 6 * (eA g9386 233 1).toInt) from by omega)); have y469_ := congrArg Int32.toInt hv9480; have y470_ := congrArg Int32.toInt hv9482; have y471_ := congrArg Int32.toInt hv9484; have y472_ := congrArg Int32.toInt hv9486; have y473_ := congrArg Int32.toInt hv9532; have y474_ := congrArg Int32.toInt hv9547; omega) (fun k480_ => by refine (if_neg k480_).trans ?_; refine (eA_ti (rfl)).trans ?_; refine (q9415 i i0 i1).trans ?_; exact RFI.n (by omega) (by omega) q9412 (by omega) rfl (fun k => absurd k.2 (by omega)))))))))⟩ ⟨by omega, by omega⟩
  · have c6380_ : v6377.toInt = 0 := en_k_ne_f c6380
    refine At.enter rfl ?_
    refine r_aload_n rfl ?_
    refine r_bipush (-6) rfl ?_
    refine r_callV 25 rfl [.ref 231, .int (-6)] [] (Nat.le_of_ble_eq_true rfl) rfl (T_X11_tell_231 _ hI6378 (-6) (by decide)) ?_
    rintro _ _ ⟨g9579, rfl, hI9580, hF9581, v9582, rfl, hr9583⟩
    refine At.sti ?_
    have hF9584 := Fr.tr hF6379 hF9581 rfl rfl
    have zv9585 : ((-6) : Int32).toInt = (-6) := rfl
    refine At.enter rfl ?_
    refine r_ireti ?_
    obtain ⟨v9586, hv9586⟩ : ∃ v, eA g0 233 1 = v := ⟨_, rfl⟩
    have tv9586 := congrArg Int32.toInt hv9586
    have wv9586 := HI.t1 hI0
    rw [hv9586] at wv9586
    have tv9586 := congrArg Int32.toInt hv9586
    have x9587 := HI.eqA hI9580 (p := 233) (j := 1) ((((eA_c (hF9581.2.1 233 ma_X11_tell_231_233)).trans ((eA_c gA_sI).trans (eA_c gA_sI))).trans hv9586))
    have x9588 := HI.eqA hI0 (p := 233) (j := 1) (hv9586)
    have x9589 := HI.eqI hI9580 (p := 231) (b := 8) (((hF9581.1 231 8 mf_X11_tell_231_231_8).trans (gI_sI_eq hI6375.1 kx_231 rfl _)))
    have zv9590 : (0 : Int32).toInt = 0 := rfl
    have x9591 := HI.eqI hI0 (p := 231) (b := 8) (hv6377)
    obtain ⟨v9592, hv9592⟩ : ∃ v, gI g0 231 6 = v := ⟨_, rfl⟩
    have tv9592 := congrArg Int32.toInt hv9592
    have x9593 := HI.eqI hI9580 (p := 231) (b := 6) ((((hF9581.1 231 6 mf_X11_tell_231_231_6).trans ((gI_sI_ne (by decide)).trans (gI_sI_ne (by decide)))).trans hv9592))
    obtain ⟨v9595, hv9595⟩ : ∃ v, eA g0 233 0 = v := ⟨_, rfl⟩
    have tv9595 := congrArg Int32.toInt hv9595
    have wv9595 := HI.t0 hI0
    rw [hv9595] at wv9595
    have tv9595 := congrArg Int32.toInt hv9595
    have x9596 := HI.eqA hI9580 (p := 233) (j := 0) ((((eA_c (hF9581.2.1 233 ma_X11_tell_231_233)).trans ((eA_c gA_sI).trans (eA_c gA_sI))).trans hv9595))
    have x9597 := HI.eqA hI0 (p := 233) (j := 0) (hv9595)
    obtain ⟨v9598, hv9598⟩ : ∃ v, eA g0 233 4 = v := ⟨_, rfl⟩
    have wv9598 := HI.t4 hI0
    rw [hv9598] at wv9598
    have tv9598 := congrArg Int32.toInt hv9598
    have x9599 := HI.eqA hI9580 (p := 233) (j := 4) ((((eA_c (hF9581.2.1 233 ma_X11_tell_231_233)).trans ((eA_c gA_sI).trans (eA_c gA_sI))).trans hv9598))
    have x9600 := HI.eqA hI0 (p := 233) (j := 4) (hv9598)
    obtain ⟨v9601, hv9601⟩ : ∃ v, eA g0 233 5 = v := ⟨_, rfl⟩
    have wv9601 := HI.t5 hI0
    rw [hv9601] at wv9601
    have tv9601 := congrArg Int32.toInt hv9601
    have x9602 := HI.eqA hI9580 (p := 233) (j := 5) ((((eA_c (hF9581.2.1 233 ma_X11_tell_231_233)).trans ((eA_c gA_sI).trans (eA_c gA_sI))).trans hv9601))
    have x9603 := HI.eqA hI0 (p := 233) (j := 5) (hv9601)
    obtain ⟨v9604, hv9604⟩ : ∃ v, eA g0 233 6 = v := ⟨_, rfl⟩
    have wv9604 := HI.t6 hI0
    rw [hv9604] at wv9604
    have tv9604 := congrArg Int32.toInt hv9604
    have x9605 := HI.eqA hI9580 (p := 233) (j := 6) ((((eA_c (hF9581.2.1 233 ma_X11_tell_231_233)).trans ((eA_c gA_sI).trans (eA_c gA_sI))).trans hv9604))
    have x9606 := HI.eqA hI0 (p := 233) (j := 6) (hv9604)
    obtain ⟨v9607, hv9607⟩ : ∃ v, eA g0 233 2 = v := ⟨_, rfl⟩
    have tv9607 := congrArg Int32.toInt hv9607
    have wv9607 := HI.t2 hI0
    rw [hv9607] at wv9607
    have tv9607 := congrArg Int32.toInt hv9607
    have x9608 := HI.eqA hI9580 (p := 233) (j := 2) ((((eA_c (hF9581.2.1 233 ma_X11_tell_231_233)).trans ((eA_c gA_sI).trans (eA_c gA_sI))).trans hv9607))
    have x9609 := HI.eqA hI0 (p := 233) (j := 2) (hv9607)
    obtain ⟨v9610, hv9610⟩ : ∃ v, eA g0 233 3 = v := ⟨_, rfl⟩
    have wv9610 := HI.t3 hI0
    rw [hv9610] at wv9610
    have tv9610 := congrArg Int32.toInt hv9610
    have x9611 := HI.eqA hI9580 (p := 233) (j := 3) ((((eA_c (hF9581.2.1 233 ma_X11_tell_231_233)).trans ((eA_c gA_sI).trans (eA_c gA_sI))).trans hv9610))
    have x9612 := HI.eqA hI0 (p := 233) (j := 3) (hv9610)
    have x9613 := HI.eqA hI0 (p := 233) (j := 0) (hv9595)
    have y9614 := HI.eqA hI9580 (p := 233) (j := 1) (eA_c (j := 1) (((hF9581.2.1 233 ma_X11_tell_231_233).trans ((gA_sI).trans (gA_sI)))))
    obtain ⟨v9615, hv9615⟩ : ∃ v, gI g9579 231 1 = v := ⟨_, rfl⟩
    have tv9615 := congrArg Int32.toInt hv9615
    exact ⟨_, rfl, hI9580, hF9584, _, rfl, by omega, ⟨⟨⟨(by refine Eq.trans ?_ (RLI.z _ _ _ _ (by omega)); exact eA_ti (((hF9581.2.1 233 ma_X11_tell_231_233).trans ((gA_sI).trans (gA_sI))))), by omega, by omega, by omega, by omega, by omega, by omega, by omega, by omega, by omega⟩, (by intro i i0 i1; refine (eA_ti (((hF9581.2.1 233 ma_X11_tell_231_233).trans ((gA_sI).trans (gA_sI))))).trans ?_; (first | with_reducible rfl | omega | exact eA_ix (by omega) | rfl)), (by intro i i0 i1; refine (eA_ti (((hF9581.2.1 233 ma_X11_tell_231_233).trans ((gA_sI).trans (gA_sI))))).trans ?_; (first | with_reducible rfl | omega | exact eA_ix (by omega) | rfl)), (by intro i i0 i1; refine (eA_ti (((hF9581.2.1 233 ma_X11_tell_231_233).trans ((gA_sI).trans (gA_sI))))).trans ?_; refine (eA_ix (show i = 46 + (i - 46) from by omega)).trans ?_; exact RFI.z _ _ _ _ (fun i : Int => (eA g0 233 (46 + i)).toInt) (by omega) _)⟩, (SU.mk (by omega))⟩⟩
