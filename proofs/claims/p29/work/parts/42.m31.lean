def F_X11_row_231 : List (Nat × Nat) := [(231, 0), (231, 1), (231, 6), (231, 8)]
def A_X11_row_231 : List Nat := [232, 233]
theorem mf_X11_tell_231_231_8 : memF F_X11_tell_231 231 8 = false := by decide
theorem mf_X11_tell_231_231_6 : memF F_X11_tell_231 231 6 = false := by decide
theorem mf_X11_addLoad_231_231_6 : memF F_X11_addLoad_231 231 6 = false := by decide
theorem mf_X11_addLoad_231_231_8 : memF F_X11_addLoad_231 231 8 = false := by decide
set_option maxRecDepth 100000 in
set_option maxHeartbeats 4000000 in
theorem T_X11_row_231 (d : Nat) {N : Nat} {g0 : List en_E} (hI0 : HI g0) : Ev (d + 3) 182 [.ref 231] (g0, N) (fun w h' => ∃ g', h' = (g', N) ∧ HI g' ∧ Fr F_X11_row_231 A_X11_row_231 g0 g' ∧ ∃ r : Int32, w = some (.int r) ∧ ((-6) ≤ r.toInt ∧ r.toInt ≤ 400) ∧ (((eA g' 233 1).toInt = RLI (fun i : Int => (eA g0 236 i).toInt) (gI g0 231 8).toInt (eA g0 233 0).toInt (eA g0 233 1).toInt (6 * (((gI g0 231 8).toInt + 5) / 6)) ∧ ((gI g0 231 8).toInt = 0 → r.toInt = -6 ∧ (gI g' 231 6).toInt = (gI g0 231 6).toInt) ∧ ((gI g0 231 8).toInt ≠ 0 → r.toInt = (eA g' 233 1).toInt - (eA g0 233 1).toInt ∧ (gI g' 231 6).toInt = (6 * (((gI g0 231 8).toInt + 5) / 6)) / 6 - r.toInt) ∧ (gI g' 231 8).toInt = 0 ∧ (eA g' 233 0).toInt = (eA g0 233 0).toInt ∧ (eA g' 233 4).toInt = (eA g0 233 4).toInt ∧ (eA g' 233 5).toInt = (eA g0 233 5).toInt ∧ (eA g' 233 6).toInt = (eA g0 233 6).toInt ∧ (eA g' 233 2).toInt = (eA g0 233 2).toInt ∧ (eA g' 233 3).toInt = (eA g0 233 3).toInt) ∧ (∀ i : Int, 10 ≤ i → i < 46 → (eA g' 233 (i)).toInt = (eA g0 233 (i)).toInt) ∧ (∀ i : Int, 94 ≤ i → i < 5510 → (eA g' 233 (i)).toInt = (eA g0 233 (i)).toInt) ∧ (∀ i : Int, 46 ≤ i → i < 94 → (eA g' 233 (i)).toInt = RFI (fun i : Int => (eA g0 236 i).toInt) (gI g0 231 8).toInt (eA g0 233 0).toInt (eA g0 233 1).toInt (fun i : Int => (eA g0 233 (46 + i)).toInt) (6 * (((gI g0 231 8).toInt + 5) / 6)) (i - 46)))) := by
  have hF0 : Fr F_X11_row_231 A_X11_row_231 g0 g0 := Fr.rf
  refine Ev.mk rfl rfl ⟨Nat.le_of_ble_eq_true rfl, Or.inr (q_rc hI0.1 kx_231 rfl)⟩ ?_
  show At _ none _ _ (0, [(0, .ref 231)], [], (_, _)) _
  refine At.enter rfl ?_
  refine r_aload_n rfl ?_
  refine r_iconst 0 rfl ?_
  refine q_putI (Sh.int hI0.1 kx_231 rfl) rfl ?_
  have hI6375 := HI.wI0 hI0 kx_231 rfl (p := 231) (b := 0) (v := 0) rfl
  have hF6376 := Fr.wI (p := 231) (b := 0) (v := 0) hF0 rfl
  refine r_aload_n rfl ?_
  obtain ⟨v6377, hv6377⟩ : ∃ v, gI g0 231 8 = v := ⟨_, rfl⟩
  have rv6377 := RgF.at hI0.2.1 (p := 231) (b := 8) rfl
  rw [hv6377] at rv6377
  dsimp only at rv6377
  refine q_getI (Sh.int hI6375.1 kx_231 rfl) v6377 ((gI_sI_ne (by decide)).trans hv6377) ?_
  refine r_istore_n ([(1, .int v6377), (0, .ref 231)]) rfl ?_
  refine r_aload_n rfl ?_
  refine r_iconst 0 rfl ?_
  refine q_putI (Sh.int hI6375.1 kx_231 rfl) rfl ?_
  have hI6378 := HI.wI1 hI6375 kx_231 rfl (p := 231) (b := 8) (v := 0) rfl (by decide)
  have hF6379 := Fr.wI (p := 231) (b := 8) (v := 0) hF6376 rfl
  refine r_iload_n rfl ?_
  refine r_ifs 19 rfl (fun c6380 => ?_) (fun c6380 => ?_)
  · have c6380_ : v6377.toInt ≠ 0 := en_k_ne_t c6380
    refine At.enter rfl ?_
    refine r_aload_n rfl ?_
    refine r_iconst 0 rfl ?_
    refine q_putI (Sh.int hI6378.1 kx_231 rfl) rfl ?_
    have hI6381 := HI.wI0 hI6378 kx_231 rfl (p := 231) (b := 6) (v := 0) rfl
    have hF6382 := Fr.wI (p := 231) (b := 6) (v := 0) hF6379 rfl
    refine r_iconst 0 rfl ?_
    refine r_istore_n ([(2, .int 0), (1, .int v6377), (0, .ref 231)]) rfl ?_
    refine r_iconst 0 rfl ?_
    refine r_istore_n ([(3, .int 0), (2, .int 0), (1, .int v6377), (0, .ref 231)]) rfl ?_
    refine Ar.fall 35 rfl ?_
    obtain ⟨v6383, hv6383⟩ : ∃ v, eA g0 233 0 = v := ⟨_, rfl⟩
    have tv6383 := congrArg Int32.toInt hv6383
    have wv6383 := HI.t0 hI0
    rw [hv6383] at wv6383
    have tv6383 := congrArg Int32.toInt hv6383
    obtain ⟨v6384, hv6384⟩ : ∃ v, eA g0 233 4 = v := ⟨_, rfl⟩
    have wv6384 := HI.t4 hI0
    rw [hv6384] at wv6384
    have tv6384 := congrArg Int32.toInt hv6384
    obtain ⟨v6385, hv6385⟩ : ∃ v, eA g0 233 5 = v := ⟨_, rfl⟩
    have wv6385 := HI.t5 hI0
    rw [hv6385] at wv6385
    have tv6385 := congrArg Int32.toInt hv6385
    obtain ⟨v6386, hv6386⟩ : ∃ v, eA g0 233 6 = v := ⟨_, rfl⟩
    have wv6386 := HI.t6 hI0
    rw [hv6386] at wv6386
    have tv6386 := congrArg Int32.toInt hv6386
    obtain ⟨v6387, hv6387⟩ : ∃ v, eA g0 233 2 = v := ⟨_, rfl⟩
    have tv6387 := congrArg Int32.toInt hv6387
    have wv6387 := HI.t2 hI0
    rw [hv6387] at wv6387
    have tv6387 := congrArg Int32.toInt hv6387
    obtain ⟨v6388, hv6388⟩ : ∃ v, eA g0 233 3 = v := ⟨_, rfl⟩
    have wv6388 := HI.t3 hI0
    rw [hv6388] at wv6388
    have tv6388 := congrArg Int32.toInt hv6388
    have z_9416 : (0 : Int32).toInt = 0 := rfl
    have z_9417 : (0 : Int32).toInt = 0 := rfl
    have z_9418 : (0 : Int32).toInt = 0 := rfl
    have x9419 := HI.eqI hI0 (p := 231) (b := 8) (hv6377)
    obtain ⟨v9420, hv9420⟩ : ∃ v, gI g0 231 6 = v := ⟨_, rfl⟩
    have tv9420 := congrArg Int32.toInt hv9420
    have x9422 := HI.eqA hI6381 (p := 233) (j := 0) ((((eA_c gA_sI).trans ((eA_c gA_sI).trans (eA_c gA_sI))).trans hv6383))
    obtain ⟨v9423, hv9423⟩ : ∃ v, eA g0 233 1 = v := ⟨_, rfl⟩
    have tv9423 := congrArg Int32.toInt hv9423
    have wv9423 := HI.t1 hI0
    rw [hv9423] at wv9423
    have tv9423 := congrArg Int32.toInt hv9423
    have x9424 := HI.eqA hI6381 (p := 233) (j := 1) ((((eA_c gA_sI).trans ((eA_c gA_sI).trans (eA_c gA_sI))).trans hv9423))
    refine w_loopI (fun n_ l_ g_ => ∃ x9383 : Int32, ∃ x9384 : Int32, ∃ x9385 : Int32, n_ = 405 - x9384.toInt ∧ HI g_ ∧ Fr F_X11_row_231 A_X11_row_231 g0 g_ ∧ gI g_ 231 6 = x9385 ∧ gI g_ 231 8 = 0 ∧ eA g_ 233 0 = v6383 ∧ eA g_ 233 4 = v6384 ∧ eA g_ 233 5 = v6385 ∧ eA g_ 233 6 = v6386 ∧ eA g_ 233 2 = v6387 ∧ eA g_ 233 3 = v6388 ∧ en_get 0 l_ = some (.ref 231) ∧ en_get 1 l_ = some (.int v6377) ∧ en_get 2 l_ = some (.int x9383) ∧ en_get 3 l_ = some (.int x9384) ∧ (0 ≤ x9383.toInt ∧ x9383.toInt ≤ 400) ∧ (0 ≤ x9384.toInt ∧ x9384.toInt ≤ 405) ∧ (0 ≤ x9385.toInt ∧ x9385.toInt ≤ 400) ∧ (x9383.toInt ≤ x9384.toInt) ∧ (∀ i : Int, 10 ≤ i → i < 46 → (eA g_ 233 (i)).toInt = (eA g0 233 (i)).toInt) ∧ (∀ i : Int, 94 ≤ i → i < 5510 → (eA g_ 233 (i)).toInt = (eA g0 233 (i)).toInt) ∧ (x9384.toInt % 6 = 0 ∧ 0 ≤ x9384.toInt) ∧ (x9384.toInt < (gI g0 231 8).toInt + 6) ∧ ((eA g_ 233 1).toInt = RLI (fun i : Int => (eA g0 236 i).toInt) (gI g0 231 8).toInt (eA g0 233 0).toInt (eA g0 233 1).toInt x9384.toInt) ∧ (x9383.toInt = (eA g_ 233 1).toInt - (eA g0 233 1).toInt) ∧ (x9385.toInt = x9384.toInt / 6 - x9383.toInt) ∧ (∀ i : Int, 46 ≤ i → i < 94 → (eA g_ 233 (i)).toInt = RFI (fun i : Int => (eA g0 236 i).toInt) (gI g0 231 8).toInt (eA g0 233 0).toInt (eA g0 233 1).toInt (fun i : Int => (eA g0 233 (46 + i)).toInt) x9384.toInt (i - 46))) ?_ (405 - 0) ⟨0, 0, 0, by first | rfl | omega, hI6381, hF6382, (gI_sI_eq hI6378.1 kx_231 rfl _), ((gI_sI_ne (by decide)).trans (gI_sI_eq hI6375.1 kx_231 rfl _)), (((eA_c gA_sI).trans ((eA_c gA_sI).trans (eA_c gA_sI))).trans hv6383), (((eA_c gA_sI).trans ((eA_c gA_sI).trans (eA_c gA_sI))).trans hv6384), (((eA_c gA_sI).trans ((eA_c gA_sI).trans (eA_c gA_sI))).trans hv6385), (((eA_c gA_sI).trans ((eA_c gA_sI).trans (eA_c gA_sI))).trans hv6386), (((eA_c gA_sI).trans ((eA_c gA_sI).trans (eA_c gA_sI))).trans hv6387), (((eA_c gA_sI).trans ((eA_c gA_sI).trans (eA_c gA_sI))).trans hv6388), rfl, rfl, rfl, rfl, by decide, by decide, by decide, by omega, (by intro i i0 i1; refine (eA_ti (((gA_sI).trans ((gA_sI).trans (gA_sI))))).trans ?_; (first | with_reducible rfl | omega | exact eA_ix (by omega) | rfl)), (by intro i i0 i1; refine (eA_ti (((gA_sI).trans ((gA_sI).trans (gA_sI))))).trans ?_; (first | with_reducible rfl | omega | exact eA_ix (by omega) | rfl)), by omega, by omega, (by refine Eq.trans ?_ (RLI.z _ _ _ _ (by first | rfl | decide | omega)); exact eA_ti (((gA_sI).trans ((gA_sI).trans (gA_sI))))), (by have y_ := HI.eqA hI6381 (p := 233) (j := 1) (eA_c (j := 1) (((gA_sI).trans ((gA_sI).trans (gA_sI))))); omega), by omega, (by intro i i0 i1; refine (eA_ti (((gA_sI).trans ((gA_sI).trans (gA_sI))))).trans ?_; refine (eA_ix (show i = 46 + (i - 46) from by omega)).trans ?_; exact RFI.z _ _ _ _ (fun i : Int => (eA g0 233 (46 + i)).toInt) (by first | rfl | decide | omega) _)⟩
    rintro n9390 l9389 g9386 ⟨x9383, x9384, x9385, hm9425, hI9387, hF9388, e9392, e9393, e9394, e9395, e9396, e9397, e9398, e9399, e9400, e9401, e9402, e9403, r9404, r9405, r9406, q9407, q9408, q9409, q9410, q9411, q9412, q9413, q9414, q9415⟩ ih9391
    have tv9426 := congrArg Int32.toInt e9394
    have tv9427 := congrArg Int32.toInt e9395
    have tv9428 := congrArg Int32.toInt e9396
    have tv9429 := congrArg Int32.toInt e9397
    have tv9430 := congrArg Int32.toInt e9398
    have tv9431 := congrArg Int32.toInt e9399
    have tv9432 := congrArg Int32.toInt e9393
    have tv9433 := congrArg Int32.toInt e9392
    refine At.enter rfl ?_
    refine r_iload_n e9403 ?_
    refine r_iload_n e9401 ?_
    have bv9435 := q_bnd x9384
    have bv9436 := q_bnd v6377
    refine r_ics 40 rfl (fun c9434 => ?_) (fun c9434 => ?_)
    · have c9434_ : x9384.toInt ≥ v6377.toInt := en_i_ge_t c9434
      refine At.enter rfl ?_
      refine r_aload_n e9400 ?_
      refine r_iload_n e9402 ?_
      refine r_callV 225 rfl [.ref 231, .int x9383] [] (Nat.le_of_ble_eq_true rfl) rfl (T_X11_tell_231 _ hI9387 x9383 (by omega)) ?_
      rintro _ _ ⟨g9437, rfl, hI9438, hF9439, v9440, rfl, hr9441⟩
      refine At.sti ?_
      have hF9442 := Fr.tr hF9388 hF9439 rfl rfl
      refine At.enter rfl ?_
      refine r_ireti ?_
      obtain ⟨v9443, hv9443⟩ : ∃ v, eA g9386 233 1 = v := ⟨_, rfl⟩
      have tv9443 := congrArg Int32.toInt hv9443
      have wv9443 := HI.t1 hI9387
      rw [hv9443] at wv9443
      have tv9443 := congrArg Int32.toInt hv9443
      have x9444 := HI.eqA hI9438 (p := 233) (j := 1) (((eA_c (hF9439.2.1 233 ma_X11_tell_231_233)).trans hv9443))
      have x9445 := HI.eqA hI0 (p := 233) (j := 1) (hv9423)
      have x9446 := HI.eqI hI9438 (p := 231) (b := 8) (((hF9439.1 231 8 mf_X11_tell_231_231_8).trans e9393))
      have zv9447 : (0 : Int32).toInt = 0 := rfl
      have x9448 := HI.eqI hI0 (p := 231) (b := 8) (hv6377)
      have x9449 := HI.eqI hI9438 (p := 231) (b := 6) (((hF9439.1 231 6 mf_X11_tell_231_231_6).trans e9392))
      have x9451 := HI.eqA hI9438 (p := 233) (j := 0) (((eA_c (hF9439.2.1 233 ma_X11_tell_231_233)).trans e9394))
      have x9452 := HI.eqA hI0 (p := 233) (j := 0) (hv6383)
      have x9453 := HI.eqA hI9438 (p := 233) (j := 4) (((eA_c (hF9439.2.1 233 ma_X11_tell_231_233)).trans e9395))
      have x9454 := HI.eqA hI0 (p := 233) (j := 4) (hv6384)
      have x9455 := HI.eqA hI9438 (p := 233) (j := 5) (((eA_c (hF9439.2.1 233 ma_X11_tell_231_233)).trans e9396))
      have x9456 := HI.eqA hI0 (p := 233) (j := 5) (hv6385)
      have x9457 := HI.eqA hI9438 (p := 233) (j := 6) (((eA_c (hF9439.2.1 233 ma_X11_tell_231_233)).trans e9397))
      have x9458 := HI.eqA hI0 (p := 233) (j := 6) (hv6386)
      have x9459 := HI.eqA hI9438 (p := 233) (j := 2) (((eA_c (hF9439.2.1 233 ma_X11_tell_231_233)).trans e9398))
      have x9460 := HI.eqA hI0 (p := 233) (j := 2) (hv6387)
      have x9461 := HI.eqA hI9438 (p := 233) (j := 3) (((eA_c (hF9439.2.1 233 ma_X11_tell_231_233)).trans e9399))
      have x9462 := HI.eqA hI0 (p := 233) (j := 3) (hv6388)
      have x9463 := HI.eqA hI0 (p := 233) (j := 0) (hv6383)
      have y9464 := HI.eqA hI9438 (p := 233) (j := 1) (eA_c (j := 1) ((hF9439.2.1 233 ma_X11_tell_231_233)))
      exact ⟨_, rfl, hI9438, hF9442, _, rfl, by omega, ⟨⟨(by rw [show (6 * (((gI g0 231 8).toInt + 5) / 6)) = x9384.toInt from by omega]; refine Eq.trans ?_ q9412; exact eA_ti ((hF9439.2.1 233 ma_X11_tell_231_233))), by omega, by omega, by omega, by omega, by omega, by omega, by omega, by omega, by omega⟩, (by intro i i0 i1; refine (eA_ti ((hF9439.2.1 233 ma_X11_tell_231_233))).trans ?_; (first | (refine ((q9408 (i) (by first | exact i0 | omega) (by first | exact i1 | omega))).trans ?_; (first | with_reducible rfl | omega | exact eA_ix (by omega) | rfl)) | (refine ((q9409 (i) (by first | exact i0 | omega) (by first | exact i1 | omega))).trans ?_; (first | with_reducible rfl | omega | exact eA_ix (by omega) | rfl)) | (refine ((q9415 (i) (by first | exact i0 | omega) (by first | exact i1 | omega))).trans ?_; (first | with_reducible rfl | omega | exact eA_ix (by omega) | rfl)))), (by intro i i0 i1; refine (eA_ti ((hF9439.2.1 233 ma_X11_tell_231_233))).trans ?_; (first | (refine ((q9409 (i) (by first | exact i0 | omega) (by first | exact i1 | omega))).trans ?_; (first | with_reducible rfl | omega | exact eA_ix (by omega) | rfl)) | (refine ((q9408 (i) (by first | exact i0 | omega) (by first | exact i1 | omega))).trans ?_; (first | with_reducible rfl | omega | exact eA_ix (by omega) | rfl)) | (refine ((q9415 (i) (by first | exact i0 | omega) (by first | exact i1 | omega))).trans ?_; (first | with_reducible rfl | omega | exact eA_ix (by omega) | rfl)))), (by intro i i0 i1; rw [show (6 * (((gI g0 231 8).toInt + 5) / 6)) = x9384.toInt from by omega]; refine (eA_ti ((hF9439.2.1 233 ma_X11_tell_231_233))).trans ?_; exact q9415 i i0 i1)⟩⟩
    · have c9434_ : x9384.toInt < v6377.toInt := en_i_ge_f c9434
      refine At.enter rfl ?_
      refine r_iload_n e9403 ?_
      refine r_iconst 5 rfl ?_
      refine q_iadd (x9384.toInt + 5) rfl (by omega) (fun v9465 hv9465 => ?_)
      refine r_iload_n e9401 ?_
      have bv9467 := q_bnd v9465
      refine r_ics 47 rfl (fun c9466 => ?_) (fun c9466 => ?_)
      · have c9466_ : v9465.toInt ≥ v6377.toInt := en_i_ge_t c9466
        refine At.enter rfl ?_
        refine r_iconst 0 rfl ?_
        refine Ar.fall 63 rfl ?_
        refine At.enter rfl ?_
        refine r_istore _ rfl ?_
        refine r_iload (w_e1 _ _ _) ?_
        refine r_ift (by decide) ?_
        refine At.enter rfl ?_
        refine r_iconst 0 rfl ?_
        refine Ar.fall 141 rfl ?_
        refine At.enter rfl ?_
        refine r_istore _ rfl ?_
        refine r_iload (w_e1 _ _ _) ?_
        refine r_ift (by decide) ?_
        refine At.enter rfl ?_
        refine r_aload_n (w_p1 (by decide) (Or.inr rfl) (w_p1 (by decide) (Or.inr rfl) e9400)) ?_
        refine r_dup rfl ?_
        refine q_getI (Sh.int hI9387.1 kx_231 rfl) x9385 e9392 ?_
        refine r_iconst 1 rfl ?_
        refine q_iadd (x9385.toInt + 1) rfl (by omega) (fun v9468 hv9468 => ?_)
        refine q_putI (Sh.int hI9387.1 kx_231 rfl) rfl ?_
        have hI9469 := HI.wI0 hI9387 kx_231 rfl (p := 231) (b := 6) (v := v9468) rfl
        have hF9470 := Fr.wI (p := 231) (b := 6) (v := v9468) hF9388 rfl
        refine Ar.fall 214 rfl ?_
        refine At.enter rfl ?_
        refine q_iinc (w_p1 (by decide) (Or.inr rfl) (w_p1 (by decide) (Or.inr rfl) e9403)) (x9384.toInt + 6) rfl (by omega) (fun v9471 hv9471 => ?_)
        refine r_goto ?_
        exact ih9391 (405 - v9471.toInt) _ _ ⟨x9383, v9471, v9468, by first | rfl | omega, hI9469, hF9470, (gI_sI_eq hI9387.1 kx_231 rfl _), ((gI_sI_ne (by decide)).trans e9393), ((eA_c gA_sI).trans e9394), ((eA_c gA_sI).trans e9395), ((eA_c gA_sI).trans e9396), ((eA_c gA_sI).trans e9397), ((eA_c gA_sI).trans e9398), ((eA_c gA_sI).trans e9399), (w_p1 (by decide) (Or.inr rfl) (w_p1 (by decide) (Or.inr rfl) (w_p1 (by decide) (Or.inr rfl) e9400))), (w_p1 (by decide) (Or.inr rfl) (w_p1 (by decide) (Or.inr rfl) (w_p1 (by decide) (Or.inr rfl) e9401))), (w_p1 (by decide) (Or.inr rfl) (w_p1 (by decide) (Or.inr rfl) (w_p1 (by decide) (Or.inr rfl) e9402))), (w_e1 _ _ _), by omega, by omega, by omega, by omega, (by intro i i0 i1; refine (eA_ti ((gA_sI))).trans ?_; (first | (refine ((q9408 (i) (by first | exact i0 | omega) (by first | exact i1 | omega))).trans ?_; (first | with_reducible rfl | omega | exact eA_ix (by omega) | rfl)) | (refine ((q9409 (i) (by first | exact i0 | omega) (by first | exact i1 | omega))).trans ?_; (first | with_reducible rfl | omega | exact eA_ix (by omega) | rfl)) | (refine ((q9415 (i) (by first | exact i0 | omega) (by first | exact i1 | omega))).trans ?_; (first | with_reducible rfl | omega | exact eA_ix (by omega) | rfl)))), (by intro i i0 i1; refine (eA_ti ((gA_sI))).trans ?_; (first | (refine ((q9409 (i) (by first | exact i0 | omega) (by first | exact i1 | omega))).trans ?_; (first | with_reducible rfl | omega | exact eA_ix (by omega) | rfl)) | (refine ((q9408 (i) (by first | exact i0 | omega) (by first | exact i1 | omega))).trans ?_; (first | with_reducible rfl | omega | exact eA_ix (by omega) | rfl)) | (refine ((q9415 (i) (by first | exact i0 | omega) (by first | exact i1 | omega))).trans ?_; (first | with_reducible rfl | omega | exact eA_ix (by omega) | rfl)))), by omega, by omega, (RLI.n (by omega) (by omega) q9412 (fun h => by have h2 : x9384.toInt + 6 ≤ (gI g0 231 8).toInt ∧ (eA g9386 233 1).toInt < 8 ∧ (1 ≤ (eA g0 236 x9384.toInt).toInt ∧ (eA g0 236 x9384.toInt).toInt ≤ 9) ∧ (0 ≤ (eA g0 236 (x9384.toInt + 3)).toInt ∧ (eA g0 236 (x9384.toInt + 3)).toInt ≤ 99) ∧ (0 ≤ (eA g0 236 (x9384.toInt + 4)).toInt ∧ (eA g0 236 (x9384.toInt + 4)).toInt ≤ 9) ∧ (0 ≤ (eA g0 236 (x9384.toInt + 5)).toInt ∧ (eA g0 236 (x9384.toInt + 5)).toInt ≤ 9999) ∧ (0 ≤ (eA g0 236 (x9384.toInt + 1)).toInt ∧ (eA g0 236 (x9384.toInt + 1)).toInt < (eA g0 233 0).toInt) ∧ (0 ≤ (eA g0 236 (x9384.toInt + 2)).toInt ∧ (eA g0 236 (x9384.toInt + 2)).toInt < (eA g0 233 0).toInt) := h; omega) (eA_ti ((gA_sI))) (by omega)), (by have y_ := HI.eqA hI9469 (p := 233) (j := 1) (eA_c (j := 1) ((gA_sI))); omega), by omega, (by intro i i0 i1; refine (eA_ti ((gA_sI))).trans ?_; refine (q9415 i i0 i1).trans ?_; exact RFI.n (by omega) (by omega) q9412 (by omega) rfl (fun k => absurd k.1 (fun h => by have h2 : x9384.toInt + 6 ≤ (gI g0 231 8).toInt ∧ (eA g9386 233 1).toInt < 8 ∧ (1 ≤ (eA g0 236 x9384.toInt).toInt ∧ (eA g0 236 x9384.toInt).toInt ≤ 9) ∧ (0 ≤ (eA g0 236 (x9384.toInt + 3)).toInt ∧ (eA g0 236 (x9384.toInt + 3)).toInt ≤ 99) ∧ (0 ≤ (eA g0 236 (x9384.toInt + 4)).toInt ∧ (eA g0 236 (x9384.toInt + 4)).toInt ≤ 9) ∧ (0 ≤ (eA g0 236 (x9384.toInt + 5)).toInt ∧ (eA g0 236 (x9384.toInt + 5)).toInt ≤ 9999) ∧ (0 ≤ (eA g0 236 (x9384.toInt + 1)).toInt ∧ (eA g0 236 (x9384.toInt + 1)).toInt < (eA g0 233 0).toInt) ∧ (0 ≤ (eA g0 236 (x9384.toInt + 2)).toInt ∧ (eA g0 236 (x9384.toInt + 2)).toInt < (eA g0 233 0).toInt) := h; omega)))⟩ ⟨by omega, by omega⟩
      · have c9466_ : v9465.toInt < v6377.toInt := en_i_ge_f c9466
        refine At.enter rfl ?_
        refine r_aload_n e9400 ?_
        refine q_getR (Sh.ref hI9387.1 kx_231 rfl) ?_
        refine r_iconst 1 rfl ?_
        obtain ⟨v9472, hv9472⟩ : ∃ v, eA g9386 233 1 = v := ⟨_, rfl⟩
        have tv9472 := congrArg Int32.toInt hv9472
        have wv9472 := HI.t1 hI9387
        rw [hv9472] at wv9472
        refine q_iald (Sh.arr hI9387.1 ka_233) 1 rfl (by decide) v9472 hv9472 ?_
        refine r_bipush 8 rfl ?_
        refine r_ics 58 rfl (fun c9473 => ?_) (fun c9473 => ?_)
        · have c9473_ : v9472.toInt ≥ 8 := en_i_ge_t c9473
          refine At.enter rfl ?_
          refine r_iconst 0 rfl ?_
          refine Ar.fall 63 rfl ?_
          refine At.enter rfl ?_
          refine r_istore _ rfl ?_
          refine r_iload (w_e1 _ _ _) ?_
          refine r_ift (by decide) ?_
          refine At.enter rfl ?_
          refine r_iconst 0 rfl ?_
          refine Ar.fall 141 rfl ?_
          refine At.enter rfl ?_
          refine r_istore _ rfl ?_
          refine r_iload (w_e1 _ _ _) ?_
          refine r_ift (by decide) ?_
          refine At.enter rfl ?_
          refine r_aload_n (w_p1 (by decide) (Or.inr rfl) (w_p1 (by decide) (Or.inr rfl) e9400)) ?_
          refine r_dup rfl ?_
          refine q_getI (Sh.int hI9387.1 kx_231 rfl) x9385 e9392 ?_
          refine r_iconst 1 rfl ?_
          refine q_iadd (x9385.toInt + 1) rfl (by omega) (fun v9474 hv9474 => ?_)
          refine q_putI (Sh.int hI9387.1 kx_231 rfl) rfl ?_
          have hI9475 := HI.wI0 hI9387 kx_231 rfl (p := 231) (b := 6) (v := v9474) rfl
          have hF9476 := Fr.wI (p := 231) (b := 6) (v := v9474) hF9388 rfl
          refine Ar.fall 214 rfl ?_
          refine At.enter rfl ?_
          refine q_iinc (w_p1 (by decide) (Or.inr rfl) (w_p1 (by decide) (Or.inr rfl) e9403)) (x9384.toInt + 6) rfl (by omega) (fun v9477 hv9477 => ?_)
          refine r_goto ?_
          exact ih9391 (405 - v9477.toInt) _ _ ⟨x9383, v9477, v9474, by first | rfl | omega, hI9475, hF9476, (gI_sI_eq hI9387.1 kx_231 rfl _), ((gI_sI_ne (by decide)).trans e9393), ((eA_c gA_sI).trans e9394), ((eA_c gA_sI).trans e9395), ((eA_c gA_sI).trans e9396), ((eA_c gA_sI).trans e9397), ((eA_c gA_sI).trans e9398), ((eA_c gA_sI).trans e9399), (w_p1 (by decide) (Or.inr rfl) (w_p1 (by decide) (Or.inr rfl) (w_p1 (by decide) (Or.inr rfl) e9400))), (w_p1 (by decide) (Or.inr rfl) (w_p1 (by decide) (Or.inr rfl) (w_p1 (by decide) (Or.inr rfl) e9401))), (w_p1 (by decide) (Or.inr rfl) (w_p1 (by decide) (Or.inr rfl) (w_p1 (by decide) (Or.inr rfl) e9402))), (w_e1 _ _ _), by omega, by omega, by omega, by omega, (by intro i i0 i1; refine (eA_ti ((gA_sI))).trans ?_; (first | (refine ((q9408 (i) (by first | exact i0 | omega) (by first | exact i1 | omega))).trans ?_; (first | with_reducible rfl | omega | exact eA_ix (by omega) | rfl)) | (refine ((q9409 (i) (by first | exact i0 | omega) (by first | exact i1 | omega))).trans ?_; (first | with_reducible rfl | omega | exact eA_ix (by omega) | rfl)) | (refine ((q9415 (i) (by first | exact i0 | omega) (by first | exact i1 | omega))).trans ?_; (first | with_reducible rfl | omega | exact eA_ix (by omega) | rfl)))), (by intro i i0 i1; refine (eA_ti ((gA_sI))).trans ?_; (first | (refine ((q9409 (i) (by first | exact i0 | omega) (by first | exact i1 | omega))).trans ?_; (first | with_reducible rfl | omega | exact eA_ix (by omega) | rfl)) | (refine ((q9408 (i) (by first | exact i0 | omega) (by first | exact i1 | omega))).trans ?_; (first | with_reducible rfl | omega | exact eA_ix (by omega) | rfl)) | (refine ((q9415 (i) (by first | exact i0 | omega) (by first | exact i1 | omega))).trans ?_; (first | with_reducible rfl | omega | exact eA_ix (by omega) | rfl)))), by omega, by omega, (RLI.n (by omega) (by omega) q9412 (fun h => by have h2 : x9384.toInt + 6 ≤ (gI g0 231 8).toInt ∧ (eA g9386 233 1).toInt < 8 ∧ (1 ≤ (eA g0 236 x9384.toInt).toInt ∧ (eA g0 236 x9384.toInt).toInt ≤ 9) ∧ (0 ≤ (eA g0 236 (x9384.toInt + 3)).toInt ∧ (eA g0 236 (x9384.toInt + 3)).toInt ≤ 99) ∧ (0 ≤ (eA g0 236 (x9384.toInt + 4)).toInt ∧ (eA g0 236 (x9384.toInt + 4)).toInt ≤ 9) ∧ (0 ≤ (eA g0 236 (x9384.toInt + 5)).toInt ∧ (eA g0 236 (x9384.toInt + 5)).toInt ≤ 9999) ∧ (0 ≤ (eA g0 236 (x9384.toInt + 1)).toInt ∧ (eA g0 236 (x9384.toInt + 1)).toInt < (eA g0 233 0).toInt) ∧ (0 ≤ (eA g0 236 (x9384.toInt + 2)).toInt ∧ (eA g0 236 (x9384.toInt + 2)).toInt < (eA g0 233 0).toInt) := h; omega) (eA_ti ((gA_sI))) (by omega)), (by have y_ := HI.eqA hI9475 (p := 233) (j := 1) (eA_c (j := 1) ((gA_sI))); omega), by omega, (by intro i i0 i1; refine (eA_ti ((gA_sI))).trans ?_; refine (q9415 i i0 i1).trans ?_; exact RFI.n (by omega) (by omega) q9412 (by omega) rfl (fun k => absurd k.1 (fun h => by have h2 : x9384.toInt + 6 ≤ (gI g0 231 8).toInt ∧ (eA g9386 233 1).toInt < 8 ∧ (1 ≤ (eA g0 236 x9384.toInt).toInt ∧ (eA g0 236 x9384.toInt).toInt ≤ 9) ∧ (0 ≤ (eA g0 236 (x9384.toInt + 3)).toInt ∧ (eA g0 236 (x9384.toInt + 3)).toInt ≤ 99) ∧ (0 ≤ (eA g0 236 (x9384.toInt + 4)).toInt ∧ (eA g0 236 (x9384.toInt + 4)).toInt ≤ 9) ∧ (0 ≤ (eA g0 236 (x9384.toInt + 5)).toInt ∧ (eA g0 236 (x9384.toInt + 5)).toInt ≤ 9999) ∧ (0 ≤ (eA g0 236 (x9384.toInt + 1)).toInt ∧ (eA g0 236 (x9384.toInt + 1)).toInt < (eA g0 233 0).toInt) ∧ (0 ≤ (eA g0 236 (x9384.toInt + 2)).toInt ∧ (eA g0 236 (x9384.toInt + 2)).toInt < (eA g0 233 0).toInt) := h; omega)))⟩ ⟨by omega, by omega⟩
        · have c9473_ : v9472.toInt < 8 := en_i_ge_f c9473
          refine At.enter rfl ?_
          refine r_iconst 1 rfl ?_
          refine r_goto ?_
          refine At.enter rfl ?_
          refine r_istore _ rfl ?_
          refine r_iload (w_e1 _ _ _) ?_
          refine r_iff 70 rfl (by decide) ?_
          refine At.enter rfl ?_
          refine r_aload_n (w_p1 (by decide) (Or.inr rfl) e9400) ?_
          refine q_getR (Sh.ref hI9387.1 kx_231 rfl) ?_
          refine r_iload_n (w_p1 (by decide) (Or.inr rfl) e9403) ?_
          obtain ⟨v9478, hv9478⟩ : ∃ v, eA g0 236 x9384.toInt = v := ⟨_, rfl⟩
          refine q_iald (Sh.arr hI9387.1 ka_236) x9384.toInt rfl (by omega) v9478 ((eA_c (hF9388.2.1 236 (by decide))).trans hv9478) ?_
          refine r_aload_n (w_p1 (by decide) (Or.inr rfl) e9400) ?_
          refine q_getR (Sh.ref hI9387.1 kx_231 rfl) ?_
          refine r_iload_n (w_p1 (by decide) (Or.inr rfl) e9403) ?_
          refine r_iconst 3 rfl ?_
          refine q_iadd (x9384.toInt + 3) rfl (by omega) (fun v9479 hv9479 => ?_)
          obtain ⟨v9480, hv9480⟩ : ∃ v, eA g0 236 (x9384.toInt + 3) = v := ⟨_, rfl⟩
          refine q_iald (Sh.arr hI9387.1 ka_236) (x9384.toInt + 3) (by omega) (by omega) v9480 ((eA_c (hF9388.2.1 236 (by decide))).trans hv9480) ?_
          refine r_aload_n (w_p1 (by decide) (Or.inr rfl) e9400) ?_
          refine q_getR (Sh.ref hI9387.1 kx_231 rfl) ?_
          refine r_iload_n (w_p1 (by decide) (Or.inr rfl) e9403) ?_
          refine r_iconst 4 rfl ?_
          refine q_iadd (x9384.toInt + 4) rfl (by omega) (fun v9481 hv9481 => ?_)
          obtain ⟨v9482, hv9482⟩ : ∃ v, eA g0 236 (x9384.toInt + 4) = v := ⟨_, rfl⟩
          refine q_iald (Sh.arr hI9387.1 ka_236) (x9384.toInt + 4) (by omega) (by omega) v9482 ((eA_c (hF9388.2.1 236 (by decide))).trans hv9482) ?_
          refine r_aload_n (w_p1 (by decide) (Or.inr rfl) e9400) ?_
          refine q_getR (Sh.ref hI9387.1 kx_231 rfl) ?_
          refine r_iload_n (w_p1 (by decide) (Or.inr rfl) e9403) ?_
          refine r_iconst 5 rfl ?_
          refine q_iadd (x9384.toInt + 5) rfl (by omega) (fun v9483 hv9483 => ?_)
          obtain ⟨v9484, hv9484⟩ : ∃ v, eA g0 236 (x9384.toInt + 5) = v := ⟨_, rfl⟩
          refine q_iald (Sh.arr hI9387.1 ka_236) (x9384.toInt + 5) (by omega) (by omega) v9484 ((eA_c (hF9388.2.1 236 (by decide))).trans hv9484) ?_
          refine q_inlS 103 rfl [.int v9478, .int v9480, .int v9482, .int v9484] [] (Nat.le_of_ble_eq_true rfl) rfl ?_
          refine Ev.mk rfl rfl ⟨Nat.le_of_ble_eq_true rfl, Or.inl rfl⟩ ?_
          show At _ none _ _ (0, [(0, .int v9478), (1, .int v9480), (2, .int v9482), (3, .int v9484)], [], (_, _)) _
          refine At.enter rfl ?_
          refine r_iload_n rfl ?_
          refine q_i2l (fun v9485 hv9485 => ?_)
          refine r_lconst 1 rfl ?_
          refine r_ldc2 9 rfl ?_
          refine q_inlS 9 rfl [.long v9485, .long 1, .long 9] [] (Nat.le_of_ble_eq_true rfl) rfl ?_
          refine Ev.mk rfl rfl ⟨Nat.le_of_ble_eq_true rfl, Or.inl rfl⟩ ?_
          show At _ none _ _ (0, [(0, .long v9485), (2, .long 1), (4, .long 9)], [], (_, _)) _
          refine At.enter rfl ?_
          refine r_lload_n rfl ?_
          refine r_lload_n rfl ?_
          refine r_lcmp _ rfl ?_
          refine r_ifs 6 rfl (fun c9486 => ?_) (fun c9486 => ?_)
          · have c9486_ : v9485.toInt < 1 := en_j_lt_t c9486
            refine At.enter rfl ?_
            refine r_iconst 0 rfl ?_
            refine Ar.fall 18 rfl ?_
            refine At.enter rfl ?_
            refine q_iretz (by decide) ?_
            refine At.enter rfl ?_
            refine r_ift (by decide) ?_
            refine At.enter rfl ?_
            refine r_iconst 0 rfl ?_
            refine Ar.fall 53 rfl ?_
            refine At.enter rfl ?_
            refine q_iretz (by decide) ?_
            refine At.enter rfl ?_
            refine r_ift (by decide) ?_
            refine At.enter rfl ?_
            refine r_iconst 0 rfl ?_
            refine Ar.fall 141 rfl ?_
            refine At.enter rfl ?_
            refine r_istore _ rfl ?_
            refine r_iload (w_e1 _ _ _) ?_
            refine r_ift (by decide) ?_
            refine At.enter rfl ?_
            refine r_aload_n (w_p1 (by decide) (Or.inr rfl) (w_p1 (by decide) (Or.inr rfl) e9400)) ?_
            refine r_dup rfl ?_
            refine q_getI (Sh.int hI9387.1 kx_231 rfl) x9385 e9392 ?_
            refine r_iconst 1 rfl ?_
            refine q_iadd (x9385.toInt + 1) rfl (by omega) (fun v9487 hv9487 => ?_)
            refine q_putI (Sh.int hI9387.1 kx_231 rfl) rfl ?_
            have hI9488 := HI.wI0 hI9387 kx_231 rfl (p := 231) (b := 6) (v := v9487) rfl
            have hF9489 := Fr.wI (p := 231) (b := 6) (v := v9487) hF9388 rfl
            refine Ar.fall 214 rfl ?_
            refine At.enter rfl ?_
            refine q_iinc (w_p1 (by decide) (Or.inr rfl) (w_p1 (by decide) (Or.inr rfl) e9403)) (x9384.toInt + 6) rfl (by omega) (fun v9490 hv9490 => ?_)
            refine r_goto ?_
            exact ih9391 (405 - v9490.toInt) _ _ ⟨x9383, v9490, v9487, by first | rfl | omega, hI9488, hF9489, (gI_sI_eq hI9387.1 kx_231 rfl _), ((gI_sI_ne (by decide)).trans e9393), ((eA_c gA_sI).trans e9394), ((eA_c gA_sI).trans e9395), ((eA_c gA_sI).trans e9396), ((eA_c gA_sI).trans e9397), ((eA_c gA_sI).trans e9398), ((eA_c gA_sI).trans e9399), (w_p1 (by decide) (Or.inr rfl) (w_p1 (by decide) (Or.inr rfl) (w_p1 (by decide) (Or.inr rfl) e9400))), (w_p1 (by decide) (Or.inr rfl) (w_p1 (by decide) (Or.inr rfl) (w_p1 (by decide) (Or.inr rfl) e9401))), (w_p1 (by decide) (Or.inr rfl) (w_p1 (by decide) (Or.inr rfl) (w_p1 (by decide) (Or.inr rfl) e9402))), (w_e1 _ _ _), by omega, by omega, by omega, by omega, (by intro i i0 i1; refine (eA_ti ((gA_sI))).trans ?_; (first | (refine ((q9408 (i) (by first | exact i0 | omega) (by first | exact i1 | omega))).trans ?_; (first | with_reducible rfl | omega | exact eA_ix (by omega) | rfl)) | (refine ((q9409 (i) (by first | exact i0 | omega) (by first | exact i1 | omega))).trans ?_; (first | with_reducible rfl | omega | exact eA_ix (by omega) | rfl)) | (refine ((q9415 (i) (by first | exact i0 | omega) (by first | exact i1 | omega))).trans ?_; (first | with_reducible rfl | omega | exact eA_ix (by omega) | rfl)))), (by intro i i0 i1; refine (eA_ti ((gA_sI))).trans ?_; (first | (refine ((q9409 (i) (by first | exact i0 | omega) (by first | exact i1 | omega))).trans ?_; (first | with_reducible rfl | omega | exact eA_ix (by omega) | rfl)) | (refine ((q9408 (i) (by first | exact i0 | omega) (by first | exact i1 | omega))).trans ?_; (first | with_reducible rfl | omega | exact eA_ix (by omega) | rfl)) | (refine ((q9415 (i) (by first | exact i0 | omega) (by first | exact i1 | omega))).trans ?_; (first | with_reducible rfl | omega | exact eA_ix (by omega) | rfl)))), by omega, by omega, (RLI.n (by omega) (by omega) q9412 (fun h => by have h2 : x9384.toInt + 6 ≤ (gI g0 231 8).toInt ∧ (eA g9386 233 1).toInt < 8 ∧ (1 ≤ (eA g0 236 x9384.toInt).toInt ∧ (eA g0 236 x9384.toInt).toInt ≤ 9) ∧ (0 ≤ (eA g0 236 (x9384.toInt + 3)).toInt ∧ (eA g0 236 (x9384.toInt + 3)).toInt ≤ 99) ∧ (0 ≤ (eA g0 236 (x9384.toInt + 4)).toInt ∧ (eA g0 236 (x9384.toInt + 4)).toInt ≤ 9) ∧ (0 ≤ (eA g0 236 (x9384.toInt + 5)).toInt ∧ (eA g0 236 (x9384.toInt + 5)).toInt ≤ 9999) ∧ (0 ≤ (eA g0 236 (x9384.toInt + 1)).toInt ∧ (eA g0 236 (x9384.toInt + 1)).toInt < (eA g0 233 0).toInt) ∧ (0 ≤ (eA g0 236 (x9384.toInt + 2)).toInt ∧ (eA g0 236 (x9384.toInt + 2)).toInt < (eA g0 233 0).toInt) := h; have y337_ := congrArg Int32.toInt hv9478; have y338_ := congrArg Int32.toInt hv9480; have y339_ := congrArg Int32.toInt hv9482; have y340_ := congrArg Int32.toInt hv9484; omega) (eA_ti ((gA_sI))) (by omega)), (by have y_ := HI.eqA hI9488 (p := 233) (j := 1) (eA_c (j := 1) ((gA_sI))); omega), by omega, (by intro i i0 i1; refine (eA_ti ((gA_sI))).trans ?_; refine (q9415 i i0 i1).trans ?_; exact RFI.n (by omega) (by omega) q9412 (by omega) rfl (fun k => absurd k.1 (fun h => by have h2 : x9384.toInt + 6 ≤ (gI g0 231 8).toInt ∧ (eA g9386 233 1).toInt < 8 ∧ (1 ≤ (eA g0 236 x9384.toInt).toInt ∧ (eA g0 236 x9384.toInt).toInt ≤ 9) ∧ (0 ≤ (eA g0 236 (x9384.toInt + 3)).toInt ∧ (eA g0 236 (x9384.toInt + 3)).toInt ≤ 99) ∧ (0 ≤ (eA g0 236 (x9384.toInt + 4)).toInt ∧ (eA g0 236 (x9384.toInt + 4)).toInt ≤ 9) ∧ (0 ≤ (eA g0 236 (x9384.toInt + 5)).toInt ∧ (eA g0 236 (x9384.toInt + 5)).toInt ≤ 9999) ∧ (0 ≤ (eA g0 236 (x9384.toInt + 1)).toInt ∧ (eA g0 236 (x9384.toInt + 1)).toInt < (eA g0 233 0).toInt) ∧ (0 ≤ (eA g0 236 (x9384.toInt + 2)).toInt ∧ (eA g0 236 (x9384.toInt + 2)).toInt < (eA g0 233 0).toInt) := h; have y341_ := congrArg Int32.toInt hv9478; have y342_ := congrArg Int32.toInt hv9480; have y343_ := congrArg Int32.toInt hv9482; have y344_ := congrArg Int32.toInt hv9484; omega)))⟩ ⟨by omega, by omega⟩
          · have c9486_ : v9485.toInt ≥ 1 := en_j_lt_f c9486
            refine At.enter rfl ?_
            refine r_lload_n rfl ?_
            refine r_lload rfl ?_
            refine r_lcmp _ rfl ?_
            refine r_ifs 13 rfl (fun c9491 => ?_) (fun c9491 => ?_)
            · have c9491_ : v9485.toInt > 9 := en_j_gt_t c9491
              refine At.enter rfl ?_
              refine r_iconst 0 rfl ?_
              refine Ar.fall 18 rfl ?_
              refine At.enter rfl ?_
              refine q_iretz (by decide) ?_
              refine At.enter rfl ?_
              refine r_ift (by decide) ?_
              refine At.enter rfl ?_
              refine r_iconst 0 rfl ?_
              refine Ar.fall 53 rfl ?_
              refine At.enter rfl ?_
              refine q_iretz (by decide) ?_
              refine At.enter rfl ?_
              refine r_ift (by decide) ?_
              refine At.enter rfl ?_
              refine r_iconst 0 rfl ?_
              refine Ar.fall 141 rfl ?_
              refine At.enter rfl ?_
              refine r_istore _ rfl ?_
              refine r_iload (w_e1 _ _ _) ?_
              refine r_ift (by decide) ?_
              refine At.enter rfl ?_
              refine r_aload_n (w_p1 (by decide) (Or.inr rfl) (w_p1 (by decide) (Or.inr rfl) e9400)) ?_
              refine r_dup rfl ?_
              refine q_getI (Sh.int hI9387.1 kx_231 rfl) x9385 e9392 ?_
              refine r_iconst 1 rfl ?_
              refine q_iadd (x9385.toInt + 1) rfl (by omega) (fun v9492 hv9492 => ?_)
              refine q_putI (Sh.int hI9387.1 kx_231 rfl) rfl ?_
              have hI9493 := HI.wI0 hI9387 kx_231 rfl (p := 231) (b := 6) (v := v9492) rfl
              have hF9494 := Fr.wI (p := 231) (b := 6) (v := v9492) hF9388 rfl
              refine Ar.fall 214 rfl ?_
              refine At.enter rfl ?_
              refine q_iinc (w_p1 (by decide) (Or.inr rfl) (w_p1 (by decide) (Or.inr rfl) e9403)) (x9384.toInt + 6) rfl (by omega) (fun v9495 hv9495 => ?_)
              refine r_goto ?_
              exact ih9391 (405 - v9495.toInt) _ _ ⟨x9383, v9495, v9492, by first | rfl | omega, hI9493, hF9494, (gI_sI_eq hI9387.1 kx_231 rfl _), ((gI_sI_ne (by decide)).trans e9393), ((eA_c gA_sI).trans e9394), ((eA_c gA_sI).trans e9395), ((eA_c gA_sI).trans e9396), ((eA_c gA_sI).trans e9397), ((eA_c gA_sI).trans e9398), ((eA_c gA_sI).trans e9399), (w_p1 (by decide) (Or.inr rfl) (w_p1 (by decide) (Or.inr rfl) (w_p1 (by decide) (Or.inr rfl) e9400))), (w_p1 (by decide) (Or.inr rfl) (w_p1 (by decide) (Or.inr rfl) (w_p1 (by decide) (Or.inr rfl) e9401))), (w_p1 (by decide) (Or.inr rfl) (w_p1 (by decide) (Or.inr rfl) (w_p1 (by decide) (Or.inr rfl) e9402))), (w_e1 _ _ _), by omega, by omega, by omega, by omega, (by intro i i0 i1; refine (eA_ti ((gA_sI))).trans ?_; (first | (refine ((q9408 (i) (by first | exact i0 | omega) (by first | exact i1 | omega))).trans ?_; (first | with_reducible rfl | omega | exact eA_ix (by omega) | rfl)) | (refine ((q9409 (i) (by first | exact i0 | omega) (by first | exact i1 | omega))).trans ?_; (first | with_reducible rfl | omega | exact eA_ix (by omega) | rfl)) | (refine ((q9415 (i) (by first | exact i0 | omega) (by first | exact i1 | omega))).trans ?_; (first | with_reducible rfl | omega | exact eA_ix (by omega) | rfl)))), (by intro i i0 i1; refine (eA_ti ((gA_sI))).trans ?_; (first | (refine ((q9409 (i) (by first | exact i0 | omega) (by first | exact i1 | omega))).trans ?_; (first | with_reducible rfl | omega | exact eA_ix (by omega) | rfl)) | (refine ((q9408 (i) (by first | exact i0 | omega) (by first | exact i1 | omega))).trans ?_; (first | with_reducible rfl | omega | exact eA_ix (by omega) | rfl)) | (refine ((q9415 (i) (by first | exact i0 | omega) (by first | exact i1 | omega))).trans ?_; (first | with_reducible rfl | omega | exact eA_ix (by omega) | rfl)))), by omega, by omega, (RLI.n (by omega) (by omega) q9412 (fun h => by have h2 : x9384.toInt + 6 ≤ (gI g0 231 8).toInt ∧ (eA g9386 233 1).toInt < 8 ∧ (1 ≤ (eA g0 236 x9384.toInt).toInt ∧ (eA g0 236 x9384.toInt).toInt ≤ 9) ∧ (0 ≤ (eA g0 236 (x9384.toInt + 3)).toInt ∧ (eA g0 236 (x9384.toInt + 3)).toInt ≤ 99) ∧ (0 ≤ (eA g0 236 (x9384.toInt + 4)).toInt ∧ (eA g0 236 (x9384.toInt + 4)).toInt ≤ 9) ∧ (0 ≤ (eA g0 236 (x9384.toInt + 5)).toInt ∧ (eA g0 236 (x9384.toInt + 5)).toInt ≤ 9999) ∧ (0 ≤ (eA g0 236 (x9384.toInt + 1)).toInt ∧ (eA g0 236 (x9384.toInt + 1)).toInt < (eA g0 233 0).toInt) ∧ (0 ≤ (eA g0 236 (x9384.toInt + 2)).toInt ∧ (eA g0 236 (x9384.toInt + 2)).toInt < (eA g0 233 0).toInt) := h; have y345_ := congrArg Int32.toInt hv9478; have y346_ := congrArg Int32.toInt hv9480; have y347_ := congrArg Int32.toInt hv9482; have y348_ := congrArg Int32.toInt hv9484; omega) (eA_ti ((gA_sI))) (by omega)), (by have y_ := HI.eqA hI9493 (p := 233) (j := 1) (eA_c (j := 1) ((gA_sI))); omega), by omega, (by intro i i0 i1; refine (eA_ti ((gA_sI))).trans ?_; refine (q9415 i i0 i1).trans ?_; exact RFI.n (by omega) (by omega) q9412 (by omega) rfl (fun k => absurd k.1 (fun h => by have h2 : x9384.toInt + 6 ≤ (gI g0 231 8).toInt ∧ (eA g9386 233 1).toInt < 8 ∧ (1 ≤ (eA g0 236 x9384.toInt).toInt ∧ (eA g0 236 x9384.toInt).toInt ≤ 9) ∧ (0 ≤ (eA g0 236 (x9384.toInt + 3)).toInt ∧ (eA g0 236 (x9384.toInt + 3)).toInt ≤ 99) ∧ (0 ≤ (eA g0 236 (x9384.toInt + 4)).toInt ∧ (eA g0 236 (x9384.toInt + 4)).toInt ≤ 9) ∧ (0 ≤ (eA g0 236 (x9384.toInt + 5)).toInt ∧ (eA g0 236 (x9384.toInt + 5)).toInt ≤ 9999) ∧ (0 ≤ (eA g0 236 (x9384.toInt + 1)).toInt ∧ (eA g0 236 (x9384.toInt + 1)).toInt < (eA g0 233 0).toInt) ∧ (0 ≤ (eA g0 236 (x9384.toInt + 2)).toInt ∧ (eA g0 236 (x9384.toInt + 2)).toInt < (eA g0 233 0).toInt) := h; have y349_ := congrArg Int32.toInt hv9478; have y350_ := congrArg Int32.toInt hv9480; have y351_ := congrArg Int32.toInt hv9482; have y352_ := congrArg Int32.toInt hv9484; omega)))⟩ ⟨by omega, by omega⟩
            · have c9491_ : v9485.toInt ≤ 9 := en_j_gt_f c9491
              refine At.enter rfl ?_
              refine r_iconst 1 rfl ?_
              refine r_goto ?_
              refine At.enter rfl ?_
              refine q_iretz (by decide) ?_
              refine At.enter rfl ?_
              refine r_iff 12 rfl (by decide) ?_
              refine At.enter rfl ?_
              refine r_iload_n rfl ?_
              refine q_i2l (fun v9496 hv9496 => ?_)
              refine r_lconst 0 rfl ?_
              refine r_ldc2 99 rfl ?_
              refine q_inlS 21 rfl [.long v9496, .long 0, .long 99] [] (Nat.le_of_ble_eq_true rfl) rfl ?_
              refine Ev.mk rfl rfl ⟨Nat.le_of_ble_eq_true rfl, Or.inl rfl⟩ ?_
              show At _ none _ _ (0, [(0, .long v9496), (2, .long 0), (4, .long 99)], [], (_, _)) _
              refine At.enter rfl ?_
              refine r_lload_n rfl ?_
              refine r_lload_n rfl ?_
              refine r_lcmp _ rfl ?_
              refine r_ifs 6 rfl (fun c9497 => ?_) (fun c9497 => ?_)
              · have c9497_ : v9496.toInt < 0 := en_j_lt_t c9497
                refine At.enter rfl ?_
                refine r_iconst 0 rfl ?_
                refine Ar.fall 18 rfl ?_
                refine At.enter rfl ?_
                refine q_iretz (by decide) ?_
                refine At.enter rfl ?_
                refine r_ift (by decide) ?_
                refine At.enter rfl ?_
                refine r_iconst 0 rfl ?_
                refine Ar.fall 53 rfl ?_
                refine At.enter rfl ?_
                refine q_iretz (by decide) ?_
                refine At.enter rfl ?_
                refine r_ift (by decide) ?_
                refine At.enter rfl ?_
                refine r_iconst 0 rfl ?_
                refine Ar.fall 141 rfl ?_
                refine At.enter rfl ?_
                refine r_istore _ rfl ?_
                refine r_iload (w_e1 _ _ _) ?_
                refine r_ift (by decide) ?_
                refine At.enter rfl ?_
                refine r_aload_n (w_p1 (by decide) (Or.inr rfl) (w_p1 (by decide) (Or.inr rfl) e9400)) ?_
                refine r_dup rfl ?_
                refine q_getI (Sh.int hI9387.1 kx_231 rfl) x9385 e9392 ?_
                refine r_iconst 1 rfl ?_
                refine q_iadd (x9385.toInt + 1) rfl (by omega) (fun v9498 hv9498 => ?_)
                refine q_putI (Sh.int hI9387.1 kx_231 rfl) rfl ?_
                have hI9499 := HI.wI0 hI9387 kx_231 rfl (p := 231) (b := 6) (v := v9498) rfl
                have hF9500 := Fr.wI (p := 231) (b := 6) (v := v9498) hF9388 rfl
                refine Ar.fall 214 rfl ?_
                refine At.enter rfl ?_
                refine q_iinc (w_p1 (by decide) (Or.inr rfl) (w_p1 (by decide) (Or.inr rfl) e9403)) (x9384.toInt + 6) rfl (by omega) (fun v9501 hv9501 => ?_)
                refine r_goto ?_
                exact ih9391 (405 - v9501.toInt) _ _ ⟨x9383, v9501, v9498, by first | rfl | omega, hI9499, hF9500, (gI_sI_eq hI9387.1 kx_231 rfl _), ((gI_sI_ne (by decide)).trans e9393), ((eA_c gA_sI).trans e9394), ((eA_c gA_sI).trans e9395), ((eA_c gA_sI).trans e9396), ((eA_c gA_sI).trans e9397), ((eA_c gA_sI).trans e9398), ((eA_c gA_sI).trans e9399), (w_p1 (by decide) (Or.inr rfl) (w_p1 (by decide) (Or.inr rfl) (w_p1 (by decide) (Or.inr rfl) e9400))), (w_p1 (by decide) (Or.inr rfl) (w_p1 (by decide) (Or.inr rfl) (w_p1 (by decide) (Or.inr rfl) e9401))), (w_p1 (by decide) (Or.inr rfl) (w_p1 (by decide) (Or.inr rfl) (w_p1 (by decide) (Or.inr rfl) e9402))), (w_e1 _ _ _), by omega, by omega, by omega, by omega, (by intro i i0 i1; refine (eA_ti ((gA_sI))).trans ?_; (first | (refine ((q9408 (i) (by first | exact i0 | omega) (by first | exact i1 | omega))).trans ?_; (first | with_reducible rfl | omega | exact eA_ix (by omega) | rfl)) | (refine ((q9409 (i) (by first | exact i0 | omega) (by first | exact i1 | omega))).trans ?_; (first | with_reducible rfl | omega | exact eA_ix (by omega) | rfl)) | (refine ((q9415 (i) (by first | exact i0 | omega) (by first | exact i1 | omega))).trans ?_; (first | with_reducible rfl | omega | exact eA_ix (by omega) | rfl)))), (by intro i i0 i1; refine (eA_ti ((gA_sI))).trans ?_; (first | (refine ((q9409 (i) (by first | exact i0 | omega) (by first | exact i1 | omega))).trans ?_; (first | with_reducible rfl | omega | exact eA_ix (by omega) | rfl)) | (refine ((q9408 (i) (by first | exact i0 | omega) (by first | exact i1 | omega))).trans ?_; (first | with_reducible rfl | omega | exact eA_ix (by omega) | rfl)) | (refine ((q9415 (i) (by first | exact i0 | omega) (by first | exact i1 | omega))).trans ?_; (first | with_reducible rfl | omega | exact eA_ix (by omega) | rfl)))), by omega, by omega, (RLI.n (by omega) (by omega) q9412 (fun h => by have h2 : x9384.toInt + 6 ≤ (gI g0 231 8).toInt ∧ (eA g9386 233 1).toInt < 8 ∧ (1 ≤ (eA g0 236 x9384.toInt).toInt ∧ (eA g0 236 x9384.toInt).toInt ≤ 9) ∧ (0 ≤ (eA g0 236 (x9384.toInt + 3)).toInt ∧ (eA g0 236 (x9384.toInt + 3)).toInt ≤ 99) ∧ (0 ≤ (eA g0 236 (x9384.toInt + 4)).toInt ∧ (eA g0 236 (x9384.toInt + 4)).toInt ≤ 9) ∧ (0 ≤ (eA g0 236 (x9384.toInt + 5)).toInt ∧ (eA g0 236 (x9384.toInt + 5)).toInt ≤ 9999) ∧ (0 ≤ (eA g0 236 (x9384.toInt + 1)).toInt ∧ (eA g0 236 (x9384.toInt + 1)).toInt < (eA g0 233 0).toInt) ∧ (0 ≤ (eA g0 236 (x9384.toInt + 2)).toInt ∧ (eA g0 236 (x9384.toInt + 2)).toInt < (eA g0 233 0).toInt) := h; have y353_ := congrArg Int32.toInt hv9478; have y354_ := congrArg Int32.toInt hv9480; have y355_ := congrArg Int32.toInt hv9482; have y356_ := congrArg Int32.toInt hv9484; omega) (eA_ti ((gA_sI))) (by omega)), (by have y_ := HI.eqA hI9499 (p := 233) (j := 1) (eA_c (j := 1) ((gA_sI))); omega), by omega, (by intro i i0 i1; refine (eA_ti ((gA_sI))).trans ?_; refine (q9415 i i0 i1).trans ?_; exact RFI.n (by omega) (by omega) q9412 (by omega) rfl (fun k => absurd k.1 (fun h => by have h2 : x9384.toInt + 6 ≤ (gI g0 231 8).toInt ∧ (eA g9386 233 1).toInt < 8 ∧ (1 ≤ (eA g0 236 x9384.toInt).toInt ∧ (eA g0 236 x9384.toInt).toInt ≤ 9) ∧ (0 ≤ (eA g0 236 (x9384.toInt + 3)).toInt ∧ (eA g0 236 (x9384.toInt + 3)).toInt ≤ 99) ∧ (0 ≤ (eA g0 236 (x9384.toInt + 4)).toInt ∧ (eA g0 236 (x9384.toInt + 4)).toInt ≤ 9) ∧ (0 ≤ (eA g0 236 (x9384.toInt + 5)).toInt ∧ (eA g0 236 (x9384.toInt + 5)).toInt ≤ 9999) ∧ (0 ≤ (eA g0 236 (x9384.toInt + 1)).toInt ∧ (eA g0 236 (x9384.toInt + 1)).toInt < (eA g0 233 0).toInt) ∧ (0 ≤ (eA g0 236 (x9384.toInt + 2)).toInt ∧ (eA g0 236 (x9384.toInt + 2)).toInt < (eA g0 233 0).toInt) := h; have y357_ := congrArg Int32.toInt hv9478; have y358_ := congrArg Int32.toInt hv9480; have y359_ := congrArg Int32.toInt hv9482; have y360_ := congrArg Int32.toInt hv9484; omega)))⟩ ⟨by omega, by omega⟩
              · have c9497_ : v9496.toInt ≥ 0 := en_j_lt_f c9497
                refine At.enter rfl ?_
                refine r_lload_n rfl ?_
                refine r_lload rfl ?_
                refine r_lcmp _ rfl ?_
                refine r_ifs 13 rfl (fun c9502 => ?_) (fun c9502 => ?_)
                · have c9502_ : v9496.toInt > 99 := en_j_gt_t c9502
                  refine At.enter rfl ?_
                  refine r_iconst 0 rfl ?_
                  refine Ar.fall 18 rfl ?_
                  refine At.enter rfl ?_
                  refine q_iretz (by decide) ?_
                  refine At.enter rfl ?_
                  refine r_ift (by decide) ?_
                  refine At.enter rfl ?_
                  refine r_iconst 0 rfl ?_
                  refine Ar.fall 53 rfl ?_
                  refine At.enter rfl ?_
                  refine q_iretz (by decide) ?_
                  refine At.enter rfl ?_
                  refine r_ift (by decide) ?_
                  refine At.enter rfl ?_
                  refine r_iconst 0 rfl ?_
                  refine Ar.fall 141 rfl ?_
                  refine At.enter rfl ?_
                  refine r_istore _ rfl ?_
                  refine r_iload (w_e1 _ _ _) ?_
                  refine r_ift (by decide) ?_
                  refine At.enter rfl ?_
                  refine r_aload_n (w_p1 (by decide) (Or.inr rfl) (w_p1 (by decide) (Or.inr rfl) e9400)) ?_
                  refine r_dup rfl ?_
                  refine q_getI (Sh.int hI9387.1 kx_231 rfl) x9385 e9392 ?_
                  refine r_iconst 1 rfl ?_
                  refine q_iadd (x9385.toInt + 1) rfl (by omega) (fun v9503 hv9503 => ?_)
                  refine q_putI (Sh.int hI9387.1 kx_231 rfl) rfl ?_
                  have hI9504 := HI.wI0 hI9387 kx_231 rfl (p := 231) (b := 6) (v := v9503) rfl
                  have hF9505 := Fr.wI (p := 231) (b := 6) (v := v9503) hF9388 rfl
                  refine Ar.fall 214 rfl ?_
                  refine At.enter rfl ?_
                  refine q_iinc (w_p1 (by decide) (Or.inr rfl) (w_p1 (by decide) (Or.inr rfl) e9403)) (x9384.toInt + 6) rfl (by omega) (fun v9506 hv9506 => ?_)
                  refine r_goto ?_
                  exact ih9391 (405 - v9506.toInt) _ _ ⟨x9383, v9506, v9503, by first | rfl | omega, hI9504, hF9505, (gI_sI_eq hI9387.1 kx_231 rfl _), ((gI_sI_ne (by decide)).trans e9393), ((eA_c gA_sI).trans e9394), ((eA_c gA_sI).trans e9395), ((eA_c gA_sI).trans e9396), ((eA_c gA_sI).trans e9397), ((eA_c gA_sI).trans e9398), ((eA_c gA_sI).trans e9399), (w_p1 (by decide) (Or.inr rfl) (w_p1 (by decide) (Or.inr rfl) (w_p1 (by decide) (Or.inr rfl) e9400))), (w_p1 (by decide) (Or.inr rfl) (w_p1 (by decide) (Or.inr rfl) (w_p1 (by decide) (Or.inr rfl) e9401))), (w_p1 (by decide) (Or.inr rfl) (w_p1 (by decide) (Or.inr rfl) (w_p1 (by decide) (Or.inr rfl) e9402))), (w_e1 _ _ _), by omega, by omega, by omega, by omega, (by intro i i0 i1; refine (eA_ti ((gA_sI))).trans ?_; (first | (refine ((q9408 (i) (by first | exact i0 | omega) (by first | exact i1 | omega))).trans ?_; (first | with_reducible rfl | omega | exact eA_ix (by omega) | rfl)) | (refine ((q9409 (i) (by first | exact i0 | omega) (by first | exact i1 | omega))).trans ?_; (first | with_reducible rfl | omega | exact eA_ix (by omega) | rfl)) | (refine ((q9415 (i) (by first | exact i0 | omega) (by first | exact i1 | omega))).trans ?_; (first | with_reducible rfl | omega | exact eA_ix (by omega) | rfl)))), (by intro i i0 i1; refine (eA_ti ((gA_sI))).trans ?_; (first | (refine ((q9409 (i) (by first | exact i0 | omega) (by first | exact i1 | omega))).trans ?_; (first | with_reducible rfl | omega | exact eA_ix (by omega) | rfl)) | (refine ((q9408 (i) (by first | exact i0 | omega) (by first | exact i1 | omega))).trans ?_; (first | with_reducible rfl | omega | exact eA_ix (by omega) | rfl)) | (refine ((q9415 (i) (by first | exact i0 | omega) (by first | exact i1 | omega))).trans ?_; (first | with_reducible rfl | omega | exact eA_ix (by omega) | rfl)))), by omega, by omega, (RLI.n (by omega) (by omega) q9412 (fun h => by have h2 : x9384.toInt + 6 ≤ (gI g0 231 8).toInt ∧ (eA g9386 233 1).toInt < 8 ∧ (1 ≤ (eA g0 236 x9384.toInt).toInt ∧ (eA g0 236 x9384.toInt).toInt ≤ 9) ∧ (0 ≤ (eA g0 236 (x9384.toInt + 3)).toInt ∧ (eA g0 236 (x9384.toInt + 3)).toInt ≤ 99) ∧ (0 ≤ (eA g0 236 (x9384.toInt + 4)).toInt ∧ (eA g0 236 (x9384.toInt + 4)).toInt ≤ 9) ∧ (0 ≤ (eA g0 236 (x9384.toInt + 5)).toInt ∧ (eA g0 236 (x9384.toInt + 5)).toInt ≤ 9999) ∧ (0 ≤ (eA g0 236 (x9384.toInt + 1)).toInt ∧ (eA g0 236 (x9384.toInt + 1)).toInt < (eA g0 233 0).toInt) ∧ (0 ≤ (eA g0 236 (x9384.toInt + 2)).toInt ∧ (eA g0 236 (x9384.toInt + 2)).toInt < (eA g0 233 0).toInt) := h; have y361_ := congrArg Int32.toInt hv9478; have y362_ := congrArg Int32.toInt hv9480; have y363_ := congrArg Int32.toInt hv9482; have y364_ := congrArg Int32.toInt hv9484; omega) (eA_ti ((gA_sI))) (by omega)), (by have y_ := HI.eqA hI9504 (p := 233) (j := 1) (eA_c (j := 1) ((gA_sI))); omega), by omega, (by intro i i0 i1; refine (eA_ti ((gA_sI))).trans ?_; refine (q9415 i i0 i1).trans ?_; exact RFI.n (by omega) (by omega) q9412 (by omega) rfl (fun k => absurd k.1 (fun h => by have h2 : x9384.toInt + 6 ≤ (gI g0 231 8).toInt ∧ (eA g9386 233 1).toInt < 8 ∧ (1 ≤ (eA g0 236 x9384.toInt).toInt ∧ (eA g0 236 x9384.toInt).toInt ≤ 9) ∧ (0 ≤ (eA g0 236 (x9384.toInt + 3)).toInt ∧ (eA g0 236 (x9384.toInt + 3)).toInt ≤ 99) ∧ (0 ≤ (eA g0 236 (x9384.toInt + 4)).toInt ∧ (eA g0 236 (x9384.toInt + 4)).toInt ≤ 9) ∧ (0 ≤ (eA g0 236 (x9384.toInt + 5)).toInt ∧ (eA g0 236 (x9384.toInt + 5)).toInt ≤ 9999) ∧ (0 ≤ (eA g0 236 (x9384.toInt + 1)).toInt ∧ (eA g0 236 (x9384.toInt + 1)).toInt < (eA g0 233 0).toInt) ∧ (0 ≤ (eA g0 236 (x9384.toInt + 2)).toInt ∧ (eA g0 236 (x9384.toInt + 2)).toInt < (eA g0 233 0).toInt) := h; have y365_ := congrArg Int32.toInt hv9478; have y366_ := congrArg Int32.toInt hv9480; have y367_ := congrArg Int32.toInt hv9482; have y368_ := congrArg Int32.toInt hv9484; omega)))⟩ ⟨by omega, by omega⟩
                · have c9502_ : v9496.toInt ≤ 99 := en_j_gt_f c9502
                  refine At.enter rfl ?_
                  refine r_iconst 1 rfl ?_
                  refine r_goto ?_
                  refine At.enter rfl ?_
                  refine q_iretz (by decide) ?_
                  refine At.enter rfl ?_
                  refine r_iff 24 rfl (by decide) ?_
                  refine At.enter rfl ?_
                  refine r_iload_n rfl ?_
                  refine q_i2l (fun v9507 hv9507 => ?_)
                  refine r_lconst 0 rfl ?_
                  refine r_ldc2 9 rfl ?_
                  refine q_inlS 33 rfl [.long v9507, .long 0, .long 9] [] (Nat.le_of_ble_eq_true rfl) rfl ?_
                  refine Ev.mk rfl rfl ⟨Nat.le_of_ble_eq_true rfl, Or.inl rfl⟩ ?_
                  show At _ none _ _ (0, [(0, .long v9507), (2, .long 0), (4, .long 9)], [], (_, _)) _
                  refine At.enter rfl ?_
                  refine r_lload_n rfl ?_
                  refine r_lload_n rfl ?_
                  refine r_lcmp _ rfl ?_
                  refine r_ifs 6 rfl (fun c9508 => ?_) (fun c9508 => ?_)
                  · have c9508_ : v9507.toInt < 0 := en_j_lt_t c9508
                    refine At.enter rfl ?_
                    refine r_iconst 0 rfl ?_
                    refine Ar.fall 18 rfl ?_
                    refine At.enter rfl ?_
                    refine q_iretz (by decide) ?_
                    refine At.enter rfl ?_
                    refine r_ift (by decide) ?_
                    refine At.enter rfl ?_
                    refine r_iconst 0 rfl ?_
                    refine Ar.fall 53 rfl ?_
                    refine At.enter rfl ?_
                    refine q_iretz (by decide) ?_
                    refine At.enter rfl ?_
                    refine r_ift (by decide) ?_
                    refine At.enter rfl ?_
                    refine r_iconst 0 rfl ?_
                    refine Ar.fall 141 rfl ?_
                    refine At.enter rfl ?_
                    refine r_istore _ rfl ?_
                    refine r_iload (w_e1 _ _ _) ?_
                    refine r_ift (by decide) ?_
                    refine At.enter rfl ?_
                    refine r_aload_n (w_p1 (by decide) (Or.inr rfl) (w_p1 (by decide) (Or.inr rfl) e9400)) ?_
                    refine r_dup rfl ?_
                    refine q_getI (Sh.int hI9387.1 kx_231 rfl) x9385 e9392 ?_
                    refine r_iconst 1 rfl ?_
                    refine q_iadd (x9385.toInt + 1) rfl (by omega) (fun v9509 hv9509 => ?_)
                    refine q_putI (Sh.int hI9387.1 kx_231 rfl) rfl ?_
                    have hI9510 := HI.wI0 hI9387 kx_231 rfl (p := 231) (b := 6) (v := v9509) rfl
                    have hF9511 := Fr.wI (p := 231) (b := 6) (v := v9509) hF9388 rfl
                    refine Ar.fall 214 rfl ?_
                    refine At.enter rfl ?_
                    refine q_iinc (w_p1 (by decide) (Or.inr rfl) (w_p1 (by decide) (Or.inr rfl) e9403)) (x9384.toInt + 6) rfl (by omega) (fun v9512 hv9512 => ?_)
                    refine r_goto ?_
                    exact ih9391 (405 - v9512.toInt) _ _ ⟨x9383, v9512, v9509, by first | rfl | omega, hI9510, hF9511, (gI_sI_eq hI9387.1 kx_231 rfl _), ((gI_sI_ne (by decide)).trans e9393), ((eA_c gA_sI).trans e9394), ((eA_c gA_sI).trans e9395), ((eA_c gA_sI).trans e9396), ((eA_c gA_sI).trans e9397), ((eA_c gA_sI).trans e9398), ((eA_c gA_sI).trans e9399), (w_p1 (by decide) (Or.inr rfl) (w_p1 (by decide) (Or.inr rfl) (w_p1 (by decide) (Or.inr rfl) e9400))), (w_p1 (by decide) (Or.inr rfl) (w_p1 (by decide) (Or.inr rfl) (w_p1 (by decide) (Or.inr rfl) e9401))), (w_p1 (by decide) (Or.inr rfl) (w_p1 (by decide) (Or.inr rfl) (w_p1 (by decide) (Or.inr rfl) e9402))), (w_e1 _ _ _), by omega, by omega, by omega, by omega, (by intro i i0 i1; refine (eA_ti ((gA_sI))).trans ?_; (first | (refine ((q9408 (i) (by first | exact i0 | omega) (by first | exact i1 | omega))).trans ?_; (first | with_reducible rfl | omega | exact eA_ix (by omega) | rfl)) | (refine ((q9409 (i) (by first | exact i0 | omega) (by first | exact i1 | omega))).trans ?_; (first | with_reducible rfl | omega | exact eA_ix (by omega) | rfl)) | (refine ((q9415 (i) (by first | exact i0 | omega) (by first | exact i1 | omega))).trans ?_; (first | with_reducible rfl | omega | exact eA_ix (by omega) | rfl)))), (by intro i i0 i1; refine (eA_ti ((gA_sI))).trans ?_; (first | (refine ((q9409 (i) (by first | exact i0 | omega) (by first | exact i1 | omega))).trans ?_; (first | with_reducible rfl | omega | exact eA_ix (by omega) | rfl)) | (refine ((q9408 (i) (by first | exact i0 | omega) (by first | exact i1 | omega))).trans ?_; (first | with_reducible rfl | omega | exact eA_ix (by omega) | rfl)) | (refine ((q9415 (i) (by first | exact i0 | omega) (by first | exact i1 | omega))).trans ?_; (first | with_reducible rfl | omega | exact eA_ix (by omega) | rfl)))), by omega, by omega, (RLI.n (by omega) (by omega) q9412 (fun h => by have h2 : x9384.toInt + 6 ≤ (gI g0 231 8).toInt ∧ (eA g9386 233 1).toInt < 8 ∧ (1 ≤ (eA g0 236 x9384.toInt).toInt ∧ (eA g0 236 x9384.toInt).toInt ≤ 9) ∧ (0 ≤ (eA g0 236 (x9384.toInt + 3)).toInt ∧ (eA g0 236 (x9384.toInt + 3)).toInt ≤ 99) ∧ (0 ≤ (eA g0 236 (x9384.toInt + 4)).toInt ∧ (eA g0 236 (x9384.toInt + 4)).toInt ≤ 9) ∧ (0 ≤ (eA g0 236 (x9384.toInt + 5)).toInt ∧ (eA g0 236 (x9384.toInt + 5)).toInt ≤ 9999) ∧ (0 ≤ (eA g0 236 (x9384.toInt + 1)).toInt ∧ (eA g0 236 (x9384.toInt + 1)).toInt < (eA g0 233 0).toInt) ∧ (0 ≤ (eA g0 236 (x9384.toInt + 2)).toInt ∧ (eA g0 236 (x9384.toInt + 2)).toInt < (eA g0 233 0).toInt) := h; have y369_ := congrArg Int32.toInt hv9478; have y370_ := congrArg Int32.toInt hv9480; have y371_ := congrArg Int32.toInt hv9482; have y372_ := congrArg Int32.toInt hv9484; omega) (eA_ti ((gA_sI))) (by omega)), (by have y_ := HI.eqA hI9510 (p := 233) (j := 1) (eA_c (j := 1) ((gA_sI))); omega), by omega, (by intro i i0 i1; refine (eA_ti ((gA_sI))).trans ?_; refine (q9415 i i0 i1).trans ?_; exact RFI.n (by omega) (by omega) q9412 (by omega) rfl (fun k => absurd k.1 (fun h => by have h2 : x9384.toInt + 6 ≤ (gI g0 231 8).toInt ∧ (eA g9386 233 1).toInt < 8 ∧ (1 ≤ (eA g0 236 x9384.toInt).toInt ∧ (eA g0 236 x9384.toInt).toInt ≤ 9) ∧ (0 ≤ (eA g0 236 (x9384.toInt + 3)).toInt ∧ (eA g0 236 (x9384.toInt + 3)).toInt ≤ 99) ∧ (0 ≤ (eA g0 236 (x9384.toInt + 4)).toInt ∧ (eA g0 236 (x9384.toInt + 4)).toInt ≤ 9) ∧ (0 ≤ (eA g0 236 (x9384.toInt + 5)).toInt ∧ (eA g0 236 (x9384.toInt + 5)).toInt ≤ 9999) ∧ (0 ≤ (eA g0 236 (x9384.toInt + 1)).toInt ∧ (eA g0 236 (x9384.toInt + 1)).toInt < (eA g0 233 0).toInt) ∧ (0 ≤ (eA g0 236 (x9384.toInt + 2)).toInt ∧ (eA g0 236 (x9384.toInt + 2)).toInt < (eA g0 233 0).toInt) := h; have y373_ := congrArg Int32.toInt hv9478; have y374_ := congrArg Int32.toInt hv9480; have y375_ := congrArg Int32.toInt hv9482; have y376_ := congrArg Int32.toInt hv9484; omega)))⟩ ⟨by omega, by omega⟩
                  · have c9508_ : v9507.toInt ≥ 0 := en_j_lt_f c9508
                    refine At.enter rfl ?_
                    refine r_lload_n rfl ?_
                    refine r_lload rfl ?_
                    refine r_lcmp _ rfl ?_
                    refine r_ifs 13 rfl (fun c9513 => ?_) (fun c9513 => ?_)
                    · have c9513_ : v9507.toInt > 9 := en_j_gt_t c9513
                      refine At.enter rfl ?_
                      refine r_iconst 0 rfl ?_
                      refine Ar.fall 18 rfl ?_
                      refine At.enter rfl ?_
                      refine q_iretz (by decide) ?_
                      refine At.enter rfl ?_
                      refine r_ift (by decide) ?_
                      refine At.enter rfl ?_
                      refine r_iconst 0 rfl ?_
                      refine Ar.fall 53 rfl ?_
                      refine At.enter rfl ?_
                      refine q_iretz (by decide) ?_
                      refine At.enter rfl ?_
                      refine r_ift (by decide) ?_
                      refine At.enter rfl ?_
                      refine r_iconst 0 rfl ?_
                      refine Ar.fall 141 rfl ?_
                      refine At.enter rfl ?_
                      refine r_istore _ rfl ?_
                      refine r_iload (w_e1 _ _ _) ?_
                      refine r_ift (by decide) ?_
                      refine At.enter rfl ?_
                      refine r_aload_n (w_p1 (by decide) (Or.inr rfl) (w_p1 (by decide) (Or.inr rfl) e9400)) ?_
                      refine r_dup rfl ?_
                      refine q_getI (Sh.int hI9387.1 kx_231 rfl) x9385 e9392 ?_
                      refine r_iconst 1 rfl ?_
                      refine q_iadd (x9385.toInt + 1) rfl (by omega) (fun v9514 hv9514 => ?_)
                      refine q_putI (Sh.int hI9387.1 kx_231 rfl) rfl ?_
                      have hI9515 := HI.wI0 hI9387 kx_231 rfl (p := 231) (b := 6) (v := v9514) rfl
                      have hF9516 := Fr.wI (p := 231) (b := 6) (v := v9514) hF9388 rfl
                      refine Ar.fall 214 rfl ?_
                      refine At.enter rfl ?_
                      refine q_iinc (w_p1 (by decide) (Or.inr rfl) (w_p1 (by decide) (Or.inr rfl) e9403)) (x9384.toInt + 6) rfl (by omega) (fun v9517 hv9517 => ?_)
                      refine r_goto ?_
                      exact ih9391 (405 - v9517.toInt) _ _ ⟨x9383, v9517, v9514, by first | rfl | omega, hI9515, hF9516, (gI_sI_eq hI9387.1 kx_231 rfl _), ((gI_sI_ne (by decide)).trans e9393), ((eA_c gA_sI).trans e9394), ((eA_c gA_sI).trans e9395), ((eA_c gA_sI).trans e9396), ((eA_c gA_sI).trans e9397), ((eA_c gA_sI).trans e9398), ((eA_c gA_sI).trans e9399), (w_p1 (by decide) (Or.inr rfl) (w_p1 (by decide) (Or.inr rfl) (w_p1 (by decide) (Or.inr rfl) e9400))), (w_p1 (by decide) (Or.inr rfl) (w_p1 (by decide) (Or.inr rfl) (w_p1 (by decide) (Or.inr rfl) e9401))), (w_p1 (by decide) (Or.inr rfl) (w_p1 (by decide) (Or.inr rfl) (w_p1 (by decide) (Or.inr rfl) e9402))), (w_e1 _ _ _), by omega, by omega, by omega, by omega, (by intro i i0 i1; refine (eA_ti ((gA_sI))).trans ?_; (first | (refine ((q9408 (i) (by first | exact i0 | omega) (by first | exact i1 | omega))).trans ?_; (first | with_reducible rfl | omega | exact eA_ix (by omega) | rfl)) | (refine ((q9409 (i) (by first | exact i0 | omega) (by first | exact i1 | omega))).trans ?_; (first | with_reducible rfl | omega | exact eA_ix (by omega) | rfl)) | (refine ((q9415 (i) (by first | exact i0 | omega) (by first | exact i1 | omega))).trans ?_; (first | with_reducible rfl | omega | exact eA_ix (by omega) | rfl)))), (by intro i i0 i1; refine (eA_ti ((gA_sI))).trans ?_; (first | (refine ((q9409 (i) (by first | exact i0 | omega) (by first | exact i1 | omega))).trans ?_; (first | with_reducible rfl | omega | exact eA_ix (by omega) | rfl)) | (refine ((q9408 (i) (by first | exact i0 | omega) (by first | exact i1 | omega))).trans ?_; (first | with_reducible rfl | omega | exact eA_ix (by omega) | rfl)) | (refine ((q9415 (i) (by first | exact i0 | omega) (by first | exact i1 | omega))).trans ?_; (first | with_reducible rfl | omega | exact eA_ix (by omega) | rfl)))), by omega, by omega, (RLI.n (by omega) (by omega) q9412 (fun h => by have h2 : x9384.toInt + 6 ≤ (gI g0 231 8).toInt ∧ (eA g9386 233 1).toInt < 8 ∧ (1 ≤ (eA g0 236 x9384.toInt).toInt ∧ (eA g0 236 x9384.toInt).toInt ≤ 9) ∧ (0 ≤ (eA g0 236 (x9384.toInt + 3)).toInt ∧ (eA g0 236 (x9384.toInt + 3)).toInt ≤ 99) ∧ (0 ≤ (eA g0 236 (x9384.toInt + 4)).toInt ∧ (eA g0 236 (x9384.toInt + 4)).toInt ≤ 9) ∧ (0 ≤ (eA g0 236 (x9384.toInt + 5)).toInt ∧ (eA g0 236 (x9384.toInt + 5)).toInt ≤ 9999) ∧ (0 ≤ (eA g0 236 (x9384.toInt + 1)).toInt ∧ (eA g0 236 (x9384.toInt + 1)).toInt < (eA g0 233 0).toInt) ∧ (0 ≤ (eA g0 236 (x9384.toInt + 2)).toInt ∧ (eA g0 236 (x9384.toInt + 2)).toInt < (eA g0 233 0).toInt) := h; have y377_ := congrArg Int32.toInt hv9478; have y378_ := congrArg Int32.toInt hv9480; have y379_ := congrArg Int32.toInt hv9482; have y380_ := congrArg Int32.toInt hv9484; omega) (eA_ti ((gA_sI))) (by omega)), (by have y_ := HI.eqA hI9515 (p := 233) (j := 1) (eA_c (j := 1) ((gA_sI))); omega), by omega, (by intro i i0 i1; refine (eA_ti ((gA_sI))).trans ?_; refine (q9415 i i0 i1).trans ?_; exact RFI.n (by omega) (by omega) q9412 (by omega) rfl (fun k => absurd k.1 (fun h => by have h2 : x9384.toInt + 6 ≤ (gI g0 231 8).toInt ∧ (eA g9386 233 1).toInt < 8 ∧ (1 ≤ (eA g0 236 x9384.toInt).toInt ∧ (eA g0 236 x9384.toInt).toInt ≤ 9) ∧ (0 ≤ (eA g0 236 (x9384.toInt + 3)).toInt ∧ (eA g0 236 (x9384.toInt + 3)).toInt ≤ 99) ∧ (0 ≤ (eA g0 236 (x9384.toInt + 4)).toInt ∧ (eA g0 236 (x9384.toInt + 4)).toInt ≤ 9) ∧ (0 ≤ (eA g0 236 (x9384.toInt + 5)).toInt ∧ (eA g0 236 (x9384.toInt + 5)).toInt ≤ 9999) ∧ (0 ≤ (eA g0 236 (x9384.toInt + 1)).toInt ∧ (eA g0 236 (x9384.toInt + 1)).toInt < (eA g0 233 0).toInt) ∧ (0 ≤ (eA g0 236 (x9384.toInt + 2)).toInt ∧ (eA g0 236 (x9384.toInt + 2)).toInt < (eA g0 233 0).toInt) := h; have y381_ := congrArg Int32.toInt hv9478; have y382_ := congrArg Int32.toInt hv9480; have y383_ := congrArg Int32.toInt hv9482; have y384_ := congrArg Int32.toInt hv9484; omega)))⟩ ⟨by omega, by omega⟩
                    · have c9513_ : v9507.toInt ≤ 9 := en_j_gt_f c9513
                      refine At.enter rfl ?_
                      refine r_iconst 1 rfl ?_
                      refine r_goto ?_
                      refine At.enter rfl ?_
                      refine q_iretz (by decide) ?_
                      refine At.enter rfl ?_
                      refine r_iff 36 rfl (by decide) ?_
                      refine At.enter rfl ?_
                      refine r_iload_n rfl ?_
                      refine q_i2l (fun v9518 hv9518 => ?_)
                      refine r_lconst 0 rfl ?_
                      refine r_ldc2 9999 rfl ?_
                      refine q_inlS 45 rfl [.long v9518, .long 0, .long 9999] [] (Nat.le_of_ble_eq_true rfl) rfl ?_
                      refine Ev.mk rfl rfl ⟨Nat.le_of_ble_eq_true rfl, Or.inl rfl⟩ ?_
                      show At _ none _ _ (0, [(0, .long v9518), (2, .long 0), (4, .long 9999)], [], (_, _)) _
                      refine At.enter rfl ?_
                      refine r_lload_n rfl ?_
                      refine r_lload_n rfl ?_
                      refine r_lcmp _ rfl ?_
                      refine r_ifs 6 rfl (fun c9519 => ?_) (fun c9519 => ?_)
                      · have c9519_ : v9518.toInt < 0 := en_j_lt_t c9519
                        refine At.enter rfl ?_
                        refine r_iconst 0 rfl ?_
                        refine Ar.fall 18 rfl ?_
                        refine At.enter rfl ?_
                        refine q_iretz (by decide) ?_
                        refine At.enter rfl ?_
                        refine r_ift (by decide) ?_
                        refine At.enter rfl ?_
                        refine r_iconst 0 rfl ?_
                        refine Ar.fall 53 rfl ?_
                        refine At.enter rfl ?_
                        refine q_iretz (by decide) ?_
                        refine At.enter rfl ?_
                        refine r_ift (by decide) ?_
                        refine At.enter rfl ?_
                        refine r_iconst 0 rfl ?_
                        refine Ar.fall 141 rfl ?_
                        refine At.enter rfl ?_
                        refine r_istore _ rfl ?_
                        refine r_iload (w_e1 _ _ _) ?_
                        refine r_ift (by decide) ?_
                        refine At.enter rfl ?_
                        refine r_aload_n (w_p1 (by decide) (Or.inr rfl) (w_p1 (by decide) (Or.inr rfl) e9400)) ?_
                        refine r_dup rfl ?_
                        refine q_getI (Sh.int hI9387.1 kx_231 rfl) x9385 e9392 ?_
                        refine r_iconst 1 rfl ?_
                        refine q_iadd (x9385.toInt + 1) rfl (by omega) (fun v9520 hv9520 => ?_)
                        refine q_putI (Sh.int hI9387.1 kx_231 rfl) rfl ?_
                        have hI9521 := HI.wI0 hI9387 kx_231 rfl (p := 231) (b := 6) (v := v9520) rfl
                        have hF9522 := Fr.wI (p := 231) (b := 6) (v := v9520) hF9388 rfl
                        refine Ar.fall 214 rfl ?_
                        refine At.enter rfl ?_
                        refine q_iinc (w_p1 (by decide) (Or.inr rfl) (w_p1 (by decide) (Or.inr rfl) e9403)) (x9384.toInt + 6) rfl (by omega) (fun v9523 hv9523 => ?_)
                        refine r_goto ?_
                        exact ih9391 (405 - v9523.toInt) _ _ ⟨x9383, v9523, v9520, by first | rfl | omega, hI9521, hF9522, (gI_sI_eq hI9387.1 kx_231 rfl _), ((gI_sI_ne (by decide)).trans e9393), ((eA_c gA_sI).trans e9394), ((eA_c gA_sI).trans e9395), ((eA_c gA_sI).trans e9396), ((eA_c gA_sI).trans e9397), ((eA_c gA_sI).trans e9398), ((eA_c gA_sI).trans e9399), (w_p1 (by decide) (Or.inr rfl) (w_p1 (by decide) (Or.inr rfl) (w_p1 (by decide) (Or.inr rfl) e9400))), (w_p1 (by decide) (Or.inr rfl) (w_p1 (by decide) (Or.inr rfl) (w_p1 (by decide) (Or.inr rfl) e9401))), (w_p1 (by decide) (Or.inr rfl) (w_p1 (by decide) (Or.inr rfl) (w_p1 (by decide) (Or.inr rfl) e9402))), (w_e1 _ _ _), by omega, by omega, by omega, by omega, (by intro i i0 i1; refine (eA_ti ((gA_sI))).trans ?_; (first | (refine ((q9408 (i) (by first | exact i0 | omega) (by first | exact i1 | omega))).trans ?_; (first | with_reducible rfl | omega | exact eA_ix (by omega) | rfl)) | (refine ((q9409 (i) (by first | exact i0 | omega) (by first | exact i1 | omega))).trans ?_; (first | with_reducible rfl | omega | exact eA_ix (by omega) | rfl)) | (refine ((q9415 (i) (by first | exact i0 | omega) (by first | exact i1 | omega))).trans ?_; (first | with_reducible rfl | omega | exact eA_ix (by omega) | rfl)))), (by intro i i0 i1; refine (eA_ti ((gA_sI))).trans ?_; (first | (refine ((q9409 (i) (by first | exact i0 | omega) (by first | exact i1 | omega))).trans ?_; (first | with_reducible rfl | omega | exact eA_ix (by omega) | rfl)) | (refine ((q9408 (i) (by first | exact i0 | omega) (by first | exact i1 | omega))).trans ?_; (first | with_reducible rfl | omega | exact eA_ix (by omega) | rfl)) | (refine ((q9415 (i) (by first | exact i0 | omega) (by first | exact i1 | omega))).trans ?_; (first | with_reducible rfl | omega | exact eA_ix (by omega) | rfl)))), by omega, by omega, (RLI.n (by omega) (by omega) q9412 (fun h => by have h2 : x9384.toInt + 6 ≤ (gI g0 231 8).toInt ∧ (eA g9386 233 1).toInt < 8 ∧ (1 ≤ (eA g0 236 x9384.toInt).toInt ∧ (eA g0 236 x9384.toInt).toInt ≤ 9) ∧ (0 ≤ (eA g0 236 (x9384.toInt + 3)).toInt ∧ (eA g0 236 (x9384.toInt + 3)).toInt ≤ 99) ∧ (0 ≤ (eA g0 236 (x9384.toInt + 4)).toInt ∧ (eA g0 236 (x9384.toInt + 4)).toInt ≤ 9) ∧ (0 ≤ (eA g0 236 (x9384.toInt + 5)).toInt ∧ (eA g0 236 (x9384.toInt + 5)).toInt ≤ 9999) ∧ (0 ≤ (eA g0 236 (x9384.toInt + 1)).toInt ∧ (eA g0 236 (x9384.toInt + 1)).toInt < (eA g0 233 0).toInt) ∧ (0 ≤ (eA g0 236 (x9384.toInt + 2)).toInt ∧ (eA g0 236 (x9384.toInt + 2)).toInt < (eA g0 233 0).toInt) := h; have y385_ := congrArg Int32.toInt hv9478; have y386_ := congrArg Int32.toInt hv9480; have y387_ := congrArg Int32.toInt hv9482; have y388_ := congrArg Int32.toInt hv9484; omega) (eA_ti ((gA_sI))) (by omega)), (by have y_ := HI.eqA hI9521 (p := 233) (j := 1) (eA_c (j := 1) ((gA_sI))); omega), by omega, (by intro i i0 i1; refine (eA_ti ((gA_sI))).trans ?_; refine (q9415 i i0 i1).trans ?_; exact RFI.n (by omega) (by omega) q9412 (by omega) rfl (fun k => absurd k.1 (fun h => by have h2 : x9384.toInt + 6 ≤ (gI g0 231 8).toInt ∧ (eA g9386 233 1).toInt < 8 ∧ (1 ≤ (eA g0 236 x9384.toInt).toInt ∧ (eA g0 236 x9384.toInt).toInt ≤ 9) ∧ (0 ≤ (eA g0 236 (x9384.toInt + 3)).toInt ∧ (eA g0 236 (x9384.toInt + 3)).toInt ≤ 99) ∧ (0 ≤ (eA g0 236 (x9384.toInt + 4)).toInt ∧ (eA g0 236 (x9384.toInt + 4)).toInt ≤ 9) ∧ (0 ≤ (eA g0 236 (x9384.toInt + 5)).toInt ∧ (eA g0 236 (x9384.toInt + 5)).toInt ≤ 9999) ∧ (0 ≤ (eA g0 236 (x9384.toInt + 1)).toInt ∧ (eA g0 236 (x9384.toInt + 1)).toInt < (eA g0 233 0).toInt) ∧ (0 ≤ (eA g0 236 (x9384.toInt + 2)).toInt ∧ (eA g0 236 (x9384.toInt + 2)).toInt < (eA g0 233 0).toInt) := h; have y389_ := congrArg Int32.toInt hv9478; have y390_ := congrArg Int32.toInt hv9480; have y391_ := congrArg Int32.toInt hv9482; have y392_ := congrArg Int32.toInt hv9484; omega)))⟩ ⟨by omega, by omega⟩
                      · have c9519_ : v9518.toInt ≥ 0 := en_j_lt_f c9519
                        refine At.enter rfl ?_
                        refine r_lload_n rfl ?_
                        refine r_lload rfl ?_
                        refine r_lcmp _ rfl ?_
                        refine r_ifs 13 rfl (fun c9524 => ?_) (fun c9524 => ?_)
                        · have c9524_ : v9518.toInt > 9999 := en_j_gt_t c9524
                          refine At.enter rfl ?_
                          refine r_iconst 0 rfl ?_
                          refine Ar.fall 18 rfl ?_
                          refine At.enter rfl ?_
                          refine q_iretz (by decide) ?_
                          refine At.enter rfl ?_
                          refine r_ift (by decide) ?_
                          refine At.enter rfl ?_
                          refine r_iconst 0 rfl ?_
                          refine Ar.fall 53 rfl ?_
                          refine At.enter rfl ?_
                          refine q_iretz (by decide) ?_
                          refine At.enter rfl ?_
                          refine r_ift (by decide) ?_
                          refine At.enter rfl ?_
                          refine r_iconst 0 rfl ?_
                          refine Ar.fall 141 rfl ?_
                          refine At.enter rfl ?_
                          refine r_istore _ rfl ?_
                          refine r_iload (w_e1 _ _ _) ?_
                          refine r_ift (by decide) ?_
                          refine At.enter rfl ?_
                          refine r_aload_n (w_p1 (by decide) (Or.inr rfl) (w_p1 (by decide) (Or.inr rfl) e9400)) ?_
                          refine r_dup rfl ?_
                          refine q_getI (Sh.int hI9387.1 kx_231 rfl) x9385 e9392 ?_
                          refine r_iconst 1 rfl ?_
                          refine q_iadd (x9385.toInt + 1) rfl (by omega) (fun v9525 hv9525 => ?_)
                          refine q_putI (Sh.int hI9387.1 kx_231 rfl) rfl ?_
                          have hI9526 := HI.wI0 hI9387 kx_231 rfl (p := 231) (b := 6) (v := v9525) rfl
                          have hF9527 := Fr.wI (p := 231) (b := 6) (v := v9525) hF9388 rfl
                          refine Ar.fall 214 rfl ?_
                          refine At.enter rfl ?_
                          refine q_iinc (w_p1 (by decide) (Or.inr rfl) (w_p1 (by decide) (Or.inr rfl) e9403)) (x9384.toInt + 6) rfl (by omega) (fun v9528 hv9528 => ?_)
                          refine r_goto ?_
                          exact ih9391 (405 - v9528.toInt) _ _ ⟨x9383, v9528, v9525, by first | rfl | omega, hI9526, hF9527, (gI_sI_eq hI9387.1 kx_231 rfl _), ((gI_sI_ne (by decide)).trans e9393), ((eA_c gA_sI).trans e9394), ((eA_c gA_sI).trans e9395), ((eA_c gA_sI).trans e9396), ((eA_c gA_sI).trans e9397), ((eA_c gA_sI).trans e9398), ((eA_c gA_sI).trans e9399), (w_p1 (by decide) (Or.inr rfl) (w_p1 (by decide) (Or.inr rfl) (w_p1 (by decide) (Or.inr rfl) e9400))), (w_p1 (by decide) (Or.inr rfl) (w_p1 (by decide) (Or.inr rfl) (w_p1 (by decide) (Or.inr rfl) e9401))), (w_p1 (by decide) (Or.inr rfl) (w_p1 (by decide) (Or.inr rfl) (w_p1 (by decide) (Or.inr rfl) e9402))), (w_e1 _ _ _), by omega, by omega, by omega, by omega, (by intro i i0 i1; refine (eA_ti ((gA_sI))).trans ?_; (first | (refine ((q9408 (i) (by first | exact i0 | omega) (by first | exact i1 | omega))).trans ?_; (first | with_reducible rfl | omega | exact eA_ix (by omega) | rfl)) | (refine ((q9409 (i) (by first | exact i0 | omega) (by first | exact i1 | omega))).trans ?_; (first | with_reducible rfl | omega | exact eA_ix (by omega) | rfl)) | (refine ((q9415 (i) (by first | exact i0 | omega) (by first | exact i1 | omega))).trans ?_; (first | with_reducible rfl | omega | exact eA_ix (by omega) | rfl)))), (by intro i i0 i1; refine (eA_ti ((gA_sI))).trans ?_; (first | (refine ((q9409 (i) (by first | exact i0 | omega) (by first | exact i1 | omega))).trans ?_; (first | with_reducible rfl | omega | exact eA_ix (by omega) | rfl)) | (refine ((q9408 (i) (by first | exact i0 | omega) (by first | exact i1 | omega))).trans ?_; (first | with_reducible rfl | omega | exact eA_ix (by omega) | rfl)) | (refine ((q9415 (i) (by first | exact i0 | omega) (by first | exact i1 | omega))).trans ?_; (first | with_reducible rfl | omega | exact eA_ix (by omega) | rfl)))), by omega, by omega, (RLI.n (by omega) (by omega) q9412 (fun h => by have h2 : x9384.toInt + 6 ≤ (gI g0 231 8).toInt ∧ (eA g9386 233 1).toInt < 8 ∧ (1 ≤ (eA g0 236 x9384.toInt).toInt ∧ (eA g0 236 x9384.toInt).toInt ≤ 9) ∧ (0 ≤ (eA g0 236 (x9384.toInt + 3)).toInt ∧ (eA g0 236 (x9384.toInt + 3)).toInt ≤ 99) ∧ (0 ≤ (eA g0 236 (x9384.toInt + 4)).toInt ∧ (eA g0 236 (x9384.toInt + 4)).toInt ≤ 9) ∧ (0 ≤ (eA g0 236 (x9384.toInt + 5)).toInt ∧ (eA g0 236 (x9384.toInt + 5)).toInt ≤ 9999) ∧ (0 ≤ (eA g0 236 (x9384.toInt + 1)).toInt ∧ (eA g0 236 (x9384.toInt + 1)).toInt < (eA g0 233 0).toInt) ∧ (0 ≤ (eA g0 236 (x9384.toInt + 2)).toInt ∧ (eA g0 236 (x9384.toInt + 2)).toInt < (eA g0 233 0).toInt) := h; have y393_ := congrArg Int32.toInt hv9478; have y394_ := congrArg Int32.toInt hv9480; have y395_ := congrArg Int32.toInt hv9482; have y396_ := congrArg Int32.toInt hv9484; omega) (eA_ti ((gA_sI))) (by omega)), (by have y_ := HI.eqA hI9526 (p := 233) (j := 1) (eA_c (j := 1) ((gA_sI))); omega), by omega, (by intro i i0 i1; refine (eA_ti ((gA_sI))).trans ?_; refine (q9415 i i0 i1).trans ?_; exact RFI.n (by omega) (by omega) q9412 (by omega) rfl (fun k => absurd k.1 (fun h => by have h2 : x9384.toInt + 6 ≤ (gI g0 231 8).toInt ∧ (eA g9386 233 1).toInt < 8 ∧ (1 ≤ (eA g0 236 x9384.toInt).toInt ∧ (eA g0 236 x9384.toInt).toInt ≤ 9) ∧ (0 ≤ (eA g0 236 (x9384.toInt + 3)).toInt ∧ (eA g0 236 (x9384.toInt + 3)).toInt ≤ 99) ∧ (0 ≤ (eA g0 236 (x9384.toInt + 4)).toInt ∧ (eA g0 236 (x9384.toInt + 4)).toInt ≤ 9) ∧ (0 ≤ (eA g0 236 (x9384.toInt + 5)).toInt ∧ (eA g0 236 (x9384.toInt + 5)).toInt ≤ 9999) ∧ (0 ≤ (eA g0 236 (x9384.toInt + 1)).toInt ∧ (eA g0 236 (x9384.toInt + 1)).toInt < (eA g0 233 0).toInt) ∧ (0 ≤ (eA g0 236 (x9384.toInt + 2)).toInt ∧ (eA g0 236 (x9384.toInt + 2)).toInt < (eA g0 233 0).toInt) := h; have y397_ := congrArg Int32.toInt hv9478; have y398_ := congrArg Int32.toInt hv9480; have y399_ := congrArg Int32.toInt hv9482; have y400_ := congrArg Int32.toInt hv9484; omega)))⟩ ⟨by omega, by omega⟩
                        · have c9524_ : v9518.toInt ≤ 9999 := en_j_gt_f c9524
                          refine At.enter rfl ?_
                          refine r_iconst 1 rfl ?_
                          refine r_goto ?_
                          refine At.enter rfl ?_
                          refine q_iretz (by decide) ?_
                          refine At.enter rfl ?_
                          refine r_iff 48 rfl (by decide) ?_
                          refine At.enter rfl ?_
                          refine r_iconst 1 rfl ?_
                          refine r_goto ?_
                          refine At.enter rfl ?_
                          refine q_iretz (by decide) ?_
                          refine At.enter rfl ?_
                          refine r_iff 106 rfl (by decide) ?_
                          refine At.enter rfl ?_
                          refine r_aload_n (w_p1 (by decide) (Or.inr rfl) e9400) ?_
                          refine r_aload_n (w_p1 (by decide) (Or.inr rfl) e9400) ?_
                          refine q_getR (Sh.ref hI9387.1 kx_231 rfl) ?_
                          refine r_iload_n (w_p1 (by decide) (Or.inr rfl) e9403) ?_
                          refine r_iconst 1 rfl ?_
                          refine q_iadd (x9384.toInt + 1) rfl (by omega) (fun v9529 hv9529 => ?_)
                          obtain ⟨v9530, hv9530⟩ : ∃ v, eA g0 236 (x9384.toInt + 1) = v := ⟨_, rfl⟩
                          refine q_iald (Sh.arr hI9387.1 ka_236) (x9384.toInt + 1) (by omega) (by omega) v9530 ((eA_c (hF9388.2.1 236 (by decide))).trans hv9530) ?_
                          refine q_inlV 118 rfl [.ref 231, .int v9530] [] (Nat.le_of_ble_eq_true rfl) rfl ?_
                          refine Ev.mk rfl rfl ⟨Nat.le_of_ble_eq_true rfl, Or.inr (q_rc hI9387.1 kx_231 rfl)⟩ ?_
                          show At _ none _ _ (0, [(0, .ref 231), (1, .int v9530)], [], (_, _)) _
                          refine At.enter rfl ?_
                          refine r_iload_n rfl ?_
                          refine q_i2l (fun v9531 hv9531 => ?_)
                          refine r_lconst 0 rfl ?_
                          refine r_aload_n rfl ?_
                          refine q_getR (Sh.ref hI9387.1 kx_231 rfl) ?_
                          refine r_iconst 0 rfl ?_
                          refine q_iald (Sh.arr hI9387.1 ka_233) 0 rfl (by decide) v6383 e9394 ?_
                          refine q_i2l (fun v9532 hv9532 => ?_)
                          refine r_lconst 1 rfl ?_
                          refine q_lsub (v9532.toInt - 1) rfl (by omega) (fun v9533 hv9533 => ?_)
                          refine q_inlS 15 rfl [.long v9531, .long 0, .long v9533] [] (Nat.le_of_ble_eq_true rfl) rfl ?_
                          refine Ev.mk rfl rfl ⟨Nat.le_of_ble_eq_true rfl, Or.inl rfl⟩ ?_
                          show At _ none _ _ (0, [(0, .long v9531), (2, .long 0), (4, .long v9533)], [], (_, _)) _
                          refine At.enter rfl ?_
                          refine r_lload_n rfl ?_
                          refine r_lload_n rfl ?_
                          refine r_lcmp _ rfl ?_
                          refine r_ifs 6 rfl (fun c9534 => ?_) (fun c9534 => ?_)
                          · have c9534_ : v9531.toInt < 0 := en_j_lt_t c9534
                            refine At.enter rfl ?_
                            refine r_iconst 0 rfl ?_
                            refine Ar.fall 18 rfl ?_
                            refine At.enter rfl ?_
                            refine q_iretz (by decide) ?_
                            refine At.enter rfl ?_
                            refine q_iretz (by decide) ?_
                            refine At.enter rfl ?_
                            refine r_ift (by decide) ?_
                            refine At.enter rfl ?_
                            refine r_iconst 0 rfl ?_
                            refine Ar.fall 141 rfl ?_
                            refine At.enter rfl ?_
                            refine r_istore _ rfl ?_
                            refine r_iload (w_e1 _ _ _) ?_
                            refine r_ift (by decide) ?_
                            refine At.enter rfl ?_
                            refine r_aload_n (w_p1 (by decide) (Or.inr rfl) (w_p1 (by decide) (Or.inr rfl) e9400)) ?_
                            refine r_dup rfl ?_
                            refine q_getI (Sh.int hI9387.1 kx_231 rfl) x9385 e9392 ?_
                            refine r_iconst 1 rfl ?_
                            refine q_iadd (x9385.toInt + 1) rfl (by omega) (fun v9535 hv9535 => ?_)
                            refine q_putI (Sh.int hI9387.1 kx_231 rfl) rfl ?_
                            have hI9536 := HI.wI0 hI9387 kx_231 rfl (p := 231) (b := 6) (v := v9535) rfl
                            have hF9537 := Fr.wI (p := 231) (b := 6) (v := v9535) hF9388 rfl
                            refine Ar.fall 214 rfl ?_
                            refine At.enter rfl ?_
                            refine q_iinc (w_p1 (by decide) (Or.inr rfl) (w_p1 (by decide) (Or.inr rfl) e9403)) (x9384.toInt + 6) rfl (by omega) (fun v9538 hv9538 => ?_)
                            refine r_goto ?_
                            exact ih9391 (405 - v9538.toInt) _ _ ⟨x9383, v9538, v9535, by first | rfl | omega, hI9536, hF9537, (gI_sI_eq hI9387.1 kx_231 rfl _), ((gI_sI_ne (by decide)).trans e9393), ((eA_c gA_sI).trans e9394), ((eA_c gA_sI).trans e9395), ((eA_c gA_sI).trans e9396), ((eA_c gA_sI).trans e9397), ((eA_c gA_sI).trans e9398), ((eA_c gA_sI).trans e9399), (w_p1 (by decide) (Or.inr rfl) (w_p1 (by decide) (Or.inr rfl) (w_p1 (by decide) (Or.inr rfl) e9400))), (w_p1 (by decide) (Or.inr rfl) (w_p1 (by decide) (Or.inr rfl) (w_p1 (by decide) (Or.inr rfl) e9401))), (w_p1 (by decide) (Or.inr rfl) (w_p1 (by decide) (Or.inr rfl) (w_p1 (by decide) (Or.inr rfl) e9402))), (w_e1 _ _ _), by omega, by omega, by omega, by omega, (by intro i i0 i1; refine (eA_ti ((gA_sI))).trans ?_; (first | (refine ((q9408 (i) (by first | exact i0 | omega) (by first | exact i1 | omega))).trans ?_; (first | with_reducible rfl | omega | exact eA_ix (by omega) | rfl)) | (refine ((q9409 (i) (by first | exact i0 | omega) (by first | exact i1 | omega))).trans ?_; (first | with_reducible rfl | omega | exact eA_ix (by omega) | rfl)) | (refine ((q9415 (i) (by first | exact i0 | omega) (by first | exact i1 | omega))).trans ?_; (first | with_reducible rfl | omega | exact eA_ix (by omega) | rfl)))), (by intro i i0 i1; refine (eA_ti ((gA_sI))).trans ?_; (first | (refine ((q9409 (i) (by first | exact i0 | omega) (by first | exact i1 | omega))).trans ?_; (first | with_reducible rfl | omega | exact eA_ix (by omega) | rfl)) | (refine ((q9408 (i) (by first | exact i0 | omega) (by first | exact i1 | omega))).trans ?_; (first | with_reducible rfl | omega | exact eA_ix (by omega) | rfl)) | (refine ((q9415 (i) (by first | exact i0 | omega) (by first | exact i1 | omega))).trans ?_; (first | with_reducible rfl | omega | exact eA_ix (by omega) | rfl)))), by omega, by omega, (RLI.n (by omega) (by omega) q9412 (fun h => by have h2 : x9384.toInt + 6 ≤ (gI g0 231 8).toInt ∧ (eA g9386 233 1).toInt < 8 ∧ (1 ≤ (eA g0 236 x9384.toInt).toInt ∧ (eA g0 236 x9384.toInt).toInt ≤ 9) ∧ (0 ≤ (eA g0 236 (x9384.toInt + 3)).toInt ∧ (eA g0 236 (x9384.toInt + 3)).toInt ≤ 99) ∧ (0 ≤ (eA g0 236 (x9384.toInt + 4)).toInt ∧ (eA g0 236 (x9384.toInt + 4)).toInt ≤ 9) ∧ (0 ≤ (eA g0 236 (x9384.toInt + 5)).toInt ∧ (eA g0 236 (x9384.toInt + 5)).toInt ≤ 9999) ∧ (0 ≤ (eA g0 236 (x9384.toInt + 1)).toInt ∧ (eA g0 236 (x9384.toInt + 1)).toInt < (eA g0 233 0).toInt) ∧ (0 ≤ (eA g0 236 (x9384.toInt + 2)).toInt ∧ (eA g0 236 (x9384.toInt + 2)).toInt < (eA g0 233 0).toInt) := h; have y401_ := congrArg Int32.toInt hv9478; have y402_ := congrArg Int32.toInt hv9480; have y403_ := congrArg Int32.toInt hv9482; have y404_ := congrArg Int32.toInt hv9484; have y405_ := congrArg Int32.toInt hv9530; omega) (eA_ti ((gA_sI))) (by omega)), (by have y_ := HI.eqA hI9536 (p := 233) (j := 1) (eA_c (j := 1) ((gA_sI))); omega), by omega, (by intro i i0 i1; refine (eA_ti ((gA_sI))).trans ?_; refine (q9415 i i0 i1).trans ?_; exact RFI.n (by omega) (by omega) q9412 (by omega) rfl (fun k => absurd k.1 (fun h => by have h2 : x9384.toInt + 6 ≤ (gI g0 231 8).toInt ∧ (eA g9386 233 1).toInt < 8 ∧ (1 ≤ (eA g0 236 x9384.toInt).toInt ∧ (eA g0 236 x9384.toInt).toInt ≤ 9) ∧ (0 ≤ (eA g0 236 (x9384.toInt + 3)).toInt ∧ (eA g0 236 (x9384.toInt + 3)).toInt ≤ 99) ∧ (0 ≤ (eA g0 236 (x9384.toInt + 4)).toInt ∧ (eA g0 236 (x9384.toInt + 4)).toInt ≤ 9) ∧ (0 ≤ (eA g0 236 (x9384.toInt + 5)).toInt ∧ (eA g0 236 (x9384.toInt + 5)).toInt ≤ 9999) ∧ (0 ≤ (eA g0 236 (x9384.toInt + 1)).toInt ∧ (eA g0 236 (x9384.toInt + 1)).toInt < (eA g0 233 0).toInt) ∧ (0 ≤ (eA g0 236 (x9384.toInt + 2)).toInt ∧ (eA g0 236 (x9384.toInt + 2)).toInt < (eA g0 233 0).toInt) := h; have y406_ := congrArg Int32.toInt hv9478; have y407_ := congrArg Int32.toInt hv9480; have y408_ := congrArg Int32.toInt hv9482; have y409_ := congrArg Int32.toInt hv9484; have y410_ := congrArg Int32.toInt hv9530; omega)))⟩ ⟨by omega, by omega⟩
                          · have c9534_ : v9531.toInt ≥ 0 := en_j_lt_f c9534
                            refine At.enter rfl ?_
                            refine r_lload_n rfl ?_
                            refine r_lload rfl ?_
                            refine r_lcmp _ rfl ?_
                            refine r_ifs 13 rfl (fun c9539 => ?_) (fun c9539 => ?_)
                            · have c9539_ : v9531.toInt > v9533.toInt := en_j_gt_t c9539
                              refine At.enter rfl ?_
                              refine r_iconst 0 rfl ?_
                              refine Ar.fall 18 rfl ?_
                              refine At.enter rfl ?_
                              refine q_iretz (by decide) ?_
                              refine At.enter rfl ?_
                              refine q_iretz (by decide) ?_
                              refine At.enter rfl ?_
                              refine r_ift (by decide) ?_
                              refine At.enter rfl ?_
                              refine r_iconst 0 rfl ?_
                              refine Ar.fall 141 rfl ?_
                              refine At.enter rfl ?_
                              refine r_istore _ rfl ?_
                              refine r_iload (w_e1 _ _ _) ?_
                              refine r_ift (by decide) ?_
                              refine At.enter rfl ?_
                              refine r_aload_n (w_p1 (by decide) (Or.inr rfl) (w_p1 (by decide) (Or.inr rfl) e9400)) ?_
                              refine r_dup rfl ?_
                              refine q_getI (Sh.int hI9387.1 kx_231 rfl) x9385 e9392 ?_
                              refine r_iconst 1 rfl ?_
                              refine q_iadd (x9385.toInt + 1) rfl (by omega) (fun v9540 hv9540 => ?_)
                              refine q_putI (Sh.int hI9387.1 kx_231 rfl) rfl ?_
                              have hI9541 := HI.wI0 hI9387 kx_231 rfl (p := 231) (b := 6) (v := v9540) rfl
                              have hF9542 := Fr.wI (p := 231) (b := 6) (v := v9540) hF9388 rfl
                              refine Ar.fall 214 rfl ?_
                              refine At.enter rfl ?_
                              refine q_iinc (w_p1 (by decide) (Or.inr rfl) (w_p1 (by decide) (Or.inr rfl) e9403)) (x9384.toInt + 6) rfl (by omega) (fun v9543 hv9543 => ?_)
                              refine r_goto ?_
                              exact ih9391 (405 - v9543.toInt) _ _ ⟨x9383, v9543, v9540, by first | rfl | omega, hI9541, hF9542, (gI_sI_eq hI9387.1 kx_231 rfl _), ((gI_sI_ne (by decide)).trans e9393), ((eA_c gA_sI).trans e9394), ((eA_c gA_sI).trans e9395), ((eA_c gA_sI).trans e9396), ((eA_c gA_sI).trans e9397), ((eA_c gA_sI).trans e9398), ((eA_c gA_sI).trans e9399), (w_p1 (by decide) (Or.inr rfl) (w_p1 (by decide) (Or.inr rfl) (w_p1 (by decide) (Or.inr rfl) e9400))), (w_p1 (by decide) (Or.inr rfl) (w_p1 (by decide) (Or.inr rfl) (w_p1 (by decide) (Or.inr rfl) e9401))), (w_p1 (by decide) (Or.inr rfl) (w_p1 (by decide) (Or.inr rfl) (w_p1 (by decide) (Or.inr rfl) e9402))), (w_e1 _ _ _), by omega, by omega, by omega, by omega, (by intro i i0 i1; refine (eA_ti ((gA_sI))).trans ?_; (first | (refine ((q9408 (i) (by first | exact i0 | omega) (by first | exact i1 | omega))).trans ?_; (first | with_reducible rfl | omega | exact eA_ix (by omega) | rfl)) | (refine ((q9409 (i) (by first | exact i0 | omega) (by first | exact i1 | omega))).trans ?_; (first | with_reducible rfl | omega | exact eA_ix (by omega) | rfl)) | (refine ((q9415 (i) (by first | exact i0 | omega) (by first | exact i1 | omega))).trans ?_; (first | with_reducible rfl | omega | exact eA_ix (by omega) | rfl)))), (by intro i i0 i1; refine (eA_ti ((gA_sI))).trans ?_; (first | (refine ((q9409 (i) (by first | exact i0 | omega) (by first | exact i1 | omega))).trans ?_; (first | with_reducible rfl | omega | exact eA_ix (by omega) | rfl)) | (refine ((q9408 (i) (by first | exact i0 | omega) (by first | exact i1 | omega))).trans ?_; (first | with_reducible rfl | omega | exact eA_ix (by omega) | rfl)) | (refine ((q9415 (i) (by first | exact i0 | omega) (by first | exact i1 | omega))).trans ?_; (first | with_reducible rfl | omega | exact eA_ix (by omega) | rfl)))), by omega, by omega, (RLI.n (by omega) (by omega) q9412 (fun h => by have h2 : x9384.toInt + 6 ≤ (gI g0 231 8).toInt ∧ (eA g9386 233 1).toInt < 8 ∧ (1 ≤ (eA g0 236 x9384.toInt).toInt ∧ (eA g0 236 x9384.toInt).toInt ≤ 9) ∧ (0 ≤ (eA g0 236 (x9384.toInt + 3)).toInt ∧ (eA g0 236 (x9384.toInt + 3)).toInt ≤ 99) ∧ (0 ≤ (eA g0 236 (x9384.toInt + 4)).toInt ∧ (eA g0 236 (x9384.toInt + 4)).toInt ≤ 9) ∧ (0 ≤ (eA g0 236 (x9384.toInt + 5)).toInt ∧ (eA g0 236 (x9384.toInt + 5)).toInt ≤ 9999) ∧ (0 ≤ (eA g0 236 (x9384.toInt + 1)).toInt ∧ (eA g0 236 (x9384.toInt + 1)).toInt < (eA g0 233 0).toInt) ∧ (0 ≤ (eA g0 236 (x9384.toInt + 2)).toInt ∧ (eA g0 236 (x9384.toInt + 2)).toInt < (eA g0 233 0).toInt) := h; have y411_ := congrArg Int32.toInt hv9478; have y412_ := congrArg Int32.toInt hv9480; have y413_ := congrArg Int32.toInt hv9482; have y414_ := congrArg Int32.toInt hv9484; have y415_ := congrArg Int32.toInt hv9530; omega) (eA_ti ((gA_sI))) (by omega)), (by have y_ := HI.eqA hI9541 (p := 233) (j := 1) (eA_c (j := 1) ((gA_sI))); omega), by omega, (by intro i i0 i1; refine (eA_ti ((gA_sI))).trans ?_; refine (q9415 i i0 i1).trans ?_; exact RFI.n (by omega) (by omega) q9412 (by omega) rfl (fun k => absurd k.1 (fun h => by have h2 : x9384.toInt + 6 ≤ (gI g0 231 8).toInt ∧ (eA g9386 233 1).toInt < 8 ∧ (1 ≤ (eA g0 236 x9384.toInt).toInt ∧ (eA g0 236 x9384.toInt).toInt ≤ 9) ∧ (0 ≤ (eA g0 236 (x9384.toInt + 3)).toInt ∧ (eA g0 236 (x9384.toInt + 3)).toInt ≤ 99) ∧ (0 ≤ (eA g0 236 (x9384.toInt + 4)).toInt ∧ (eA g0 236 (x9384.toInt + 4)).toInt ≤ 9) ∧ (0 ≤ (eA g0 236 (x9384.toInt + 5)).toInt ∧ (eA g0 236 (x9384.toInt + 5)).toInt ≤ 9999) ∧ (0 ≤ (eA g0 236 (x9384.toInt + 1)).toInt ∧ (eA g0 236 (x9384.toInt + 1)).toInt < (eA g0 233 0).toInt) ∧ (0 ≤ (eA g0 236 (x9384.toInt + 2)).toInt ∧ (eA g0 236 (x9384.toInt + 2)).toInt < (eA g0 233 0).toInt) := h; have y416_ := congrArg Int32.toInt hv9478; have y417_ := congrArg Int32.toInt hv9480; have y418_ := congrArg Int32.toInt hv9482; have y419_ := congrArg Int32.toInt hv9484; have y420_ := congrArg Int32.toInt hv9530; omega)))⟩ ⟨by omega, by omega⟩
                            · have c9539_ : v9531.toInt ≤ v9533.toInt := en_j_gt_f c9539
                              refine At.enter rfl ?_
                              refine r_iconst 1 rfl ?_
                              refine r_goto ?_
                              refine At.enter rfl ?_
                              refine q_iretz (by decide) ?_
                              refine At.enter rfl ?_
                              refine q_iretz (by decide) ?_
                              refine At.enter rfl ?_
                              refine r_iff 121 rfl (by decide) ?_
                              refine At.enter rfl ?_
                              refine r_aload_n (w_p1 (by decide) (Or.inr rfl) e9400) ?_
                              refine r_aload_n (w_p1 (by decide) (Or.inr rfl) e9400) ?_
                              refine q_getR (Sh.ref hI9387.1 kx_231 rfl) ?_
                              refine r_iload_n (w_p1 (by decide) (Or.inr rfl) e9403) ?_
                              refine r_iconst 2 rfl ?_
                              refine q_iadd (x9384.toInt + 2) rfl (by omega) (fun v9544 hv9544 => ?_)
                              obtain ⟨v9545, hv9545⟩ : ∃ v, eA g0 236 (x9384.toInt + 2) = v := ⟨_, rfl⟩
                              refine q_iald (Sh.arr hI9387.1 ka_236) (x9384.toInt + 2) (by omega) (by omega) v9545 ((eA_c (hF9388.2.1 236 (by decide))).trans hv9545) ?_
                              refine q_inlV 133 rfl [.ref 231, .int v9545] [] (Nat.le_of_ble_eq_true rfl) rfl ?_
                              refine Ev.mk rfl rfl ⟨Nat.le_of_ble_eq_true rfl, Or.inr (q_rc hI9387.1 kx_231 rfl)⟩ ?_
                              show At _ none _ _ (0, [(0, .ref 231), (1, .int v9545)], [], (_, _)) _
                              refine At.enter rfl ?_
                              refine r_iload_n rfl ?_
                              refine q_i2l (fun v9546 hv9546 => ?_)
                              refine r_lconst 0 rfl ?_
                              refine r_aload_n rfl ?_
                              refine q_getR (Sh.ref hI9387.1 kx_231 rfl) ?_
                              refine r_iconst 0 rfl ?_
                              refine q_iald (Sh.arr hI9387.1 ka_233) 0 rfl (by decide) v6383 e9394 ?_
                              refine q_i2l (fun v9547 hv9547 => ?_)
                              refine r_lconst 1 rfl ?_
                              refine q_lsub (v9547.toInt - 1) rfl (by omega) (fun v9548 hv9548 => ?_)
                              refine q_inlS 15 rfl [.long v9546, .long 0, .long v9548] [] (Nat.le_of_ble_eq_true rfl) rfl ?_
                              refine Ev.mk rfl rfl ⟨Nat.le_of_ble_eq_true rfl, Or.inl rfl⟩ ?_
                              show At _ none _ _ (0, [(0, .long v9546), (2, .long 0), (4, .long v9548)], [], (_, _)) _
                              refine At.enter rfl ?_
                              refine r_lload_n rfl ?_
                              refine r_lload_n rfl ?_
                              refine r_lcmp _ rfl ?_
                              refine r_ifs 6 rfl (fun c9549 => ?_) (fun c9549 => ?_)
                              · have c9549_ : v9546.toInt < 0 := en_j_lt_t c9549
                                refine At.enter rfl ?_
                                refine r_iconst 0 rfl ?_
                                refine Ar.fall 18 rfl ?_
                                refine At.enter rfl ?_
                                refine q_iretz (by decide) ?_
                                refine At.enter rfl ?_
                                refine q_iretz (by decide) ?_
                                refine At.enter rfl ?_
                                refine r_ift (by decide) ?_
                                refine At.enter rfl ?_
                                refine r_iconst 0 rfl ?_
                                refine Ar.fall 141 rfl ?_
                                refine At.enter rfl ?_
                                refine r_istore _ rfl ?_
                                refine r_iload (w_e1 _ _ _) ?_
                                refine r_ift (by decide) ?_
                                refine At.enter rfl ?_
                                refine r_aload_n (w_p1 (by decide) (Or.inr rfl) (w_p1 (by decide) (Or.inr rfl) e9400)) ?_
                                refine r_dup rfl ?_
                                refine q_getI (Sh.int hI9387.1 kx_231 rfl) x9385 e9392 ?_
                                refine r_iconst 1 rfl ?_
                                refine q_iadd (x9385.toInt + 1) rfl (by omega) (fun v9550 hv9550 => ?_)
                                refine q_putI (Sh.int hI9387.1 kx_231 rfl) rfl ?_
                                have hI9551 := HI.wI0 hI9387 kx_231 rfl (p := 231) (b := 6) (v := v9550) rfl
                                have hF9552 := Fr.wI (p := 231) (b := 6) (v := v9550) hF9388 rfl
                                refine Ar.fall 214 rfl ?_
                                refine At.enter rfl ?_
                                refine q_iinc (w_p1 (by decide) (Or.inr rfl) (w_p1 (by decide) (Or.inr rfl) e9403)) (x9384.toInt + 6) rfl (by omega) (fun v9553 hv9553 => ?_)
                                refine r_goto ?_
                                exact ih9391 (405 - v9553.toInt) _ _ ⟨x9383, v9553, v9550, by first | rfl | omega, hI9551, hF9552, (gI_sI_eq hI9387.1 kx_231 rfl _), ((gI_sI_ne (by decide)).trans e9393), ((eA_c gA_sI).trans e9394), ((eA_c gA_sI).trans e9395), ((eA_c gA_sI).trans e9396), ((eA_c gA_sI).trans e9397), ((eA_c gA_sI).trans e9398), ((eA_c gA_sI).trans e9399), (w_p1 (by decide) (Or.inr rfl) (w_p1 (by decide) (Or.inr rfl) (w_p1 (by decide) (Or.inr rfl) e9400))), (w_p1 (by decide) (Or.inr rfl) (w_p1 (by decide) (Or.inr rfl) (w_p1 (by decide) (Or.inr rfl) e9401))), (w_p1 (by decide) (Or.inr rfl) (w_p1 (by decide) (Or.inr rfl) (w_p1 (by decide) (Or.inr rfl) e9402))), (w_e1 _ _ _), by omega, by omega, by omega, by omega, (by intro i i0 i1; refine (eA_ti ((gA_sI))).trans ?_; (first | (refine ((q9408 (i) (by first | exact i0 | omega) (by first | exact i1 | omega))).trans ?_; (first | with_reducible rfl | omega | exact eA_ix (by omega) | rfl)) | (refine ((q9409 (i) (by first | exact i0 | omega) (by first | exact i1 | omega))).trans ?_; (first | with_reducible rfl | omega | exact eA_ix (by omega) | rfl)) | (refine ((q9415 (i) (by first | exact i0 | omega) (by first | exact i1 | omega))).trans ?_; (first | with_reducible rfl | omega | exact eA_ix (by omega) | rfl)))), (by intro i i0 i1; refine (eA_ti ((gA_sI))).trans ?_; (first | (refine ((q9409 (i) (by first | exact i0 | omega) (by first | exact i1 | omega))).trans ?_; (first | with_reducible rfl | omega | exact eA_ix (by omega) | rfl)) | (refine ((q9408 (i) (by first | exact i0 | omega) (by first | exact i1 | omega))).trans ?_; (first | with_reducible rfl | omega | exact eA_ix (by omega) | rfl)) | (refine ((q9415 (i) (by first | exact i0 | omega) (by first | exact i1 | omega))).trans ?_; (first | with_reducible rfl | omega | exact eA_ix (by omega) | rfl)))), by omega, by omega, (RLI.n (by omega) (by omega) q9412 (fun h => by have h2 : x9384.toInt + 6 ≤ (gI g0 231 8).toInt ∧ (eA g9386 233 1).toInt < 8 ∧ (1 ≤ (eA g0 236 x9384.toInt).toInt ∧ (eA g0 236 x9384.toInt).toInt ≤ 9) ∧ (0 ≤ (eA g0 236 (x9384.toInt + 3)).toInt ∧ (eA g0 236 (x9384.toInt + 3)).toInt ≤ 99) ∧ (0 ≤ (eA g0 236 (x9384.toInt + 4)).toInt ∧ (eA g0 236 (x9384.toInt + 4)).toInt ≤ 9) ∧ (0 ≤ (eA g0 236 (x9384.toInt + 5)).toInt ∧ (eA g0 236 (x9384.toInt + 5)).toInt ≤ 9999) ∧ (0 ≤ (eA g0 236 (x9384.toInt + 1)).toInt ∧ (eA g0 236 (x9384.toInt + 1)).toInt < (eA g0 233 0).toInt) ∧ (0 ≤ (eA g0 236 (x9384.toInt + 2)).toInt ∧ (eA g0 236 (x9384.toInt + 2)).toInt < (eA g0 233 0).toInt) := h; have y421_ := congrArg Int32.toInt hv9478; have y422_ := congrArg Int32.toInt hv9480; have y423_ := congrArg Int32.toInt hv9482; have y424_ := congrArg Int32.toInt hv9484; have y425_ := congrArg Int32.toInt hv9530; have y426_ := congrArg Int32.toInt hv9545; omega) (eA_ti ((gA_sI))) (by omega)), (by have y_ := HI.eqA hI9551 (p := 233) (j := 1) (eA_c (j := 1) ((gA_sI))); omega), by omega, (by intro i i0 i1; refine (eA_ti ((gA_sI))).trans ?_; refine (q9415 i i0 i1).trans ?_; exact RFI.n (by omega) (by omega) q9412 (by omega) rfl (fun k => absurd k.1 (fun h => by have h2 : x9384.toInt + 6 ≤ (gI g0 231 8).toInt ∧ (eA g9386 233 1).toInt < 8 ∧ (1 ≤ (eA g0 236 x9384.toInt).toInt ∧ (eA g0 236 x9384.toInt).toInt ≤ 9) ∧ (0 ≤ (eA g0 236 (x9384.toInt + 3)).toInt ∧ (eA g0 236 (x9384.toInt + 3)).toInt ≤ 99) ∧ (0 ≤ (eA g0 236 (x9384.toInt + 4)).toInt ∧ (eA g0 236 (x9384.toInt + 4)).toInt ≤ 9) ∧ (0 ≤ (eA g0 236 (x9384.toInt + 5)).toInt ∧ (eA g0 236 (x9384.toInt + 5)).toInt ≤ 9999) ∧ (0 ≤ (eA g0 236 (x9384.toInt + 1)).toInt ∧ (eA g0 236 (x9384.toInt + 1)).toInt < (eA g0 233 0).toInt) ∧ (0 ≤ (eA g0 236 (x9384.toInt + 2)).toInt ∧ (eA g0 236 (x9384.toInt + 2)).toInt < (eA g0 233 0).toInt) := h; have y427_ := congrArg Int32.toInt hv9478; have y428_ := congrArg Int32.toInt hv9480; have y429_ := congrArg Int32.toInt hv9482; have y430_ := congrArg Int32.toInt hv9484; have y431_ := congrArg Int32.toInt hv9530; have y432_ := congrArg Int32.toInt hv9545; omega)))⟩ ⟨by omega, by omega⟩
                              · have c9549_ : v9546.toInt ≥ 0 := en_j_lt_f c9549
                                refine At.enter rfl ?_
                                refine r_lload_n rfl ?_
                                refine r_lload rfl ?_
                                refine r_lcmp _ rfl ?_
                                refine r_ifs 13 rfl (fun c9554 => ?_) (fun c9554 => ?_)
                                · have c9554_ : v9546.toInt > v9548.toInt := en_j_gt_t c9554
                                  refine At.enter rfl ?_
                                  refine r_iconst 0 rfl ?_
                                  refine Ar.fall 18 rfl ?_
                                  refine At.enter rfl ?_
                                  refine q_iretz (by decide) ?_
                                  refine At.enter rfl ?_
                                  refine q_iretz (by decide) ?_
                                  refine At.enter rfl ?_
                                  refine r_ift (by decide) ?_
                                  refine At.enter rfl ?_
                                  refine r_iconst 0 rfl ?_
                                  refine Ar.fall 141 rfl ?_
                                  refine At.enter rfl ?_
                                  refine r_istore _ rfl ?_
                                  refine r_iload (w_e1 _ _ _) ?_
                                  refine r_ift (by decide) ?_
                                  refine At.enter rfl ?_
                                  refine r_aload_n (w_p1 (by decide) (Or.inr rfl) (w_p1 (by decide) (Or.inr rfl) e9400)) ?_
                                  refine r_dup rfl ?_
                                  refine q_getI (Sh.int hI9387.1 kx_231 rfl) x9385 e9392 ?_
                                  refine r_iconst 1 rfl ?_
                                  refine q_iadd (x9385.toInt + 1) rfl (by omega) (fun v9555 hv9555 => ?_)
                                  refine q_putI (Sh.int hI9387.1 kx_231 rfl) rfl ?_
                                  have hI9556 := HI.wI0 hI9387 kx_231 rfl (p := 231) (b := 6) (v := v9555) rfl
                                  have hF9557 := Fr.wI (p := 231) (b := 6) (v := v9555) hF9388 rfl
                                  refine Ar.fall 214 rfl ?_
                                  refine At.enter rfl ?_
                                  refine q_iinc (w_p1 (by decide) (Or.inr rfl) (w_p1 (by decide) (Or.inr rfl) e9403)) (x9384.toInt + 6) rfl (by omega) (fun v9558 hv9558 => ?_)
                                  refine r_goto ?_
                                  exact ih9391 (405 - v9558.toInt) _ _ ⟨x9383, v9558, v9555, by first | rfl | omega, hI9556, hF9557, (gI_sI_eq hI9387.1 kx_231 rfl _), ((gI_sI_ne (by decide)).trans e9393), ((eA_c gA_sI).trans e9394), ((eA_c gA_sI).trans e9395), ((eA_c gA_sI).trans e9396), ((eA_c gA_sI).trans e9397), ((eA_c gA_sI).trans e9398), ((eA_c gA_sI).trans e9399), (w_p1 (by decide) (Or.inr rfl) (w_p1 (by decide) (Or.inr rfl) (w_p1 (by decide) (Or.inr rfl) e9400))), (w_p1 (by decide) (Or.inr rfl) (w_p1 (by decide) (Or.inr rfl) (w_p1 (by decide) (Or.inr rfl) e9401))), (w_p1 (by decide) (Or.inr rfl) (w_p1 (by decide) (Or.inr rfl) (w_p1 (by decide) (Or.inr rfl) e9402))), (w_e1 _ _ _), by omega, by omega, by omega, by omega, (by intro i i0 i1; refine (eA_ti ((gA_sI))).trans ?_; (first | (refine ((q9408 (i) (by first | exact i0 | omega) (by first | exact i1 | omega))).trans ?_; (first | with_reducible rfl | omega | exact eA_ix (by omega) | rfl)) | (refine ((q9409 (i) (by first | exact i0 | omega) (by first | exact i1 | omega))).trans ?_; (first | with_reducible rfl | omega | exact eA_ix (by omega) | rfl)) | (refine ((q9415 (i) (by first | exact i0 | omega) (by first | exact i1 | omega))).trans ?_; (first | with_reducible rfl | omega | exact eA_ix (by omega) | rfl)))), (by intro i i0 i1; refine (eA_ti ((gA_sI))).trans ?_; (first | (refine ((q9409 (i) (by first | exact i0 | omega) (by first | exact i1 | omega))).trans ?_; (first | with_reducible rfl | omega | exact eA_ix (by omega) | rfl)) | (refine ((q9408 (i) (by first | exact i0 | omega) (by first | exact i1 | omega))).trans ?_; (first | with_reducible rfl | omega | exact eA_ix (by omega) | rfl)) | (refine ((q9415 (i) (by first | exact i0 | omega) (by first | exact i1 | omega))).trans ?_; (first | with_reducible rfl | omega | exact eA_ix (by omega) | rfl)))), by omega, by omega, (RLI.n (by omega) (by omega) q9412 (fun h => by have h2 : x9384.toInt + 6 ≤ (gI g0 231 8).toInt ∧ (eA g9386 233 1).toInt < 8 ∧ (1 ≤ (eA g0 236 x9384.toInt).toInt ∧ (eA g0 236 x9384.toInt).toInt ≤ 9) ∧ (0 ≤ (eA g0 236 (x9384.toInt + 3)).toInt ∧ (eA g0 236 (x9384.toInt + 3)).toInt ≤ 99) ∧ (0 ≤ (eA g0 236 (x9384.toInt + 4)).toInt ∧ (eA g0 236 (x9384.toInt + 4)).toInt ≤ 9) ∧ (0 ≤ (eA g0 236 (x9384.toInt + 5)).toInt ∧ (eA g0 236 (x9384.toInt + 5)).toInt ≤ 9999) ∧ (0 ≤ (eA g0 236 (x9384.toInt + 1)).toInt ∧ (eA g0 236 (x9384.toInt + 1)).toInt < (eA g0 233 0).toInt) ∧ (0 ≤ (eA g0 236 (x9384.toInt + 2)).toInt ∧ (eA g0 236 (x9384.toInt + 2)).toInt < (eA g0 233 0).toInt) := h; have y433_ := congrArg Int32.toInt hv9478; have y434_ := congrArg Int32.toInt hv9480; have y435_ := congrArg Int32.toInt hv9482; have y436_ := congrArg Int32.toInt hv9484; have y437_ := congrArg Int32.toInt hv9530; have y438_ := congrArg Int32.toInt hv9545; omega) (eA_ti ((gA_sI))) (by omega)), (by have y_ := HI.eqA hI9556 (p := 233) (j := 1) (eA_c (j := 1) ((gA_sI))); omega), by omega, (by intro i i0 i1; refine (eA_ti ((gA_sI))).trans ?_; refine (q9415 i i0 i1).trans ?_; exact RFI.n (by omega) (by omega) q9412 (by omega) rfl (fun k => absurd k.1 (fun h => by have h2 : x9384.toInt + 6 ≤ (gI g0 231 8).toInt ∧ (eA g9386 233 1).toInt < 8 ∧ (1 ≤ (eA g0 236 x9384.toInt).toInt ∧ (eA g0 236 x9384.toInt).toInt ≤ 9) ∧ (0 ≤ (eA g0 236 (x9384.toInt + 3)).toInt ∧ (eA g0 236 (x9384.toInt + 3)).toInt ≤ 99) ∧ (0 ≤ (eA g0 236 (x9384.toInt + 4)).toInt ∧ (eA g0 236 (x9384.toInt + 4)).toInt ≤ 9) ∧ (0 ≤ (eA g0 236 (x9384.toInt + 5)).toInt ∧ (eA g0 236 (x9384.toInt + 5)).toInt ≤ 9999) ∧ (0 ≤ (eA g0 236 (x9384.toInt + 1)).toInt ∧ (eA g0 236 (x9384.toInt + 1)).toInt < (eA g0 233 0).toInt) ∧ (0 ≤ (eA g0 236 (x9384.toInt + 2)).toInt ∧ (eA g0 236 (x9384.toInt + 2)).toInt < (eA g0 233 0).toInt) := h; have y439_ := congrArg Int32.toInt hv9478; have y440_ := congrArg Int32.toInt hv9480; have y441_ := congrArg Int32.toInt hv9482; have y442_ := congrArg Int32.toInt hv9484; have y443_ := congrArg Int32.toInt hv9530; have y444_ := congrArg Int32.toInt hv9545; omega)))⟩ ⟨by omega, by omega⟩
                                · have c9554_ : v9546.toInt ≤ v9548.toInt := en_j_gt_f c9554
                                  refine At.enter rfl ?_
                                  refine r_iconst 1 rfl ?_
                                  refine r_goto ?_
                                  refine At.enter rfl ?_
                                  refine q_iretz (by decide) ?_
                                  refine At.enter rfl ?_
                                  refine q_iretz (by decide) ?_
                                  refine At.enter rfl ?_
                                  refine r_iff 136 rfl (by decide) ?_
                                  refine At.enter rfl ?_
                                  refine r_iconst 1 rfl ?_
                                  refine r_goto ?_
                                  refine At.enter rfl ?_
                                  refine r_istore _ rfl ?_
                                  refine r_iload (w_e1 _ _ _) ?_
                                  refine r_iff 148 rfl (by decide) ?_
                                  refine At.enter rfl ?_
                                  refine r_aload_n (w_p1 (by decide) (Or.inr rfl) (w_p1 (by decide) (Or.inr rfl) e9400)) ?_
                                  refine r_aload_n (w_p1 (by decide) (Or.inr rfl) (w_p1 (by decide) (Or.inr rfl) e9400)) ?_
                                  refine q_getR (Sh.ref hI9387.1 kx_231 rfl) ?_
                                  refine r_iload_n (w_p1 (by decide) (Or.inr rfl) (w_p1 (by decide) (Or.inr rfl) e9403)) ?_
                                  refine q_iald (Sh.arr hI9387.1 ka_236) x9384.toInt rfl (by omega) v9478 ((eA_c (hF9388.2.1 236 (by decide))).trans hv9478) ?_
                                  refine r_aload_n (w_p1 (by decide) (Or.inr rfl) (w_p1 (by decide) (Or.inr rfl) e9400)) ?_
                                  refine q_getR (Sh.ref hI9387.1 kx_231 rfl) ?_
                                  refine r_iload_n (w_p1 (by decide) (Or.inr rfl) (w_p1 (by decide) (Or.inr rfl) e9403)) ?_
                                  refine r_iconst 1 rfl ?_
                                  refine q_iadd (x9384.toInt + 1) rfl (by omega) (fun v9559 hv9559 => ?_)
                                  refine q_iald (Sh.arr hI9387.1 ka_236) (x9384.toInt + 1) (by omega) (by omega) v9530 ((eA_c (hF9388.2.1 236 (by decide))).trans hv9530) ?_
                                  refine r_aload_n (w_p1 (by decide) (Or.inr rfl) (w_p1 (by decide) (Or.inr rfl) e9400)) ?_
                                  refine q_getR (Sh.ref hI9387.1 kx_231 rfl) ?_
                                  refine r_iload_n (w_p1 (by decide) (Or.inr rfl) (w_p1 (by decide) (Or.inr rfl) e9403)) ?_
                                  refine r_iconst 2 rfl ?_
                                  refine q_iadd (x9384.toInt + 2) rfl (by omega) (fun v9560 hv9560 => ?_)
                                  refine q_iald (Sh.arr hI9387.1 ka_236) (x9384.toInt + 2) (by omega) (by omega) v9545 ((eA_c (hF9388.2.1 236 (by decide))).trans hv9545) ?_
                                  refine r_aload_n (w_p1 (by decide) (Or.inr rfl) (w_p1 (by decide) (Or.inr rfl) e9400)) ?_
                                  refine q_getR (Sh.ref hI9387.1 kx_231 rfl) ?_
                                  refine r_iload_n (w_p1 (by decide) (Or.inr rfl) (w_p1 (by decide) (Or.inr rfl) e9403)) ?_
                                  refine r_iconst 3 rfl ?_
                                  refine q_iadd (x9384.toInt + 3) rfl (by omega) (fun v9561 hv9561 => ?_)
                                  refine q_iald (Sh.arr hI9387.1 ka_236) (x9384.toInt + 3) (by omega) (by omega) v9480 ((eA_c (hF9388.2.1 236 (by decide))).trans hv9480) ?_
                                  refine r_aload_n (w_p1 (by decide) (Or.inr rfl) (w_p1 (by decide) (Or.inr rfl) e9400)) ?_
                                  refine q_getR (Sh.ref hI9387.1 kx_231 rfl) ?_
                                  refine r_iload_n (w_p1 (by decide) (Or.inr rfl) (w_p1 (by decide) (Or.inr rfl) e9403)) ?_
                                  refine r_iconst 4 rfl ?_
                                  refine q_iadd (x9384.toInt + 4) rfl (by omega) (fun v9562 hv9562 => ?_)
                                  refine q_iald (Sh.arr hI9387.1 ka_236) (x9384.toInt + 4) (by omega) (by omega) v9482 ((eA_c (hF9388.2.1 236 (by decide))).trans hv9482) ?_
                                  refine r_aload_n (w_p1 (by decide) (Or.inr rfl) (w_p1 (by decide) (Or.inr rfl) e9400)) ?_
                                  refine q_getR (Sh.ref hI9387.1 kx_231 rfl) ?_
                                  refine r_iload_n (w_p1 (by decide) (Or.inr rfl) (w_p1 (by decide) (Or.inr rfl) e9403)) ?_
                                  refine r_iconst 5 rfl ?_
                                  refine q_iadd (x9384.toInt + 5) rfl (by omega) (fun v9563 hv9563 => ?_)
                                  refine q_iald (Sh.arr hI9387.1 ka_236) (x9384.toInt + 5) (by omega) (by omega) v9484 ((eA_c (hF9388.2.1 236 (by decide))).trans hv9484) ?_
                                  have x9564 := HI.eqA hI9387 (p := 233) (j := 0) (e9394)
                                  have x9565 := HI.eqA hI9387 (p := 233) (j := 1) (hv9472)
                                  refine r_callV 198 rfl [.ref 231, .int v9478, .int v9530, .int v9545, .int v9480, .int v9482, .int v9484] [] (Nat.le_of_ble_eq_true rfl) rfl (T_X11_addLoad_231 _ hI9387 v9478 (by omega) v9530 (by omega) v9545 (by omega) v9480 (by omega) v9482 (by omega) v9484 (by omega) (by omega) (by omega) (by omega)) ?_
                                  rintro _ _ ⟨g9566, rfl, hI9567, hF9568, rfl, hr9570⟩
                                  refine At.stn ?_
                                  have hF9571 := Fr.tr hF9388 hF9568 rfl rfl
                                  obtain ⟨v9572, hv9572⟩ : ∃ v, eA g9566 233 1 = v := ⟨_, rfl⟩
                                  have y9573 := hr9570.2.1
                                  have tv9572 := congrArg Int32.toInt hv9572
                                  have x9574 := HI.eqA hI9387 (p := 233) (j := 1) (hv9472)
                                  have lw_v9572 := fun i h0 h1 => congrArg Int32.toInt (hr9570.1 i (Int.le_trans (by decide) h0) h1 (fun e => absurd (e ▸ h0 : (10 : Int) ≤ 1) (by decide)))
                                  refine At.enter rfl ?_
                                  refine q_iinc (w_p1 (by decide) (Or.inr rfl) (w_p1 (by decide) (Or.inr rfl) e9402)) (x9383.toInt + 1) rfl (by omega) (fun v9575 hv9575 => ?_)
                                  refine r_goto ?_
                                  refine At.enter rfl ?_
                                  refine q_iinc (w_p1 (by decide) (Or.inr rfl) (w_p1 (by decide) (Or.inr rfl) (w_p1 (by decide) (Or.inr rfl) e9403))) (x9384.toInt + 6) rfl (by omega) (fun v9576 hv9576 => ?_)
                                  refine r_goto ?_
                                  exact ih9391 (405 - v9576.toInt) _ _ ⟨v9575, v9576, x9385, by first | rfl | omega, hI9567, hF9571, ((hF9568.1 231 6 mf_X11_addLoad_231_231_6).trans e9392), ((hF9568.1 231 8 mf_X11_addLoad_231_231_8).trans e9393), ((hr9570.1 0 (by decide) (by decide) (by decide)).trans e9394), ((hr9570.1 4 (by decide) (by decide) (by decide)).trans e9395), ((hr9570.1 5 (by decide) (by decide) (by decide)).trans e9396), ((hr9570.1 6 (by decide) (by decide) (by decide)).trans e9397), ((hr9570.1 2 (by decide) (by decide) (by decide)).trans e9398), ((hr9570.1 3 (by decide) (by decide) (by decide)).trans e9399), (w_p1 (by decide) (Or.inr rfl) (w_p1 (by decide) (Or.inr rfl) (w_p1 (by decide) (Or.inr rfl) (w_p1 (by decide) (Or.inr rfl) e9400)))), (w_p1 (by decide) (Or.inr rfl) (w_p1 (by decide) (Or.inr rfl) (w_p1 (by decide) (Or.inr rfl) (w_p1 (by decide) (Or.inr rfl) e9401)))), (w_p1 (by decide) (Or.inr rfl) (w_e1 _ _ _)), (w_e1 _ _ _), by omega, by omega, by omega, by omega, (by intro i i0 i1; (first | (refine ((lw_v9572 (i) (by first | exact i0 | omega) (by first | exact i1 | omega))).trans ?_; (first | (refine ((q9408 ((i)) (by omega) (by omega))).trans ?_; (first | with_reducible rfl | omega | exact eA_ix (by omega) | rfl)) | (refine ((q9409 ((i)) (by omega) (by omega))).trans ?_; (first | with_reducible rfl | omega | exact eA_ix (by omega) | rfl)) | (refine ((q9415 ((i)) (by omega) (by omega))).trans ?_; (first | with_reducible rfl | omega | exact eA_ix (by omega) | rfl)))) | (refine ((hr9570.2.2.1 (i) (by first | exact i0 | omega) (by first | exact i1 | omega))).trans ?_; (first | (refine ((q9408 ((i)) (by omega) (by omega))).trans ?_; (first | with_reducible rfl | omega | exact eA_ix (by omega) | rfl)) | (refine ((q9409 ((i)) (by omega) (by omega))).trans ?_; (first | with_reducible rfl | omega | exact eA_ix (by omega) | rfl)) | (refine ((q9415 ((i)) (by omega) (by omega))).trans ?_; (first | with_reducible rfl | omega | exact eA_ix (by omega) | rfl)))) | (refine ((hr9570.2.2.2 (i) (by first | exact i0 | omega) (by first | exact i1 | omega))).trans ?_; exact (Decidable.em ((i) = 46 + 6 * (eA g9386 233 1).toInt + 0)).elim (fun k445_ => by refine (if_pos k445_).trans ?_; (first | with_reducible rfl | omega | exact eA_ix (by omega) | rfl)) (fun k445_ => by refine (if_neg k445_).trans ?_; exact (Decidable.em ((i) = 46 + 6 * (eA g9386 233 1).toInt + 1)).elim (fun k446_ => by refine (if_pos k446_).trans ?_; (first | with_reducible rfl | omega | exact eA_ix (by omega) | rfl)) (fun k446_ => by refine (if_neg k446_).trans ?_; exact (Decidable.em ((i) = 46 + 6 * (eA g9386 233 1).toInt + 2)).elim (fun k447_ => by refine (if_pos k447_).trans ?_; (first | with_reducible rfl | omega | exact eA_ix (by omega) | rfl)) (fun k447_ => by refine (if_neg k447_).trans ?_; exact (Decidable.em ((i) = 46 + 6 * (eA g9386 233 1).toInt + 3)).elim (fun k448_ => by refine (if_pos k448_).trans ?_; (first | with_reducible rfl | omega | exact eA_ix (by omega) | rfl)) (fun k448_ => by refine (if_neg k448_).trans ?_; exact (Decidable.em ((i) = 46 + 6 * (eA g9386 233 1).toInt + 4)).elim (fun k449_ => by refine (if_pos k449_).trans ?_; (first | with_reducible rfl | omega | exact eA_ix (by omega) | rfl)) (fun k449_ => by refine (if_neg k449_).trans ?_; exact (Decidable.em ((i) = 46 + 6 * (eA g9386 233 1).toInt + 5)).elim (fun k450_ => by refine (if_pos k450_).trans ?_; (first | with_reducible rfl | omega | exact eA_ix (by omega) | rfl)) (fun k450_ => by refine (if_neg k450_).trans ?_; (first | (refine ((q9408 ((i)) (by omega) (by omega))).trans ?_; (first | with_reducible rfl | omega | exact eA_ix (by omega) | rfl)) | (refine ((q9409 ((i)) (by omega) (by omega))).trans ?_; (first | with_reducible rfl | omega | exact eA_ix (by omega) | rfl)) | (refine ((q9415 ((i)) (by omega) (by omega))).trans ?_; (first | with_reducible rfl | omega | exact eA_ix (by omega) | rfl)))))))))))), (by intro i i0 i1; (first | (refine ((hr9570.2.2.1 (i) (by first | exact i0 | omega) (by first | exact i1 | omega))).trans ?_; (first | (refine ((q9408 ((i)) (by omega) (by omega))).trans ?_; (first | with_reducible rfl | omega | exact eA_ix (by omega) | rfl)) | (refine ((q9409 ((i)) (by omega) (by omega))).trans ?_; (first | with_reducible rfl | omega | exact eA_ix (by omega) | rfl)) | (refine ((q9415 ((i)) (by omega) (by omega))).trans ?_; (first | with_reducible rfl | omega | exact eA_ix (by omega) | rfl)))) | (refine ((hr9570.2.2.2 (i) (by first | exact i0 | omega) (by first | exact i1 | omega))).trans ?_; exact (Decidable.em ((i) = 46 + 6 * (eA g9386 233 1).toInt + 0)).elim (fun k451_ => by refine (if_pos k451_).trans ?_; (first | with_reducible rfl | omega | exact eA_ix (by omega) | rfl)) (fun k451_ => by refine (if_neg k451_).trans ?_; exact (Decidable.em ((i) = 46 + 6 * (eA g9386 233 1).toInt + 1)).elim (fun k452_ => by refine (if_pos k452_).trans ?_; (first | with_reducible rfl | omega | exact eA_ix (by omega) | rfl)) (fun k452_ => by refine (if_neg k452_).trans ?_; exact (Decidable.em ((i) = 46 + 6 * (eA g9386 233 1).toInt + 2)).elim (fun k453_ => by refine (if_pos k453_).trans ?_; (first | with_reducible rfl | omega | exact eA_ix (by omega) | rfl)) (fun k453_ => by refine (if_neg k453_).trans ?_; exact (Decidable.em ((i) = 46 + 6 * (eA g9386 233 1).toInt + 3)).elim (fun k454_ => by refine (if_pos k454_).trans ?_; (first | with_reducible rfl | omega | exact eA_ix (by omega) | rfl)) (fun k454_ => by refine (if_neg k454_).trans ?_; exact (Decidable.em ((i) = 46 + 6 * (eA g9386 233 1).toInt + 4)).elim (fun k455_ => by refine (if_pos k455_).trans ?_; (first | with_reducible rfl | omega | exact eA_ix (by omega) | rfl)) (fun k455_ => by refine (if_neg k455_).trans ?_; exact (Decidable.em ((i) = 46 + 6 * (eA g9386 233 1).toInt + 5)).elim (fun k456_ => by refine (if_pos k456_).trans ?_; (first | with_reducible rfl | omega | exact eA_ix (by omega) | rfl)) (fun k456_ => by refine (if_neg k456_).trans ?_; (first | (refine ((q9408 ((i)) (by omega) (by omega))).trans ?_; (first | with_reducible rfl | omega | exact eA_ix (by omega) | rfl)) | (refine ((q9409 ((i)) (by omega) (by omega))).trans ?_; (first | with_reducible rfl | omega | exact eA_ix (by omega) | rfl)) | (refine ((q9415 ((i)) (by omega) (by omega))).trans ?_; (first | with_reducible rfl | omega | exact eA_ix (by omega) | rfl)))))))))) | (refine ((lw_v9572 (i) (by first | exact i0 | omega) (by first | exact i1 | omega))).trans ?_; (first | (refine ((q9408 ((i)) (by omega) (by omega))).trans ?_; (first | with_reducible rfl | omega | exact eA_ix (by omega) | rfl)) | (refine ((q9409 ((i)) (by omega) (by omega))).trans ?_; (first | with_reducible rfl | omega | exact eA_ix (by omega) | rfl)) | (refine ((q9415 ((i)) (by omega) (by omega))).trans ?_; (first | with_reducible rfl | omega | exact eA_ix (by omega) | rfl)))))), by omega, by omega, (RLI.y (by omega) (by omega) q9412 (show x9384.toInt + 6 ≤ (gI g0 231 8).toInt ∧ (eA g9386 233 1).toInt < 8 ∧ (1 ≤ (eA g0 236 x9384.toInt).toInt ∧ (eA g0 236 x9384.toInt).toInt ≤ 9) ∧ (0 ≤ (eA g0 236 (x9384.toInt + 3)).toInt ∧ (eA g0 236 (x9384.toInt + 3)).toInt ≤ 99) ∧ (0 ≤ (eA g0 236 (x9384.toInt + 4)).toInt ∧ (eA g0 236 (x9384.toInt + 4)).toInt ≤ 9) ∧ (0 ≤ (eA g0 236 (x9384.toInt + 5)).toInt ∧ (eA g0 236 (x9384.toInt + 5)).toInt ≤ 9999) ∧ (0 ≤ (eA g0 236 (x9384.toInt + 1)).toInt ∧ (eA g0 236 (x9384.toInt + 1)).toInt < (eA g0 233 0).toInt) ∧ (0 ≤ (eA g0 236 (x9384.toInt + 2)).toInt ∧ (eA g0 236 (x9384.toInt + 2)).toInt < (eA g0 233 0).toInt) from by have y457_ := congrArg Int32.toInt hv9478; have y458_ := congrArg Int32.toInt hv9480; have y459_ := congrArg Int32.toInt hv9482; have y460_ := congrArg Int32.toInt hv9484; have y461_ := congrArg Int32.toInt hv9530; have y462_ := congrArg Int32.toInt hv9545; omega) (by omega) (by omega)), (by omega), by omega, (by intro i i0 i1; refine (hr9570.2.2.2 i i0 i1).trans ?_; exact (Decidable.em (i = 46 + 6 * (eA g9386 233 1).toInt + 0)).elim (fun k475_ => by refine (if_pos k475_).trans ?_; refine Eq.trans ?_ (RFI.y (by omega) (by omega) q9412 (show x9384.toInt + 6 ≤ (gI g0 231 8).toInt ∧ (eA g9386 233 1).toInt < 8 ∧ (1 ≤ (eA g0 236 x9384.toInt).toInt ∧ (eA g0 236 x9384.toInt).toInt ≤ 9) ∧ (0 ≤ (eA g0 236 (x9384.toInt + 3)).toInt ∧ (eA g0 236 (x9384.toInt + 3)).toInt ≤ 99) ∧ (0 ≤ (eA g0 236 (x9384.toInt + 4)).toInt ∧ (eA g0 236 (x9384.toInt + 4)).toInt ≤ 9) ∧ (0 ≤ (eA g0 236 (x9384.toInt + 5)).toInt ∧ (eA g0 236 (x9384.toInt + 5)).toInt ≤ 9999) ∧ (0 ≤ (eA g0 236 (x9384.toInt + 1)).toInt ∧ (eA g0 236 (x9384.toInt + 1)).toInt < (eA g0 233 0).toInt) ∧ (0 ≤ (eA g0 236 (x9384.toInt + 2)).toInt ∧ (eA g0 236 (x9384.toInt + 2)).toInt < (eA g0 233 0).toInt) from by have y463_ := congrArg Int32.toInt hv9478; have y464_ := congrArg Int32.toInt hv9480; have y465_ := congrArg Int32.toInt hv9482; have y466_ := congrArg Int32.toInt hv9484; have y467_ := congrArg Int32.toInt hv9530; have y468_ := congrArg Int32.toInt hv9545; omega) (by omega) (by omega)); refine Eq.trans ?_ (eA_ix (g := g0) (p := 236) (show x9384.toInt = x9384.toInt + (i - 46 - 6 * (eA g9386 233 1).toInt) from by omega)); have y469_ := congrArg Int32.toInt hv9478; have y470_ := congrArg Int32.toInt hv9480; have y471_ := congrArg Int32.toInt hv9482; have y472_ := congrArg Int32.toInt hv9484; have y473_ := congrArg Int32.toInt hv9530; have y474_ := congrArg Int32.toInt hv9545; omega) (fun k475_ => by refine (if_neg k475_).trans ?_; exact (Decidable.em (i = 46 + 6 * (eA g9386 233 1).toInt + 1)).elim (fun k476_ => by refine (if_pos k476_).trans ?_; refine Eq.trans ?_ (RFI.y (by omega) (by omega) q9412 (show x9384.toInt + 6 ≤ (gI g0 231 8).toInt ∧ (eA g9386 233 1).toInt < 8 ∧ (1 ≤ (eA g0 236 x9384.toInt).toInt ∧ (eA g0 236 x9384.toInt).toInt ≤ 9) ∧ (0 ≤ (eA g0 236 (x9384.toInt + 3)).toInt ∧ (eA g0 236 (x9384.toInt + 3)).toInt ≤ 99) ∧ (0 ≤ (eA g0 236 (x9384.toInt + 4)).toInt ∧ (eA g0 236 (x9384.toInt + 4)).toInt ≤ 9) ∧ (0 ≤ (eA g0 236 (x9384.toInt + 5)).toInt ∧ (eA g0 236 (x9384.toInt + 5)).toInt ≤ 9999) ∧ (0 ≤ (eA g0 236 (x9384.toInt + 1)).toInt ∧ (eA g0 236 (x9384.toInt + 1)).toInt < (eA g0 233 0).toInt) ∧ (0 ≤ (eA g0 236 (x9384.toInt + 2)).toInt ∧ (eA g0 236 (x9384.toInt + 2)).toInt < (eA g0 233 0).toInt) from by have y463_ := congrArg Int32.toInt hv9478; have y464_ := congrArg Int32.toInt hv9480; have y465_ := congrArg Int32.toInt hv9482; have y466_ := congrArg Int32.toInt hv9484; have y467_ := congrArg Int32.toInt hv9530; have y468_ := congrArg Int32.toInt hv9545; omega) (by omega) (by omega)); refine Eq.trans ?_ (eA_ix (g := g0) (p := 236) (show x9384.toInt + 1 = x9384.toInt + (i - 46 - 6 * (eA g9386 233 1).toInt) from by omega)); have y469_ := congrArg Int32.toInt hv9478; have y470_ := congrArg Int32.toInt hv9480; have y471_ := congrArg Int32.toInt hv9482; have y472_ := congrArg Int32.toInt hv9484; have y473_ := congrArg Int32.toInt hv9530; have y474_ := congrArg Int32.toInt hv9545; omega) (fun k476_ => by refine (if_neg k476_).trans ?_; exact (Decidable.em (i = 46 + 6 * (eA g9386 233 1).toInt + 2)).elim (fun k477_ => by refine (if_pos k477_).trans ?_; refine Eq.trans ?_ (RFI.y (by omega) (by omega) q9412 (show x9384.toInt + 6 ≤ (gI g0 231 8).toInt ∧ (eA g9386 233 1).toInt < 8 ∧ (1 ≤ (eA g0 236 x9384.toInt).toInt ∧ (eA g0 236 x9384.toInt).toInt ≤ 9) ∧ (0 ≤ (eA g0 236 (x9384.toInt + 3)).toInt ∧ (eA g0 236 (x9384.toInt + 3)).toInt ≤ 99) ∧ (0 ≤ (eA g0 236 (x9384.toInt + 4)).toInt ∧ (eA g0 236 (x9384.toInt + 4)).toInt ≤ 9) ∧ (0 ≤ (eA g0 236 (x9384.toInt + 5)).toInt ∧ (eA g0 236 (x9384.toInt + 5)).toInt ≤ 9999) ∧ (0 ≤ (eA g0 236 (x9384.toInt + 1)).toInt ∧ (eA g0 236 (x9384.toInt + 1)).toInt < (eA g0 233 0).toInt) ∧ (0 ≤ (eA g0 236 (x9384.toInt + 2)).toInt ∧ (eA g0 236 (x9384.toInt + 2)).toInt < (eA g0 233 0).toInt) from by have y463_ := congrArg Int32.toInt hv9478; have y464_ := congrArg Int32.toInt hv9480; have y465_ := congrArg Int32.toInt hv9482; have y466_ := congrArg Int32.toInt hv9484; have y467_ := congrArg Int32.toInt hv9530; have y468_ := congrArg Int32.toInt hv9545; omega) (by omega) (by omega)); refine Eq.trans ?_ (eA_ix (g := g0) (p := 236) (show x9384.toInt + 2 = x9384.toInt + (i - 46 - 6 * (eA g9386 233 1).toInt) from by omega)); have y469_ := congrArg Int32.toInt hv9478; have y470_ := congrArg Int32.toInt hv9480; have y471_ := congrArg Int32.toInt hv9482; have y472_ := congrArg Int32.toInt hv9484; have y473_ := congrArg Int32.toInt hv9530; have y474_ := congrArg Int32.toInt hv9545; omega) (fun k477_ => by refine (if_neg k477_).trans ?_; exact (Decidable.em (i = 46 + 6 * (eA g9386 233 1).toInt + 3)).elim (fun k478_ => by refine (if_pos k478_).trans ?_; refine Eq.trans ?_ (RFI.y (by omega) (by omega) q9412 (show x9384.toInt + 6 ≤ (gI g0 231 8).toInt ∧ (eA g9386 233 1).toInt < 8 ∧ (1 ≤ (eA g0 236 x9384.toInt).toInt ∧ (eA g0 236 x9384.toInt).toInt ≤ 9) ∧ (0 ≤ (eA g0 236 (x9384.toInt + 3)).toInt ∧ (eA g0 236 (x9384.toInt + 3)).toInt ≤ 99) ∧ (0 ≤ (eA g0 236 (x9384.toInt + 4)).toInt ∧ (eA g0 236 (x9384.toInt + 4)).toInt ≤ 9) ∧ (0 ≤ (eA g0 236 (x9384.toInt + 5)).toInt ∧ (eA g0 236 (x9384.toInt + 5)).toInt ≤ 9999) ∧ (0 ≤ (eA g0 236 (x9384.toInt + 1)).toInt ∧ (eA g0 236 (x9384.toInt + 1)).toInt < (eA g0 233 0).toInt) ∧ (0 ≤ (eA g0 236 (x9384.toInt + 2)).toInt ∧ (eA g0 236 (x9384.toInt + 2)).toInt < (eA g0 233 0).toInt) from by have y463_ := congrArg Int32.toInt hv9478; have y464_ := congrArg Int32.toInt hv9480; have y465_ := congrArg Int32.toInt hv9482; have y466_ := congrArg Int32.toInt hv9484; have y467_ := congrArg Int32.toInt hv9530; have y468_ := congrArg Int32.toInt hv9545; omega) (by omega) (by omega)); refine Eq.trans ?_ (eA_ix (g := g0) (p := 236) (show x9384.toInt + 3 = x9384.toInt + (i - 46 - 6 * (eA g9386 233 1).toInt) from by omega)); have y469_ := congrArg Int32.toInt hv9478; have y470_ := congrArg Int32.toInt hv9480; have y471_ := congrArg Int32.toInt hv9482; have y472_ := congrArg Int32.toInt hv9484; have y473_ := congrArg Int32.toInt hv9530; have y474_ := congrArg Int32.toInt hv9545; omega) (fun k478_ => by refine (if_neg k478_).trans ?_; exact (Decidable.em (i = 46 + 6 * (eA g9386 233 1).toInt + 4)).elim (fun k479_ => by refine (if_pos k479_).trans ?_; refine Eq.trans ?_ (RFI.y (by omega) (by omega) q9412 (show x9384.toInt + 6 ≤ (gI g0 231 8).toInt ∧ (eA g9386 233 1).toInt < 8 ∧ (1 ≤ (eA g0 236 x9384.toInt).toInt ∧ (eA g0 236 x9384.toInt).toInt ≤ 9) ∧ (0 ≤ (eA g0 236 (x9384.toInt + 3)).toInt ∧ (eA g0 236 (x9384.toInt + 3)).toInt ≤ 99) ∧ (0 ≤ (eA g0 236 (x9384.toInt + 4)).toInt ∧ (eA g0 236 (x9384.toInt + 4)).toInt ≤ 9) ∧ (0 ≤ (eA g0 236 (x9384.toInt + 5)).toInt ∧ (eA g0 236 (x9384.toInt + 5)).toInt ≤ 9999) ∧ (0 ≤ (eA g0 236 (x9384.toInt + 1)).toInt ∧ (eA g0 236 (x9384.toInt + 1)).toInt < (eA g0 233 0).toInt) ∧ (0 ≤ (eA g0 236 (x9384.toInt + 2)).toInt ∧ (eA g0 236 (x9384.toInt + 2)).toInt < (eA g0 233 0).toInt) from by have y463_ := congrArg Int32.toInt hv9478; have y464_ := congrArg Int32.toInt hv9480; have y465_ := congrArg Int32.toInt hv9482; have y466_ := congrArg Int32.toInt hv9484; have y467_ := congrArg Int32.toInt hv9530; have y468_ := congrArg Int32.toInt hv9545; omega) (by omega) (by omega)); refine Eq.trans ?_ (eA_ix (g := g0) (p := 236) (show x9384.toInt + 4 = x9384.toInt + (i - 46 - 6 * (eA g9386 233 1).toInt) from by omega)); have y469_ := congrArg Int32.toInt hv9478; have y470_ := congrArg Int32.toInt hv9480; have y471_ := congrArg Int32.toInt hv9482; have y472_ := congrArg Int32.toInt hv9484; have y473_ := congrArg Int32.toInt hv9530; have y474_ := congrArg Int32.toInt hv9545; omega) (fun k479_ => by refine (if_neg k479_).trans ?_; exact (Decidable.em (i = 46 + 6 * (eA g9386 233 1).toInt + 5)).elim (fun k480_ => by refine (if_pos k480_).trans ?_; refine Eq.trans ?_ (RFI.y (by omega) (by omega) q9412 (show x9384.toInt + 6 ≤ (gI g0 231 8).toInt ∧ (eA g9386 233 1).toInt < 8 ∧ (1 ≤ (eA g0 236 x9384.toInt).toInt ∧ (eA g0 236 x9384.toInt).toInt ≤ 9) ∧ (0 ≤ (eA g0 236 (x9384.toInt + 3)).toInt ∧ (eA g0 236 (x9384.toInt + 3)).toInt ≤ 99) ∧ (0 ≤ (eA g0 236 (x9384.toInt + 4)).toInt ∧ (eA g0 236 (x9384.toInt + 4)).toInt ≤ 9) ∧ (0 ≤ (eA g0 236 (x9384.toInt + 5)).toInt ∧ (eA g0 236 (x9384.toInt + 5)).toInt ≤ 9999) ∧ (0 ≤ (eA g0 236 (x9384.toInt + 1)).toInt ∧ (eA g0 236 (x9384.toInt + 1)).toInt < (eA g0 233 0).toInt) ∧ (0 ≤ (eA g0 236 (x9384.toInt + 2)).toInt ∧ (eA g0 236 (x9384.toInt + 2)).toInt < (eA g0 233 0).toInt) from by have y463_ := congrArg Int32.toInt hv9478; have y464_ := congrArg Int32.toInt hv9480; have y465_ := congrArg Int32.toInt hv9482; have y466_ := congrArg Int32.toInt hv9484; have y467_ := congrArg Int32.toInt hv9530; have y468_ := congrArg Int32.toInt hv9545; omega) (by omega) (by omega)); refine Eq.trans ?_ (eA_ix (g := g0) (p := 236) (show x9384.toInt + 5 = x9384.toInt + (i - 46 - 6 * (eA g9386 233 1).toInt) from by omega)); have y469_ := congrArg Int32.toInt hv9478; have y470_ := congrArg Int32.toInt hv9480; have y471_ := congrArg Int32.toInt hv9482; have y472_ := congrArg Int32.toInt hv9484; have y473_ := congrArg Int32.toInt hv9530; have y474_ := congrArg Int32.toInt hv9545; omega) (fun k480_ => by refine (if_neg k480_).trans ?_; refine (eA_ti (rfl)).trans ?_; refine (q9415 i i0 i1).trans ?_; exact RFI.n (by omega) (by omega) q9412 (by omega) rfl (fun k => absurd k.2 (by omega)))))))))⟩ ⟨by omega, by omega⟩
  · have c6380_ : v6377.toInt = 0 := en_k_ne_f c6380
    refine At.enter rfl ?_
    refine r_aload_n rfl ?_
    refine r_bipush (-6) rfl ?_
    refine r_callV 25 rfl [.ref 231, .int (-6)] [] (Nat.le_of_ble_eq_true rfl) rfl (T_X11_tell_231 _ hI6378 (-6) (by decide)) ?_
    rintro _ _ ⟨g9577, rfl, hI9578, hF9579, v9580, rfl, hr9581⟩
    refine At.sti ?_
    have hF9582 := Fr.tr hF6379 hF9579 rfl rfl
    have zv9583 : ((-6) : Int32).toInt = (-6) := rfl
    refine At.enter rfl ?_
    refine r_ireti ?_
    obtain ⟨v9584, hv9584⟩ : ∃ v, eA g0 233 1 = v := ⟨_, rfl⟩
    have tv9584 := congrArg Int32.toInt hv9584
    have wv9584 := HI.t1 hI0
    rw [hv9584] at wv9584
    have tv9584 := congrArg Int32.toInt hv9584
    have x9585 := HI.eqA hI9578 (p := 233) (j := 1) ((((eA_c (hF9579.2.1 233 ma_X11_tell_231_233)).trans ((eA_c gA_sI).trans (eA_c gA_sI))).trans hv9584))
    have x9586 := HI.eqA hI0 (p := 233) (j := 1) (hv9584)
    have x9587 := HI.eqI hI9578 (p := 231) (b := 8) (((hF9579.1 231 8 mf_X11_tell_231_231_8).trans (gI_sI_eq hI6375.1 kx_231 rfl _)))
    have zv9588 : (0 : Int32).toInt = 0 := rfl
    have x9589 := HI.eqI hI0 (p := 231) (b := 8) (hv6377)
    obtain ⟨v9590, hv9590⟩ : ∃ v, gI g0 231 6 = v := ⟨_, rfl⟩
    have tv9590 := congrArg Int32.toInt hv9590
    have x9591 := HI.eqI hI9578 (p := 231) (b := 6) ((((hF9579.1 231 6 mf_X11_tell_231_231_6).trans ((gI_sI_ne (by decide)).trans (gI_sI_ne (by decide)))).trans hv9590))
    obtain ⟨v9593, hv9593⟩ : ∃ v, eA g0 233 0 = v := ⟨_, rfl⟩
    have tv9593 := congrArg Int32.toInt hv9593
    have wv9593 := HI.t0 hI0
    rw [hv9593] at wv9593
    have tv9593 := congrArg Int32.toInt hv9593
    have x9594 := HI.eqA hI9578 (p := 233) (j := 0) ((((eA_c (hF9579.2.1 233 ma_X11_tell_231_233)).trans ((eA_c gA_sI).trans (eA_c gA_sI))).trans hv9593))
    have x9595 := HI.eqA hI0 (p := 233) (j := 0) (hv9593)
    obtain ⟨v9596, hv9596⟩ : ∃ v, eA g0 233 4 = v := ⟨_, rfl⟩
    have wv9596 := HI.t4 hI0
    rw [hv9596] at wv9596
    have tv9596 := congrArg Int32.toInt hv9596
    have x9597 := HI.eqA hI9578 (p := 233) (j := 4) ((((eA_c (hF9579.2.1 233 ma_X11_tell_231_233)).trans ((eA_c gA_sI).trans (eA_c gA_sI))).trans hv9596))
    have x9598 := HI.eqA hI0 (p := 233) (j := 4) (hv9596)
    obtain ⟨v9599, hv9599⟩ : ∃ v, eA g0 233 5 = v := ⟨_, rfl⟩
    have wv9599 := HI.t5 hI0
    rw [hv9599] at wv9599
    have tv9599 := congrArg Int32.toInt hv9599
    have x9600 := HI.eqA hI9578 (p := 233) (j := 5) ((((eA_c (hF9579.2.1 233 ma_X11_tell_231_233)).trans ((eA_c gA_sI).trans (eA_c gA_sI))).trans hv9599))
    have x9601 := HI.eqA hI0 (p := 233) (j := 5) (hv9599)
    obtain ⟨v9602, hv9602⟩ : ∃ v, eA g0 233 6 = v := ⟨_, rfl⟩
    have wv9602 := HI.t6 hI0
    rw [hv9602] at wv9602
    have tv9602 := congrArg Int32.toInt hv9602
    have x9603 := HI.eqA hI9578 (p := 233) (j := 6) ((((eA_c (hF9579.2.1 233 ma_X11_tell_231_233)).trans ((eA_c gA_sI).trans (eA_c gA_sI))).trans hv9602))
    have x9604 := HI.eqA hI0 (p := 233) (j := 6) (hv9602)
    obtain ⟨v9605, hv9605⟩ : ∃ v, eA g0 233 2 = v := ⟨_, rfl⟩
    have tv9605 := congrArg Int32.toInt hv9605
    have wv9605 := HI.t2 hI0
    rw [hv9605] at wv9605
    have tv9605 := congrArg Int32.toInt hv9605
    have x9606 := HI.eqA hI9578 (p := 233) (j := 2) ((((eA_c (hF9579.2.1 233 ma_X11_tell_231_233)).trans ((eA_c gA_sI).trans (eA_c gA_sI))).trans hv9605))
    have x9607 := HI.eqA hI0 (p := 233) (j := 2) (hv9605)
    obtain ⟨v9608, hv9608⟩ : ∃ v, eA g0 233 3 = v := ⟨_, rfl⟩
    have wv9608 := HI.t3 hI0
    rw [hv9608] at wv9608
    have tv9608 := congrArg Int32.toInt hv9608
    have x9609 := HI.eqA hI9578 (p := 233) (j := 3) ((((eA_c (hF9579.2.1 233 ma_X11_tell_231_233)).trans ((eA_c gA_sI).trans (eA_c gA_sI))).trans hv9608))
    have x9610 := HI.eqA hI0 (p := 233) (j := 3) (hv9608)
    have x9611 := HI.eqA hI0 (p := 233) (j := 0) (hv9593)
    have y9612 := HI.eqA hI9578 (p := 233) (j := 1) (eA_c (j := 1) (((hF9579.2.1 233 ma_X11_tell_231_233).trans ((gA_sI).trans (gA_sI)))))
    exact ⟨_, rfl, hI9578, hF9582, _, rfl, by omega, ⟨⟨(by refine Eq.trans ?_ (RLI.z _ _ _ _ (by omega)); exact eA_ti (((hF9579.2.1 233 ma_X11_tell_231_233).trans ((gA_sI).trans (gA_sI))))), by omega, by omega, by omega, by omega, by omega, by omega, by omega, by omega, by omega⟩, (by intro i i0 i1; refine (eA_ti (((hF9579.2.1 233 ma_X11_tell_231_233).trans ((gA_sI).trans (gA_sI))))).trans ?_; (first | with_reducible rfl | omega | exact eA_ix (by omega) | rfl)), (by intro i i0 i1; refine (eA_ti (((hF9579.2.1 233 ma_X11_tell_231_233).trans ((gA_sI).trans (gA_sI))))).trans ?_; (first | with_reducible rfl | omega | exact eA_ix (by omega) | rfl)), (by intro i i0 i1; refine (eA_ti (((hF9579.2.1 233 ma_X11_tell_231_233).trans ((gA_sI).trans (gA_sI))))).trans ?_; refine (eA_ix (show i = 46 + (i - 46) from by omega)).trans ?_; exact RFI.z _ _ _ _ (fun i : Int => (eA g0 233 (46 + i)).toInt) (by omega) _)⟩⟩
