def F_X11_row_231 : List (Nat × Nat) := [(231, 0), (231, 1), (231, 6), (231, 8)]
def A_X11_row_231 : List Nat := [232, 233]
set_option maxRecDepth 100000 in
set_option maxHeartbeats 4000000 in
theorem T_X11_row_231 (d : Nat) {N : Nat} {g0 : List en_E} (hI0 : HI g0) : Ev (d + 3) 182 [.ref 231] (g0, N) (fun w h' => ∃ g', h' = (g', N) ∧ HI g' ∧ Fr F_X11_row_231 A_X11_row_231 g0 g' ∧ ∃ r : Int32, w = some (.int r) ∧ ((-6) ≤ r.toInt ∧ r.toInt ≤ 400) ∧ (((eA g' 233 1).toInt = RLI (fun i : Int => (eA g0 236 i).toInt) (gI g0 231 8).toInt (eA g0 233 0).toInt (eA g0 233 1).toInt (6 * (((gI g0 231 8).toInt + 5) / 6)) ∧ ((gI g0 231 8).toInt = 0 → r.toInt = -6 ∧ (gI g' 231 6).toInt = (gI g0 231 6).toInt) ∧ ((gI g0 231 8).toInt ≠ 0 → r.toInt = (eA g' 233 1).toInt - (eA g0 233 1).toInt ∧ (gI g' 231 6).toInt = (6 * (((gI g0 231 8).toInt + 5) / 6)) / 6 - r.toInt) ∧ (gI g' 231 8).toInt = 0 ∧ (eA g' 233 0).toInt = (eA g0 233 0).toInt ∧ (eA g' 233 4).toInt = (eA g0 233 4).toInt ∧ (eA g' 233 5).toInt = (eA g0 233 5).toInt ∧ (eA g' 233 6).toInt = (eA g0 233 6).toInt) ∧ (∀ i : Int, 10 ≤ i → i < 46 → (eA g' 233 (i)).toInt = (eA g0 233 (i)).toInt) ∧ (∀ i : Int, 94 ≤ i → i < 110 → (eA g' 233 (i)).toInt = (eA g0 233 (i)).toInt) ∧ (∀ i : Int, 46 ≤ i → i < 94 → (eA g' 233 (i)).toInt = RFI (fun i : Int => (eA g0 236 i).toInt) (gI g0 231 8).toInt (eA g0 233 0).toInt (eA g0 233 1).toInt (fun i : Int => (eA g0 233 (46 + i)).toInt) (6 * (((gI g0 231 8).toInt + 5) / 6)) (i - 46)))) := by
  have hF0 : Fr F_X11_row_231 A_X11_row_231 g0 g0 := Fr.rf
  refine Ev.mk rfl rfl ⟨Nat.le_of_ble_eq_true rfl, Or.inr (q_rc hI0.1 kx_231 rfl)⟩ ?_
  show At _ none _ _ (0, [(0, .ref 231)], [], (_, _)) _
  refine At.enter rfl ?_
  refine r_aload_n rfl ?_
  refine r_iconst 0 rfl ?_
  refine q_putI (Sh.int hI0.1 kx_231 rfl) rfl ?_
  have hI6413 := HI.wI0 hI0 kx_231 rfl (p := 231) (b := 0) (v := 0) rfl
  have hF6414 := Fr.wI (p := 231) (b := 0) (v := 0) hF0 rfl
  refine r_aload_n rfl ?_
  obtain ⟨v6415, hv6415⟩ : ∃ v, gI g0 231 8 = v := ⟨_, rfl⟩
  have rv6415 := RgF.at hI0.2.1 (p := 231) (b := 8) rfl
  rw [hv6415] at rv6415
  dsimp only at rv6415
  refine q_getI (Sh.int hI6413.1 kx_231 rfl) v6415 ((gI_sI_ne (by decide)).trans hv6415) ?_
  refine r_istore_n ([(1, .int v6415), (0, .ref 231)]) rfl ?_
  refine r_aload_n rfl ?_
  refine r_iconst 0 rfl ?_
  refine q_putI (Sh.int hI6413.1 kx_231 rfl) rfl ?_
  have hI6416 := HI.wI1 hI6413 kx_231 rfl (p := 231) (b := 8) (v := 0) rfl (by decide)
  have hF6417 := Fr.wI (p := 231) (b := 8) (v := 0) hF6414 rfl
  refine r_iload_n rfl ?_
  refine r_ifs 19 rfl (fun c6418 => ?_) (fun c6418 => ?_)
  · have c6418_ : v6415.toInt ≠ 0 := en_k_ne_t c6418
    refine At.enter rfl ?_
    refine r_aload_n rfl ?_
    refine r_iconst 0 rfl ?_
    refine q_putI (Sh.int hI6416.1 kx_231 rfl) rfl ?_
    have hI6419 := HI.wI0 hI6416 kx_231 rfl (p := 231) (b := 6) (v := 0) rfl
    have hF6420 := Fr.wI (p := 231) (b := 6) (v := 0) hF6417 rfl
    refine r_iconst 0 rfl ?_
    refine r_istore_n ([(2, .int 0), (1, .int v6415), (0, .ref 231)]) rfl ?_
    refine r_iconst 0 rfl ?_
    refine r_istore_n ([(3, .int 0), (2, .int 0), (1, .int v6415), (0, .ref 231)]) rfl ?_
    refine Ar.fall 35 rfl ?_
    obtain ⟨v6421, hv6421⟩ : ∃ v, eA g0 233 0 = v := ⟨_, rfl⟩
    have tv6421 := congrArg Int32.toInt hv6421
    have wv6421 := HI.t0 hI0
    rw [hv6421] at wv6421
    have tv6421 := congrArg Int32.toInt hv6421
    obtain ⟨v6422, hv6422⟩ : ∃ v, eA g0 233 4 = v := ⟨_, rfl⟩
    have wv6422 := HI.t4 hI0
    rw [hv6422] at wv6422
    have tv6422 := congrArg Int32.toInt hv6422
    obtain ⟨v6423, hv6423⟩ : ∃ v, eA g0 233 5 = v := ⟨_, rfl⟩
    have wv6423 := HI.t5 hI0
    rw [hv6423] at wv6423
    have tv6423 := congrArg Int32.toInt hv6423
    obtain ⟨v6424, hv6424⟩ : ∃ v, eA g0 233 6 = v := ⟨_, rfl⟩
    have wv6424 := HI.t6 hI0
    rw [hv6424] at wv6424
    have tv6424 := congrArg Int32.toInt hv6424
    have z_9474 : (0 : Int32).toInt = 0 := rfl
    have z_9475 : (0 : Int32).toInt = 0 := rfl
    have z_9476 : (0 : Int32).toInt = 0 := rfl
    have x9477 := HI.eqI hI0 (p := 231) (b := 8) (hv6415)
    obtain ⟨v9478, hv9478⟩ : ∃ v, gI g0 231 6 = v := ⟨_, rfl⟩
    have tv9478 := congrArg Int32.toInt hv9478
    have x9479 := HI.eqI hI0 (p := 231) (b := 6) (hv9478)
    have x9480 := HI.eqA hI6419 (p := 233) (j := 0) ((((eA_c gA_sI).trans ((eA_c gA_sI).trans (eA_c gA_sI))).trans hv6421))
    obtain ⟨v9481, hv9481⟩ : ∃ v, eA g0 233 1 = v := ⟨_, rfl⟩
    have tv9481 := congrArg Int32.toInt hv9481
    have wv9481 := HI.t1 hI0
    rw [hv9481] at wv9481
    have tv9481 := congrArg Int32.toInt hv9481
    have x9482 := HI.eqA hI6419 (p := 233) (j := 1) ((((eA_c gA_sI).trans ((eA_c gA_sI).trans (eA_c gA_sI))).trans hv9481))
    refine w_loopI (fun n_ l_ g_ => ∃ x9443 : Int32, ∃ x9444 : Int32, ∃ x9445 : Int32, n_ = 405 - x9444.toInt ∧ HI g_ ∧ Fr F_X11_row_231 A_X11_row_231 g0 g_ ∧ gI g_ 231 6 = x9445 ∧ gI g_ 231 8 = 0 ∧ eA g_ 233 0 = v6421 ∧ eA g_ 233 4 = v6422 ∧ eA g_ 233 5 = v6423 ∧ eA g_ 233 6 = v6424 ∧ en_get 0 l_ = some (.ref 231) ∧ en_get 1 l_ = some (.int v6415) ∧ en_get 2 l_ = some (.int x9443) ∧ en_get 3 l_ = some (.int x9444) ∧ (0 ≤ x9443.toInt ∧ x9443.toInt ≤ 400) ∧ (0 ≤ x9444.toInt ∧ x9444.toInt ≤ 405) ∧ (0 ≤ x9445.toInt ∧ x9445.toInt ≤ 400) ∧ (x9443.toInt ≤ x9444.toInt) ∧ (∀ i : Int, 10 ≤ i → i < 46 → (eA g_ 233 (i)).toInt = (eA g0 233 (i)).toInt) ∧ (∀ i : Int, 94 ≤ i → i < 110 → (eA g_ 233 (i)).toInt = (eA g0 233 (i)).toInt) ∧ (x9444.toInt % 6 = 0 ∧ 0 ≤ x9444.toInt) ∧ (x9444.toInt < (gI g0 231 8).toInt + 6) ∧ ((eA g_ 233 1).toInt = RLI (fun i : Int => (eA g0 236 i).toInt) (gI g0 231 8).toInt (eA g0 233 0).toInt (eA g0 233 1).toInt x9444.toInt) ∧ (x9443.toInt = (eA g_ 233 1).toInt - (eA g0 233 1).toInt) ∧ (x9445.toInt = x9444.toInt / 6 - x9443.toInt) ∧ (∀ i : Int, 46 ≤ i → i < 94 → (eA g_ 233 (i)).toInt = RFI (fun i : Int => (eA g0 236 i).toInt) (gI g0 231 8).toInt (eA g0 233 0).toInt (eA g0 233 1).toInt (fun i : Int => (eA g0 233 (46 + i)).toInt) x9444.toInt (i - 46))) ?_ (405 - 0) ⟨0, 0, 0, by first | rfl | omega, hI6419, hF6420, (gI_sI_eq hI6416.1 kx_231 rfl _), ((gI_sI_ne (by decide)).trans (gI_sI_eq hI6413.1 kx_231 rfl _)), (((eA_c gA_sI).trans ((eA_c gA_sI).trans (eA_c gA_sI))).trans hv6421), (((eA_c gA_sI).trans ((eA_c gA_sI).trans (eA_c gA_sI))).trans hv6422), (((eA_c gA_sI).trans ((eA_c gA_sI).trans (eA_c gA_sI))).trans hv6423), (((eA_c gA_sI).trans ((eA_c gA_sI).trans (eA_c gA_sI))).trans hv6424), rfl, rfl, rfl, rfl, by decide, by decide, by decide, by omega, (by intro i i0 i1; refine (eA_ti (((gA_sI).trans ((gA_sI).trans (gA_sI))))).trans ?_; (first | rfl | exact eA_ix (by omega) | omega)), (by intro i i0 i1; refine (eA_ti (((gA_sI).trans ((gA_sI).trans (gA_sI))))).trans ?_; (first | rfl | exact eA_ix (by omega) | omega)), by omega, by omega, (by refine Eq.trans ?_ (RLI.z _ _ _ _ (by first | rfl | decide | omega)); exact eA_ti (((gA_sI).trans ((gA_sI).trans (gA_sI))))), (by have y_ := HI.eqA hI6419 (p := 233) (j := 1) (eA_c (j := 1) (((gA_sI).trans ((gA_sI).trans (gA_sI))))); omega), by omega, (by intro i i0 i1; refine (eA_ti (((gA_sI).trans ((gA_sI).trans (gA_sI))))).trans ?_; refine (eA_ix (show i = 46 + (i - 46) from by omega)).trans ?_; exact RFI.z _ _ _ _ (fun i : Int => (eA g0 233 (46 + i)).toInt) (by first | rfl | decide | omega) _)⟩
    rintro n9450 l9449 g9446 ⟨x9443, x9444, x9445, hm9483, hI9447, hF9448, e9452, e9453, e9454, e9455, e9456, e9457, e9458, e9459, e9460, e9461, r9462, r9463, r9464, q9465, q9466, q9467, q9468, q9469, q9470, q9471, q9472, q9473⟩ ih9451
    have tv9484 := congrArg Int32.toInt e9454
    have tv9485 := congrArg Int32.toInt e9455
    have tv9486 := congrArg Int32.toInt e9456
    have tv9487 := congrArg Int32.toInt e9457
    have tv9488 := congrArg Int32.toInt e9453
    have tv9489 := congrArg Int32.toInt e9452
    refine At.enter rfl ?_
    refine r_iload_n e9461 ?_
    refine r_iload_n e9459 ?_
    have bv9491 := q_bnd x9444
    have bv9492 := q_bnd v6415
    refine r_ics 40 rfl (fun c9490 => ?_) (fun c9490 => ?_)
    · have c9490_ : x9444.toInt ≥ v6415.toInt := en_i_ge_t c9490
      refine At.enter rfl ?_
      refine r_aload_n e9458 ?_
      refine r_iload_n e9460 ?_
      refine r_callV 225 rfl [.ref 231, .int x9443] [] (Nat.le_of_ble_eq_true rfl) rfl (T_X11_tell_231 _ hI9447 x9443 (by omega)) ?_
      rintro _ _ ⟨g9493, rfl, hI9494, hF9495, v9496, rfl, hr9497⟩
      refine At.sti ?_
      have hF9498 := Fr.tr hF9448 hF9495 rfl rfl
      refine At.enter rfl ?_
      refine r_ireti ?_
      obtain ⟨v9499, hv9499⟩ : ∃ v, eA g9446 233 1 = v := ⟨_, rfl⟩
      have tv9499 := congrArg Int32.toInt hv9499
      have wv9499 := HI.t1 hI9447
      rw [hv9499] at wv9499
      have tv9499 := congrArg Int32.toInt hv9499
      have x9500 := HI.eqA hI9494 (p := 233) (j := 1) (((eA_c (hF9495.2.1 233 (by decide))).trans hv9499))
      have x9501 := HI.eqA hI0 (p := 233) (j := 1) (hv9481)
      have x9502 := HI.eqI hI9494 (p := 231) (b := 8) (((hF9495.1 231 8 (by decide)).trans e9453))
      have zv9503 : (0 : Int32).toInt = 0 := rfl
      have x9504 := HI.eqI hI0 (p := 231) (b := 8) (hv6415)
      have x9505 := HI.eqI hI9494 (p := 231) (b := 6) (((hF9495.1 231 6 (by decide)).trans e9452))
      have x9506 := HI.eqI hI0 (p := 231) (b := 6) (hv9478)
      have x9507 := HI.eqA hI9494 (p := 233) (j := 0) (((eA_c (hF9495.2.1 233 (by decide))).trans e9454))
      have x9508 := HI.eqA hI0 (p := 233) (j := 0) (hv6421)
      have x9509 := HI.eqA hI9494 (p := 233) (j := 4) (((eA_c (hF9495.2.1 233 (by decide))).trans e9455))
      have x9510 := HI.eqA hI0 (p := 233) (j := 4) (hv6422)
      have x9511 := HI.eqA hI9494 (p := 233) (j := 5) (((eA_c (hF9495.2.1 233 (by decide))).trans e9456))
      have x9512 := HI.eqA hI0 (p := 233) (j := 5) (hv6423)
      have x9513 := HI.eqA hI9494 (p := 233) (j := 6) (((eA_c (hF9495.2.1 233 (by decide))).trans e9457))
      have x9514 := HI.eqA hI0 (p := 233) (j := 6) (hv6424)
      have x9515 := HI.eqA hI0 (p := 233) (j := 0) (hv6421)
      have y9516 := HI.eqA hI9494 (p := 233) (j := 1) (eA_c (j := 1) ((hF9495.2.1 233 (by decide))))
      exact ⟨_, rfl, hI9494, hF9498, _, rfl, by omega, ⟨⟨(by rw [show (6 * (((gI g0 231 8).toInt + 5) / 6)) = x9444.toInt from by omega]; refine Eq.trans ?_ q9470; exact eA_ti ((hF9495.2.1 233 (by decide)))), by omega, by omega, by omega, by omega, by omega, by omega, by omega⟩, (by intro i i0 i1; refine (eA_ti ((hF9495.2.1 233 (by decide)))).trans ?_; (first | (refine ((q9466 (i) (by omega) (by omega))).trans ?_; (first | rfl | exact eA_ix (by omega) | omega)) | (refine ((q9467 (i) (by omega) (by omega))).trans ?_; (first | rfl | exact eA_ix (by omega) | omega)) | (refine ((q9473 (i) (by omega) (by omega))).trans ?_; (first | rfl | exact eA_ix (by omega) | omega)))), (by intro i i0 i1; refine (eA_ti ((hF9495.2.1 233 (by decide)))).trans ?_; (first | (refine ((q9466 (i) (by omega) (by omega))).trans ?_; (first | rfl | exact eA_ix (by omega) | omega)) | (refine ((q9467 (i) (by omega) (by omega))).trans ?_; (first | rfl | exact eA_ix (by omega) | omega)) | (refine ((q9473 (i) (by omega) (by omega))).trans ?_; (first | rfl | exact eA_ix (by omega) | omega)))), (by intro i i0 i1; rw [show (6 * (((gI g0 231 8).toInt + 5) / 6)) = x9444.toInt from by omega]; refine (eA_ti ((hF9495.2.1 233 (by decide)))).trans ?_; exact q9473 i i0 i1)⟩⟩
    · have c9490_ : x9444.toInt < v6415.toInt := en_i_ge_f c9490
      refine At.enter rfl ?_
      refine r_iload_n e9461 ?_
      refine r_iconst 5 rfl ?_
      refine q_iadd (x9444.toInt + 5) rfl (by omega) (fun v9517 hv9517 => ?_)
      refine r_iload_n e9459 ?_
      have bv9519 := q_bnd v9517
      refine r_ics 47 rfl (fun c9518 => ?_) (fun c9518 => ?_)
      · have c9518_ : v9517.toInt ≥ v6415.toInt := en_i_ge_t c9518
        refine At.enter rfl ?_
        refine r_iconst 0 rfl ?_
        refine Ar.fall 63 rfl ?_
        refine At.enter rfl ?_
        refine r_istore _ rfl ?_
        refine r_iload (w_e1 _ _ _) ?_
        refine r_ift (by decide) ?_
        refine At.enter rfl ?_
        refine r_iconst 0 rfl ?_
        refine Ar.fall 141 rfl ?_
        refine At.enter rfl ?_
        refine r_istore _ rfl ?_
        refine r_iload (w_e1 _ _ _) ?_
        refine r_ift (by decide) ?_
        refine At.enter rfl ?_
        refine r_aload_n (w_p1 (by decide) (Or.inr rfl) (w_p1 (by decide) (Or.inr rfl) e9458)) ?_
        refine r_dup rfl ?_
        refine q_getI (Sh.int hI9447.1 kx_231 rfl) x9445 e9452 ?_
        refine r_iconst 1 rfl ?_
        refine q_iadd (x9445.toInt + 1) rfl (by omega) (fun v9520 hv9520 => ?_)
        refine q_putI (Sh.int hI9447.1 kx_231 rfl) rfl ?_
        have hI9521 := HI.wI0 hI9447 kx_231 rfl (p := 231) (b := 6) (v := v9520) rfl
        have hF9522 := Fr.wI (p := 231) (b := 6) (v := v9520) hF9448 rfl
        refine Ar.fall 214 rfl ?_
        refine At.enter rfl ?_
        refine q_iinc (w_p1 (by decide) (Or.inr rfl) (w_p1 (by decide) (Or.inr rfl) e9461)) (x9444.toInt + 6) rfl (by omega) (fun v9523 hv9523 => ?_)
        refine r_goto ?_
        exact ih9451 (405 - v9523.toInt) _ _ ⟨x9443, v9523, v9520, by first | rfl | omega, hI9521, hF9522, (gI_sI_eq hI9447.1 kx_231 rfl _), ((gI_sI_ne (by decide)).trans e9453), ((eA_c gA_sI).trans e9454), ((eA_c gA_sI).trans e9455), ((eA_c gA_sI).trans e9456), ((eA_c gA_sI).trans e9457), (w_p1 (by decide) (Or.inr rfl) (w_p1 (by decide) (Or.inr rfl) (w_p1 (by decide) (Or.inr rfl) e9458))), (w_p1 (by decide) (Or.inr rfl) (w_p1 (by decide) (Or.inr rfl) (w_p1 (by decide) (Or.inr rfl) e9459))), (w_p1 (by decide) (Or.inr rfl) (w_p1 (by decide) (Or.inr rfl) (w_p1 (by decide) (Or.inr rfl) e9460))), (w_e1 _ _ _), by omega, by omega, by omega, by omega, (by intro i i0 i1; refine (eA_ti ((gA_sI))).trans ?_; (first | (refine ((q9466 (i) (by omega) (by omega))).trans ?_; (first | rfl | exact eA_ix (by omega) | omega)) | (refine ((q9467 (i) (by omega) (by omega))).trans ?_; (first | rfl | exact eA_ix (by omega) | omega)) | (refine ((q9473 (i) (by omega) (by omega))).trans ?_; (first | rfl | exact eA_ix (by omega) | omega)))), (by intro i i0 i1; refine (eA_ti ((gA_sI))).trans ?_; (first | (refine ((q9466 (i) (by omega) (by omega))).trans ?_; (first | rfl | exact eA_ix (by omega) | omega)) | (refine ((q9467 (i) (by omega) (by omega))).trans ?_; (first | rfl | exact eA_ix (by omega) | omega)) | (refine ((q9473 (i) (by omega) (by omega))).trans ?_; (first | rfl | exact eA_ix (by omega) | omega)))), by omega, by omega, (RLI.n (by omega) (by omega) q9470 (fun h => by have h2 : x9444.toInt + 6 ≤ (gI g0 231 8).toInt ∧ (eA g9446 233 1).toInt < 8 ∧ (1 ≤ (eA g0 236 x9444.toInt).toInt ∧ (eA g0 236 x9444.toInt).toInt ≤ 9) ∧ (0 ≤ (eA g0 236 (x9444.toInt + 3)).toInt ∧ (eA g0 236 (x9444.toInt + 3)).toInt ≤ 99) ∧ (0 ≤ (eA g0 236 (x9444.toInt + 4)).toInt ∧ (eA g0 236 (x9444.toInt + 4)).toInt ≤ 9) ∧ (0 ≤ (eA g0 236 (x9444.toInt + 5)).toInt ∧ (eA g0 236 (x9444.toInt + 5)).toInt ≤ 9999) ∧ (0 ≤ (eA g0 236 (x9444.toInt + 1)).toInt ∧ (eA g0 236 (x9444.toInt + 1)).toInt < (eA g0 233 0).toInt) ∧ (0 ≤ (eA g0 236 (x9444.toInt + 2)).toInt ∧ (eA g0 236 (x9444.toInt + 2)).toInt < (eA g0 233 0).toInt) := h; omega) (eA_ti ((gA_sI))) (by omega)), (by have y_ := HI.eqA hI9521 (p := 233) (j := 1) (eA_c (j := 1) ((gA_sI))); omega), by omega, (by intro i i0 i1; refine (eA_ti ((gA_sI))).trans ?_; refine (q9473 i i0 i1).trans ?_; exact RFI.n (by omega) (by omega) q9470 (by omega) rfl (fun k => absurd k.1 (fun h => by have h2 : x9444.toInt + 6 ≤ (gI g0 231 8).toInt ∧ (eA g9446 233 1).toInt < 8 ∧ (1 ≤ (eA g0 236 x9444.toInt).toInt ∧ (eA g0 236 x9444.toInt).toInt ≤ 9) ∧ (0 ≤ (eA g0 236 (x9444.toInt + 3)).toInt ∧ (eA g0 236 (x9444.toInt + 3)).toInt ≤ 99) ∧ (0 ≤ (eA g0 236 (x9444.toInt + 4)).toInt ∧ (eA g0 236 (x9444.toInt + 4)).toInt ≤ 9) ∧ (0 ≤ (eA g0 236 (x9444.toInt + 5)).toInt ∧ (eA g0 236 (x9444.toInt + 5)).toInt ≤ 9999) ∧ (0 ≤ (eA g0 236 (x9444.toInt + 1)).toInt ∧ (eA g0 236 (x9444.toInt + 1)).toInt < (eA g0 233 0).toInt) ∧ (0 ≤ (eA g0 236 (x9444.toInt + 2)).toInt ∧ (eA g0 236 (x9444.toInt + 2)).toInt < (eA g0 233 0).toInt) := h; omega)))⟩ ⟨by omega, by omega⟩
      · have c9518_ : v9517.toInt < v6415.toInt := en_i_ge_f c9518
        refine At.enter rfl ?_
        refine r_aload_n e9458 ?_
        refine q_getR (Sh.ref hI9447.1 kx_231 rfl) ?_
        refine r_iconst 1 rfl ?_
        obtain ⟨v9524, hv9524⟩ : ∃ v, eA g9446 233 1 = v := ⟨_, rfl⟩
        have tv9524 := congrArg Int32.toInt hv9524
        have wv9524 := HI.t1 hI9447
        rw [hv9524] at wv9524
        refine q_iald (Sh.arr hI9447.1 ka_233) 1 rfl (by decide) v9524 hv9524 ?_
        refine r_bipush 8 rfl ?_
        refine r_ics 58 rfl (fun c9525 => ?_) (fun c9525 => ?_)
        · have c9525_ : v9524.toInt ≥ 8 := en_i_ge_t c9525
          refine At.enter rfl ?_
          refine r_iconst 0 rfl ?_
          refine Ar.fall 63 rfl ?_
          refine At.enter rfl ?_
          refine r_istore _ rfl ?_
          refine r_iload (w_e1 _ _ _) ?_
          refine r_ift (by decide) ?_
          refine At.enter rfl ?_
          refine r_iconst 0 rfl ?_
          refine Ar.fall 141 rfl ?_
          refine At.enter rfl ?_
          refine r_istore _ rfl ?_
          refine r_iload (w_e1 _ _ _) ?_
          refine r_ift (by decide) ?_
          refine At.enter rfl ?_
          refine r_aload_n (w_p1 (by decide) (Or.inr rfl) (w_p1 (by decide) (Or.inr rfl) e9458)) ?_
          refine r_dup rfl ?_
          refine q_getI (Sh.int hI9447.1 kx_231 rfl) x9445 e9452 ?_
          refine r_iconst 1 rfl ?_
          refine q_iadd (x9445.toInt + 1) rfl (by omega) (fun v9526 hv9526 => ?_)
          refine q_putI (Sh.int hI9447.1 kx_231 rfl) rfl ?_
          have hI9527 := HI.wI0 hI9447 kx_231 rfl (p := 231) (b := 6) (v := v9526) rfl
          have hF9528 := Fr.wI (p := 231) (b := 6) (v := v9526) hF9448 rfl
          refine Ar.fall 214 rfl ?_
          refine At.enter rfl ?_
          refine q_iinc (w_p1 (by decide) (Or.inr rfl) (w_p1 (by decide) (Or.inr rfl) e9461)) (x9444.toInt + 6) rfl (by omega) (fun v9529 hv9529 => ?_)
          refine r_goto ?_
          exact ih9451 (405 - v9529.toInt) _ _ ⟨x9443, v9529, v9526, by first | rfl | omega, hI9527, hF9528, (gI_sI_eq hI9447.1 kx_231 rfl _), ((gI_sI_ne (by decide)).trans e9453), ((eA_c gA_sI).trans e9454), ((eA_c gA_sI).trans e9455), ((eA_c gA_sI).trans e9456), ((eA_c gA_sI).trans e9457), (w_p1 (by decide) (Or.inr rfl) (w_p1 (by decide) (Or.inr rfl) (w_p1 (by decide) (Or.inr rfl) e9458))), (w_p1 (by decide) (Or.inr rfl) (w_p1 (by decide) (Or.inr rfl) (w_p1 (by decide) (Or.inr rfl) e9459))), (w_p1 (by decide) (Or.inr rfl) (w_p1 (by decide) (Or.inr rfl) (w_p1 (by decide) (Or.inr rfl) e9460))), (w_e1 _ _ _), by omega, by omega, by omega, by omega, (by intro i i0 i1; refine (eA_ti ((gA_sI))).trans ?_; (first | (refine ((q9466 (i) (by omega) (by omega))).trans ?_; (first | rfl | exact eA_ix (by omega) | omega)) | (refine ((q9467 (i) (by omega) (by omega))).trans ?_; (first | rfl | exact eA_ix (by omega) | omega)) | (refine ((q9473 (i) (by omega) (by omega))).trans ?_; (first | rfl | exact eA_ix (by omega) | omega)))), (by intro i i0 i1; refine (eA_ti ((gA_sI))).trans ?_; (first | (refine ((q9466 (i) (by omega) (by omega))).trans ?_; (first | rfl | exact eA_ix (by omega) | omega)) | (refine ((q9467 (i) (by omega) (by omega))).trans ?_; (first | rfl | exact eA_ix (by omega) | omega)) | (refine ((q9473 (i) (by omega) (by omega))).trans ?_; (first | rfl | exact eA_ix (by omega) | omega)))), by omega, by omega, (RLI.n (by omega) (by omega) q9470 (fun h => by have h2 : x9444.toInt + 6 ≤ (gI g0 231 8).toInt ∧ (eA g9446 233 1).toInt < 8 ∧ (1 ≤ (eA g0 236 x9444.toInt).toInt ∧ (eA g0 236 x9444.toInt).toInt ≤ 9) ∧ (0 ≤ (eA g0 236 (x9444.toInt + 3)).toInt ∧ (eA g0 236 (x9444.toInt + 3)).toInt ≤ 99) ∧ (0 ≤ (eA g0 236 (x9444.toInt + 4)).toInt ∧ (eA g0 236 (x9444.toInt + 4)).toInt ≤ 9) ∧ (0 ≤ (eA g0 236 (x9444.toInt + 5)).toInt ∧ (eA g0 236 (x9444.toInt + 5)).toInt ≤ 9999) ∧ (0 ≤ (eA g0 236 (x9444.toInt + 1)).toInt ∧ (eA g0 236 (x9444.toInt + 1)).toInt < (eA g0 233 0).toInt) ∧ (0 ≤ (eA g0 236 (x9444.toInt + 2)).toInt ∧ (eA g0 236 (x9444.toInt + 2)).toInt < (eA g0 233 0).toInt) := h; omega) (eA_ti ((gA_sI))) (by omega)), (by have y_ := HI.eqA hI9527 (p := 233) (j := 1) (eA_c (j := 1) ((gA_sI))); omega), by omega, (by intro i i0 i1; refine (eA_ti ((gA_sI))).trans ?_; refine (q9473 i i0 i1).trans ?_; exact RFI.n (by omega) (by omega) q9470 (by omega) rfl (fun k => absurd k.1 (fun h => by have h2 : x9444.toInt + 6 ≤ (gI g0 231 8).toInt ∧ (eA g9446 233 1).toInt < 8 ∧ (1 ≤ (eA g0 236 x9444.toInt).toInt ∧ (eA g0 236 x9444.toInt).toInt ≤ 9) ∧ (0 ≤ (eA g0 236 (x9444.toInt + 3)).toInt ∧ (eA g0 236 (x9444.toInt + 3)).toInt ≤ 99) ∧ (0 ≤ (eA g0 236 (x9444.toInt + 4)).toInt ∧ (eA g0 236 (x9444.toInt + 4)).toInt ≤ 9) ∧ (0 ≤ (eA g0 236 (x9444.toInt + 5)).toInt ∧ (eA g0 236 (x9444.toInt + 5)).toInt ≤ 9999) ∧ (0 ≤ (eA g0 236 (x9444.toInt + 1)).toInt ∧ (eA g0 236 (x9444.toInt + 1)).toInt < (eA g0 233 0).toInt) ∧ (0 ≤ (eA g0 236 (x9444.toInt + 2)).toInt ∧ (eA g0 236 (x9444.toInt + 2)).toInt < (eA g0 233 0).toInt) := h; omega)))⟩ ⟨by omega, by omega⟩
        · have c9525_ : v9524.toInt < 8 := en_i_ge_f c9525
          refine At.enter rfl ?_
          refine r_iconst 1 rfl ?_
          refine r_goto ?_
          refine At.enter rfl ?_
          refine r_istore _ rfl ?_
          refine r_iload (w_e1 _ _ _) ?_
          refine r_iff 70 rfl (by decide) ?_
          refine At.enter rfl ?_
          refine r_aload_n (w_p1 (by decide) (Or.inr rfl) e9458) ?_
          refine q_getR (Sh.ref hI9447.1 kx_231 rfl) ?_
          refine r_iload_n (w_p1 (by decide) (Or.inr rfl) e9461) ?_
          obtain ⟨v9530, hv9530⟩ : ∃ v, eA g0 236 x9444.toInt = v := ⟨_, rfl⟩
          refine q_iald (Sh.arr hI9447.1 ka_236) x9444.toInt rfl (by omega) v9530 ((eA_c (hF9448.2.1 236 (by decide))).trans hv9530) ?_
          refine r_aload_n (w_p1 (by decide) (Or.inr rfl) e9458) ?_
          refine q_getR (Sh.ref hI9447.1 kx_231 rfl) ?_
          refine r_iload_n (w_p1 (by decide) (Or.inr rfl) e9461) ?_
          refine r_iconst 3 rfl ?_
          refine q_iadd (x9444.toInt + 3) rfl (by omega) (fun v9531 hv9531 => ?_)
          obtain ⟨v9532, hv9532⟩ : ∃ v, eA g0 236 (x9444.toInt + 3) = v := ⟨_, rfl⟩
          refine q_iald (Sh.arr hI9447.1 ka_236) (x9444.toInt + 3) (by omega) (by omega) v9532 ((eA_c (hF9448.2.1 236 (by decide))).trans hv9532) ?_
          refine r_aload_n (w_p1 (by decide) (Or.inr rfl) e9458) ?_
          refine q_getR (Sh.ref hI9447.1 kx_231 rfl) ?_
          refine r_iload_n (w_p1 (by decide) (Or.inr rfl) e9461) ?_
          refine r_iconst 4 rfl ?_
          refine q_iadd (x9444.toInt + 4) rfl (by omega) (fun v9533 hv9533 => ?_)
          obtain ⟨v9534, hv9534⟩ : ∃ v, eA g0 236 (x9444.toInt + 4) = v := ⟨_, rfl⟩
          refine q_iald (Sh.arr hI9447.1 ka_236) (x9444.toInt + 4) (by omega) (by omega) v9534 ((eA_c (hF9448.2.1 236 (by decide))).trans hv9534) ?_
          refine r_aload_n (w_p1 (by decide) (Or.inr rfl) e9458) ?_
          refine q_getR (Sh.ref hI9447.1 kx_231 rfl) ?_
          refine r_iload_n (w_p1 (by decide) (Or.inr rfl) e9461) ?_
          refine r_iconst 5 rfl ?_
          refine q_iadd (x9444.toInt + 5) rfl (by omega) (fun v9535 hv9535 => ?_)
          obtain ⟨v9536, hv9536⟩ : ∃ v, eA g0 236 (x9444.toInt + 5) = v := ⟨_, rfl⟩
          refine q_iald (Sh.arr hI9447.1 ka_236) (x9444.toInt + 5) (by omega) (by omega) v9536 ((eA_c (hF9448.2.1 236 (by decide))).trans hv9536) ?_
          refine q_inlS 103 rfl [.int v9530, .int v9532, .int v9534, .int v9536] [] (Nat.le_of_ble_eq_true rfl) rfl ?_
          refine Ev.mk rfl rfl ⟨Nat.le_of_ble_eq_true rfl, Or.inl rfl⟩ ?_
          show At _ none _ _ (0, [(0, .int v9530), (1, .int v9532), (2, .int v9534), (3, .int v9536)], [], (_, _)) _
          refine At.enter rfl ?_
          refine r_iload_n rfl ?_
          refine q_i2l (fun v9537 hv9537 => ?_)
          refine r_lconst 1 rfl ?_
          refine r_ldc2 9 rfl ?_
          refine q_inlS 9 rfl [.long v9537, .long 1, .long 9] [] (Nat.le_of_ble_eq_true rfl) rfl ?_
          refine Ev.mk rfl rfl ⟨Nat.le_of_ble_eq_true rfl, Or.inl rfl⟩ ?_
          show At _ none _ _ (0, [(0, .long v9537), (2, .long 1), (4, .long 9)], [], (_, _)) _
          refine At.enter rfl ?_
          refine r_lload_n rfl ?_
          refine r_lload_n rfl ?_
          refine r_lcmp _ rfl ?_
          refine r_ifs 6 rfl (fun c9538 => ?_) (fun c9538 => ?_)
          · have c9538_ : v9537.toInt < 1 := en_j_lt_t c9538
            refine At.enter rfl ?_
            refine r_iconst 0 rfl ?_
            refine Ar.fall 18 rfl ?_
            refine At.enter rfl ?_
            refine q_iretz (by decide) ?_
            refine At.enter rfl ?_
            refine r_ift (by decide) ?_
            refine At.enter rfl ?_
            refine r_iconst 0 rfl ?_
            refine Ar.fall 53 rfl ?_
            refine At.enter rfl ?_
            refine q_iretz (by decide) ?_
            refine At.enter rfl ?_
            refine r_ift (by decide) ?_
            refine At.enter rfl ?_
            refine r_iconst 0 rfl ?_
            refine Ar.fall 141 rfl ?_
            refine At.enter rfl ?_
            refine r_istore _ rfl ?_
            refine r_iload (w_e1 _ _ _) ?_
            refine r_ift (by decide) ?_
            refine At.enter rfl ?_
            refine r_aload_n (w_p1 (by decide) (Or.inr rfl) (w_p1 (by decide) (Or.inr rfl) e9458)) ?_
            refine r_dup rfl ?_
            refine q_getI (Sh.int hI9447.1 kx_231 rfl) x9445 e9452 ?_
            refine r_iconst 1 rfl ?_
            refine q_iadd (x9445.toInt + 1) rfl (by omega) (fun v9539 hv9539 => ?_)
            refine q_putI (Sh.int hI9447.1 kx_231 rfl) rfl ?_
            have hI9540 := HI.wI0 hI9447 kx_231 rfl (p := 231) (b := 6) (v := v9539) rfl
            have hF9541 := Fr.wI (p := 231) (b := 6) (v := v9539) hF9448 rfl
            refine Ar.fall 214 rfl ?_
            refine At.enter rfl ?_
            refine q_iinc (w_p1 (by decide) (Or.inr rfl) (w_p1 (by decide) (Or.inr rfl) e9461)) (x9444.toInt + 6) rfl (by omega) (fun v9542 hv9542 => ?_)
            refine r_goto ?_
            exact ih9451 (405 - v9542.toInt) _ _ ⟨x9443, v9542, v9539, by first | rfl | omega, hI9540, hF9541, (gI_sI_eq hI9447.1 kx_231 rfl _), ((gI_sI_ne (by decide)).trans e9453), ((eA_c gA_sI).trans e9454), ((eA_c gA_sI).trans e9455), ((eA_c gA_sI).trans e9456), ((eA_c gA_sI).trans e9457), (w_p1 (by decide) (Or.inr rfl) (w_p1 (by decide) (Or.inr rfl) (w_p1 (by decide) (Or.inr rfl) e9458))), (w_p1 (by decide) (Or.inr rfl) (w_p1 (by decide) (Or.inr rfl) (w_p1 (by decide) (Or.inr rfl) e9459))), (w_p1 (by decide) (Or.inr rfl) (w_p1 (by decide) (Or.inr rfl) (w_p1 (by decide) (Or.inr rfl) e9460))), (w_e1 _ _ _), by omega, by omega, by omega, by omega, (by intro i i0 i1; refine (eA_ti ((gA_sI))).trans ?_; (first | (refine ((q9466 (i) (by omega) (by omega))).trans ?_; (first | rfl | exact eA_ix (by omega) | omega)) | (refine ((q9467 (i) (by omega) (by omega))).trans ?_; (first | rfl | exact eA_ix (by omega) | omega)) | (refine ((q9473 (i) (by omega) (by omega))).trans ?_; (first | rfl | exact eA_ix (by omega) | omega)))), (by intro i i0 i1; refine (eA_ti ((gA_sI))).trans ?_; (first | (refine ((q9466 (i) (by omega) (by omega))).trans ?_; (first | rfl | exact eA_ix (by omega) | omega)) | (refine ((q9467 (i) (by omega) (by omega))).trans ?_; (first | rfl | exact eA_ix (by omega) | omega)) | (refine ((q9473 (i) (by omega) (by omega))).trans ?_; (first | rfl | exact eA_ix (by omega) | omega)))), by omega, by omega, (RLI.n (by omega) (by omega) q9470 (fun h => by have h2 : x9444.toInt + 6 ≤ (gI g0 231 8).toInt ∧ (eA g9446 233 1).toInt < 8 ∧ (1 ≤ (eA g0 236 x9444.toInt).toInt ∧ (eA g0 236 x9444.toInt).toInt ≤ 9) ∧ (0 ≤ (eA g0 236 (x9444.toInt + 3)).toInt ∧ (eA g0 236 (x9444.toInt + 3)).toInt ≤ 99) ∧ (0 ≤ (eA g0 236 (x9444.toInt + 4)).toInt ∧ (eA g0 236 (x9444.toInt + 4)).toInt ≤ 9) ∧ (0 ≤ (eA g0 236 (x9444.toInt + 5)).toInt ∧ (eA g0 236 (x9444.toInt + 5)).toInt ≤ 9999) ∧ (0 ≤ (eA g0 236 (x9444.toInt + 1)).toInt ∧ (eA g0 236 (x9444.toInt + 1)).toInt < (eA g0 233 0).toInt) ∧ (0 ≤ (eA g0 236 (x9444.toInt + 2)).toInt ∧ (eA g0 236 (x9444.toInt + 2)).toInt < (eA g0 233 0).toInt) := h; have y405_ := congrArg Int32.toInt hv9530; have y406_ := congrArg Int32.toInt hv9532; have y407_ := congrArg Int32.toInt hv9534; have y408_ := congrArg Int32.toInt hv9536; omega) (eA_ti ((gA_sI))) (by omega)), (by have y_ := HI.eqA hI9540 (p := 233) (j := 1) (eA_c (j := 1) ((gA_sI))); omega), by omega, (by intro i i0 i1; refine (eA_ti ((gA_sI))).trans ?_; refine (q9473 i i0 i1).trans ?_; exact RFI.n (by omega) (by omega) q9470 (by omega) rfl (fun k => absurd k.1 (fun h => by have h2 : x9444.toInt + 6 ≤ (gI g0 231 8).toInt ∧ (eA g9446 233 1).toInt < 8 ∧ (1 ≤ (eA g0 236 x9444.toInt).toInt ∧ (eA g0 236 x9444.toInt).toInt ≤ 9) ∧ (0 ≤ (eA g0 236 (x9444.toInt + 3)).toInt ∧ (eA g0 236 (x9444.toInt + 3)).toInt ≤ 99) ∧ (0 ≤ (eA g0 236 (x9444.toInt + 4)).toInt ∧ (eA g0 236 (x9444.toInt + 4)).toInt ≤ 9) ∧ (0 ≤ (eA g0 236 (x9444.toInt + 5)).toInt ∧ (eA g0 236 (x9444.toInt + 5)).toInt ≤ 9999) ∧ (0 ≤ (eA g0 236 (x9444.toInt + 1)).toInt ∧ (eA g0 236 (x9444.toInt + 1)).toInt < (eA g0 233 0).toInt) ∧ (0 ≤ (eA g0 236 (x9444.toInt + 2)).toInt ∧ (eA g0 236 (x9444.toInt + 2)).toInt < (eA g0 233 0).toInt) := h; have y409_ := congrArg Int32.toInt hv9530; have y410_ := congrArg Int32.toInt hv9532; have y411_ := congrArg Int32.toInt hv9534; have y412_ := congrArg Int32.toInt hv9536; omega)))⟩ ⟨by omega, by omega⟩
          · have c9538_ : v9537.toInt ≥ 1 := en_j_lt_f c9538
            refine At.enter rfl ?_
            refine r_lload_n rfl ?_
            refine r_lload rfl ?_
            refine r_lcmp _ rfl ?_
            refine r_ifs 13 rfl (fun c9543 => ?_) (fun c9543 => ?_)
            · have c9543_ : v9537.toInt > 9 := en_j_gt_t c9543
              refine At.enter rfl ?_
              refine r_iconst 0 rfl ?_
              refine Ar.fall 18 rfl ?_
              refine At.enter rfl ?_
              refine q_iretz (by decide) ?_
              refine At.enter rfl ?_
              refine r_ift (by decide) ?_
              refine At.enter rfl ?_
              refine r_iconst 0 rfl ?_
              refine Ar.fall 53 rfl ?_
              refine At.enter rfl ?_
              refine q_iretz (by decide) ?_
              refine At.enter rfl ?_
              refine r_ift (by decide) ?_
              refine At.enter rfl ?_
              refine r_iconst 0 rfl ?_
              refine Ar.fall 141 rfl ?_
              refine At.enter rfl ?_
              refine r_istore _ rfl ?_
              refine r_iload (w_e1 _ _ _) ?_
              refine r_ift (by decide) ?_
              refine At.enter rfl ?_
              refine r_aload_n (w_p1 (by decide) (Or.inr rfl) (w_p1 (by decide) (Or.inr rfl) e9458)) ?_
              refine r_dup rfl ?_
              refine q_getI (Sh.int hI9447.1 kx_231 rfl) x9445 e9452 ?_
              refine r_iconst 1 rfl ?_
              refine q_iadd (x9445.toInt + 1) rfl (by omega) (fun v9544 hv9544 => ?_)
              refine q_putI (Sh.int hI9447.1 kx_231 rfl) rfl ?_
              have hI9545 := HI.wI0 hI9447 kx_231 rfl (p := 231) (b := 6) (v := v9544) rfl
              have hF9546 := Fr.wI (p := 231) (b := 6) (v := v9544) hF9448 rfl
              refine Ar.fall 214 rfl ?_
              refine At.enter rfl ?_
              refine q_iinc (w_p1 (by decide) (Or.inr rfl) (w_p1 (by decide) (Or.inr rfl) e9461)) (x9444.toInt + 6) rfl (by omega) (fun v9547 hv9547 => ?_)
              refine r_goto ?_
              exact ih9451 (405 - v9547.toInt) _ _ ⟨x9443, v9547, v9544, by first | rfl | omega, hI9545, hF9546, (gI_sI_eq hI9447.1 kx_231 rfl _), ((gI_sI_ne (by decide)).trans e9453), ((eA_c gA_sI).trans e9454), ((eA_c gA_sI).trans e9455), ((eA_c gA_sI).trans e9456), ((eA_c gA_sI).trans e9457), (w_p1 (by decide) (Or.inr rfl) (w_p1 (by decide) (Or.inr rfl) (w_p1 (by decide) (Or.inr rfl) e9458))), (w_p1 (by decide) (Or.inr rfl) (w_p1 (by decide) (Or.inr rfl) (w_p1 (by decide) (Or.inr rfl) e9459))), (w_p1 (by decide) (Or.inr rfl) (w_p1 (by decide) (Or.inr rfl) (w_p1 (by decide) (Or.inr rfl) e9460))), (w_e1 _ _ _), by omega, by omega, by omega, by omega, (by intro i i0 i1; refine (eA_ti ((gA_sI))).trans ?_; (first | (refine ((q9466 (i) (by omega) (by omega))).trans ?_; (first | rfl | exact eA_ix (by omega) | omega)) | (refine ((q9467 (i) (by omega) (by omega))).trans ?_; (first | rfl | exact eA_ix (by omega) | omega)) | (refine ((q9473 (i) (by omega) (by omega))).trans ?_; (first | rfl | exact eA_ix (by omega) | omega)))), (by intro i i0 i1; refine (eA_ti ((gA_sI))).trans ?_; (first | (refine ((q9466 (i) (by omega) (by omega))).trans ?_; (first | rfl | exact eA_ix (by omega) | omega)) | (refine ((q9467 (i) (by omega) (by omega))).trans ?_; (first | rfl | exact eA_ix (by omega) | omega)) | (refine ((q9473 (i) (by omega) (by omega))).trans ?_; (first | rfl | exact eA_ix (by omega) | omega)))), by omega, by omega, (RLI.n (by omega) (by omega) q9470 (fun h => by have h2 : x9444.toInt + 6 ≤ (gI g0 231 8).toInt ∧ (eA g9446 233 1).toInt < 8 ∧ (1 ≤ (eA g0 236 x9444.toInt).toInt ∧ (eA g0 236 x9444.toInt).toInt ≤ 9) ∧ (0 ≤ (eA g0 236 (x9444.toInt + 3)).toInt ∧ (eA g0 236 (x9444.toInt + 3)).toInt ≤ 99) ∧ (0 ≤ (eA g0 236 (x9444.toInt + 4)).toInt ∧ (eA g0 236 (x9444.toInt + 4)).toInt ≤ 9) ∧ (0 ≤ (eA g0 236 (x9444.toInt + 5)).toInt ∧ (eA g0 236 (x9444.toInt + 5)).toInt ≤ 9999) ∧ (0 ≤ (eA g0 236 (x9444.toInt + 1)).toInt ∧ (eA g0 236 (x9444.toInt + 1)).toInt < (eA g0 233 0).toInt) ∧ (0 ≤ (eA g0 236 (x9444.toInt + 2)).toInt ∧ (eA g0 236 (x9444.toInt + 2)).toInt < (eA g0 233 0).toInt) := h; have y413_ := congrArg Int32.toInt hv9530; have y414_ := congrArg Int32.toInt hv9532; have y415_ := congrArg Int32.toInt hv9534; have y416_ := congrArg Int32.toInt hv9536; omega) (eA_ti ((gA_sI))) (by omega)), (by have y_ := HI.eqA hI9545 (p := 233) (j := 1) (eA_c (j := 1) ((gA_sI))); omega), by omega, (by intro i i0 i1; refine (eA_ti ((gA_sI))).trans ?_; refine (q9473 i i0 i1).trans ?_; exact RFI.n (by omega) (by omega) q9470 (by omega) rfl (fun k => absurd k.1 (fun h => by have h2 : x9444.toInt + 6 ≤ (gI g0 231 8).toInt ∧ (eA g9446 233 1).toInt < 8 ∧ (1 ≤ (eA g0 236 x9444.toInt).toInt ∧ (eA g0 236 x9444.toInt).toInt ≤ 9) ∧ (0 ≤ (eA g0 236 (x9444.toInt + 3)).toInt ∧ (eA g0 236 (x9444.toInt + 3)).toInt ≤ 99) ∧ (0 ≤ (eA g0 236 (x9444.toInt + 4)).toInt ∧ (eA g0 236 (x9444.toInt + 4)).toInt ≤ 9) ∧ (0 ≤ (eA g0 236 (x9444.toInt + 5)).toInt ∧ (eA g0 236 (x9444.toInt + 5)).toInt ≤ 9999) ∧ (0 ≤ (eA g0 236 (x9444.toInt + 1)).toInt ∧ (eA g0 236 (x9444.toInt + 1)).toInt < (eA g0 233 0).toInt) ∧ (0 ≤ (eA g0 236 (x9444.toInt + 2)).toInt ∧ (eA g0 236 (x9444.toInt + 2)).toInt < (eA g0 233 0).toInt) := h; have y417_ := congrArg Int32.toInt hv9530; have y418_ := congrArg Int32.toInt hv9532; have y419_ := congrArg Int32.toInt hv9534; have y420_ := congrArg Int32.toInt hv9536; omega)))⟩ ⟨by omega, by omega⟩
            · have c9543_ : v9537.toInt ≤ 9 := en_j_gt_f c9543
              refine At.enter rfl ?_
              refine r_iconst 1 rfl ?_
              refine r_goto ?_
              refine At.enter rfl ?_
              refine q_iretz (by decide) ?_
              refine At.enter rfl ?_
              refine r_iff 12 rfl (by decide) ?_
              refine At.enter rfl ?_
              refine r_iload_n rfl ?_
              refine q_i2l (fun v9548 hv9548 => ?_)
              refine r_lconst 0 rfl ?_
              refine r_ldc2 99 rfl ?_
              refine q_inlS 21 rfl [.long v9548, .long 0, .long 99] [] (Nat.le_of_ble_eq_true rfl) rfl ?_
              refine Ev.mk rfl rfl ⟨Nat.le_of_ble_eq_true rfl, Or.inl rfl⟩ ?_
              show At _ none _ _ (0, [(0, .long v9548), (2, .long 0), (4, .long 99)], [], (_, _)) _
              refine At.enter rfl ?_
              refine r_lload_n rfl ?_
              refine r_lload_n rfl ?_
              refine r_lcmp _ rfl ?_
              refine r_ifs 6 rfl (fun c9549 => ?_) (fun c9549 => ?_)
              · have c9549_ : v9548.toInt < 0 := en_j_lt_t c9549
                refine At.enter rfl ?_
                refine r_iconst 0 rfl ?_
                refine Ar.fall 18 rfl ?_
                refine At.enter rfl ?_
                refine q_iretz (by decide) ?_
                refine At.enter rfl ?_
                refine r_ift (by decide) ?_
                refine At.enter rfl ?_
                refine r_iconst 0 rfl ?_
                refine Ar.fall 53 rfl ?_
                refine At.enter rfl ?_
                refine q_iretz (by decide) ?_
                refine At.enter rfl ?_
                refine r_ift (by decide) ?_
                refine At.enter rfl ?_
                refine r_iconst 0 rfl ?_
                refine Ar.fall 141 rfl ?_
                refine At.enter rfl ?_
                refine r_istore _ rfl ?_
                refine r_iload (w_e1 _ _ _) ?_
                refine r_ift (by decide) ?_
                refine At.enter rfl ?_
                refine r_aload_n (w_p1 (by decide) (Or.inr rfl) (w_p1 (by decide) (Or.inr rfl) e9458)) ?_
                refine r_dup rfl ?_
                refine q_getI (Sh.int hI9447.1 kx_231 rfl) x9445 e9452 ?_
                refine r_iconst 1 rfl ?_
                refine q_iadd (x9445.toInt + 1) rfl (by omega) (fun v9550 hv9550 => ?_)
                refine q_putI (Sh.int hI9447.1 kx_231 rfl) rfl ?_
                have hI9551 := HI.wI0 hI9447 kx_231 rfl (p := 231) (b := 6) (v := v9550) rfl
                have hF9552 := Fr.wI (p := 231) (b := 6) (v := v9550) hF9448 rfl
                refine Ar.fall 214 rfl ?_
                refine At.enter rfl ?_
                refine q_iinc (w_p1 (by decide) (Or.inr rfl) (w_p1 (by decide) (Or.inr rfl) e9461)) (x9444.toInt + 6) rfl (by omega) (fun v9553 hv9553 => ?_)
                refine r_goto ?_
                exact ih9451 (405 - v9553.toInt) _ _ ⟨x9443, v9553, v9550, by first | rfl | omega, hI9551, hF9552, (gI_sI_eq hI9447.1 kx_231 rfl _), ((gI_sI_ne (by decide)).trans e9453), ((eA_c gA_sI).trans e9454), ((eA_c gA_sI).trans e9455), ((eA_c gA_sI).trans e9456), ((eA_c gA_sI).trans e9457), (w_p1 (by decide) (Or.inr rfl) (w_p1 (by decide) (Or.inr rfl) (w_p1 (by decide) (Or.inr rfl) e9458))), (w_p1 (by decide) (Or.inr rfl) (w_p1 (by decide) (Or.inr rfl) (w_p1 (by decide) (Or.inr rfl) e9459))), (w_p1 (by decide) (Or.inr rfl) (w_p1 (by decide) (Or.inr rfl) (w_p1 (by decide) (Or.inr rfl) e9460))), (w_e1 _ _ _), by omega, by omega, by omega, by omega, (by intro i i0 i1; refine (eA_ti ((gA_sI))).trans ?_; (first | (refine ((q9466 (i) (by omega) (by omega))).trans ?_; (first | rfl | exact eA_ix (by omega) | omega)) | (refine ((q9467 (i) (by omega) (by omega))).trans ?_; (first | rfl | exact eA_ix (by omega) | omega)) | (refine ((q9473 (i) (by omega) (by omega))).trans ?_; (first | rfl | exact eA_ix (by omega) | omega)))), (by intro i i0 i1; refine (eA_ti ((gA_sI))).trans ?_; (first | (refine ((q9466 (i) (by omega) (by omega))).trans ?_; (first | rfl | exact eA_ix (by omega) | omega)) | (refine ((q9467 (i) (by omega) (by omega))).trans ?_; (first | rfl | exact eA_ix (by omega) | omega)) | (refine ((q9473 (i) (by omega) (by omega))).trans ?_; (first | rfl | exact eA_ix (by omega) | omega)))), by omega, by omega, (RLI.n (by omega) (by omega) q9470 (fun h => by have h2 : x9444.toInt + 6 ≤ (gI g0 231 8).toInt ∧ (eA g9446 233 1).toInt < 8 ∧ (1 ≤ (eA g0 236 x9444.toInt).toInt ∧ (eA g0 236 x9444.toInt).toInt ≤ 9) ∧ (0 ≤ (eA g0 236 (x9444.toInt + 3)).toInt ∧ (eA g0 236 (x9444.toInt + 3)).toInt ≤ 99) ∧ (0 ≤ (eA g0 236 (x9444.toInt + 4)).toInt ∧ (eA g0 236 (x9444.toInt + 4)).toInt ≤ 9) ∧ (0 ≤ (eA g0 236 (x9444.toInt + 5)).toInt ∧ (eA g0 236 (x9444.toInt + 5)).toInt ≤ 9999) ∧ (0 ≤ (eA g0 236 (x9444.toInt + 1)).toInt ∧ (eA g0 236 (x9444.toInt + 1)).toInt < (eA g0 233 0).toInt) ∧ (0 ≤ (eA g0 236 (x9444.toInt + 2)).toInt ∧ (eA g0 236 (x9444.toInt + 2)).toInt < (eA g0 233 0).toInt) := h; have y421_ := congrArg Int32.toInt hv9530; have y422_ := congrArg Int32.toInt hv9532; have y423_ := congrArg Int32.toInt hv9534; have y424_ := congrArg Int32.toInt hv9536; omega) (eA_ti ((gA_sI))) (by omega)), (by have y_ := HI.eqA hI9551 (p := 233) (j := 1) (eA_c (j := 1) ((gA_sI))); omega), by omega, (by intro i i0 i1; refine (eA_ti ((gA_sI))).trans ?_; refine (q9473 i i0 i1).trans ?_; exact RFI.n (by omega) (by omega) q9470 (by omega) rfl (fun k => absurd k.1 (fun h => by have h2 : x9444.toInt + 6 ≤ (gI g0 231 8).toInt ∧ (eA g9446 233 1).toInt < 8 ∧ (1 ≤ (eA g0 236 x9444.toInt).toInt ∧ (eA g0 236 x9444.toInt).toInt ≤ 9) ∧ (0 ≤ (eA g0 236 (x9444.toInt + 3)).toInt ∧ (eA g0 236 (x9444.toInt + 3)).toInt ≤ 99) ∧ (0 ≤ (eA g0 236 (x9444.toInt + 4)).toInt ∧ (eA g0 236 (x9444.toInt + 4)).toInt ≤ 9) ∧ (0 ≤ (eA g0 236 (x9444.toInt + 5)).toInt ∧ (eA g0 236 (x9444.toInt + 5)).toInt ≤ 9999) ∧ (0 ≤ (eA g0 236 (x9444.toInt + 1)).toInt ∧ (eA g0 236 (x9444.toInt + 1)).toInt < (eA g0 233 0).toInt) ∧ (0 ≤ (eA g0 236 (x9444.toInt + 2)).toInt ∧ (eA g0 236 (x9444.toInt + 2)).toInt < (eA g0 233 0).toInt) := h; have y425_ := congrArg Int32.toInt hv9530; have y426_ := congrArg Int32.toInt hv9532; have y427_ := congrArg Int32.toInt hv9534; have y428_ := congrArg Int32.toInt hv9536; omega)))⟩ ⟨by omega, by omega⟩
              · have c9549_ : v9548.toInt ≥ 0 := en_j_lt_f c9549
                refine At.enter rfl ?_
                refine r_lload_n rfl ?_
                refine r_lload rfl ?_
                refine r_lcmp _ rfl ?_
                refine r_ifs 13 rfl (fun c9554 => ?_) (fun c9554 => ?_)
                · have c9554_ : v9548.toInt > 99 := en_j_gt_t c9554
                  refine At.enter rfl ?_
                  refine r_iconst 0 rfl ?_
                  refine Ar.fall 18 rfl ?_
                  refine At.enter rfl ?_
                  refine q_iretz (by decide) ?_
                  refine At.enter rfl ?_
                  refine r_ift (by decide) ?_
                  refine At.enter rfl ?_
                  refine r_iconst 0 rfl ?_
                  refine Ar.fall 53 rfl ?_
                  refine At.enter rfl ?_
                  refine q_iretz (by decide) ?_
                  refine At.enter rfl ?_
                  refine r_ift (by decide) ?_
                  refine At.enter rfl ?_
                  refine r_iconst 0 rfl ?_
                  refine Ar.fall 141 rfl ?_
                  refine At.enter rfl ?_
                  refine r_istore _ rfl ?_
                  refine r_iload (w_e1 _ _ _) ?_
                  refine r_ift (by decide) ?_
                  refine At.enter rfl ?_
                  refine r_aload_n (w_p1 (by decide) (Or.inr rfl) (w_p1 (by decide) (Or.inr rfl) e9458)) ?_
                  refine r_dup rfl ?_
                  refine q_getI (Sh.int hI9447.1 kx_231 rfl) x9445 e9452 ?_
                  refine r_iconst 1 rfl ?_
                  refine q_iadd (x9445.toInt + 1) rfl (by omega) (fun v9555 hv9555 => ?_)
                  refine q_putI (Sh.int hI9447.1 kx_231 rfl) rfl ?_
                  have hI9556 := HI.wI0 hI9447 kx_231 rfl (p := 231) (b := 6) (v := v9555) rfl
                  have hF9557 := Fr.wI (p := 231) (b := 6) (v := v9555) hF9448 rfl
                  refine Ar.fall 214 rfl ?_
                  refine At.enter rfl ?_
                  refine q_iinc (w_p1 (by decide) (Or.inr rfl) (w_p1 (by decide) (Or.inr rfl) e9461)) (x9444.toInt + 6) rfl (by omega) (fun v9558 hv9558 => ?_)
                  refine r_goto ?_
                  exact ih9451 (405 - v9558.toInt) _ _ ⟨x9443, v9558, v9555, by first | rfl | omega, hI9556, hF9557, (gI_sI_eq hI9447.1 kx_231 rfl _), ((gI_sI_ne (by decide)).trans e9453), ((eA_c gA_sI).trans e9454), ((eA_c gA_sI).trans e9455), ((eA_c gA_sI).trans e9456), ((eA_c gA_sI).trans e9457), (w_p1 (by decide) (Or.inr rfl) (w_p1 (by decide) (Or.inr rfl) (w_p1 (by decide) (Or.inr rfl) e9458))), (w_p1 (by decide) (Or.inr rfl) (w_p1 (by decide) (Or.inr rfl) (w_p1 (by decide) (Or.inr rfl) e9459))), (w_p1 (by decide) (Or.inr rfl) (w_p1 (by decide) (Or.inr rfl) (w_p1 (by decide) (Or.inr rfl) e9460))), (w_e1 _ _ _), by omega, by omega, by omega, by omega, (by intro i i0 i1; refine (eA_ti ((gA_sI))).trans ?_; (first | (refine ((q9466 (i) (by omega) (by omega))).trans ?_; (first | rfl | exact eA_ix (by omega) | omega)) | (refine ((q9467 (i) (by omega) (by omega))).trans ?_; (first | rfl | exact eA_ix (by omega) | omega)) | (refine ((q9473 (i) (by omega) (by omega))).trans ?_; (first | rfl | exact eA_ix (by omega) | omega)))), (by intro i i0 i1; refine (eA_ti ((gA_sI))).trans ?_; (first | (refine ((q9466 (i) (by omega) (by omega))).trans ?_; (first | rfl | exact eA_ix (by omega) | omega)) | (refine ((q9467 (i) (by omega) (by omega))).trans ?_; (first | rfl | exact eA_ix (by omega) | omega)) | (refine ((q9473 (i) (by omega) (by omega))).trans ?_; (first | rfl | exact eA_ix (by omega) | omega)))), by omega, by omega, (RLI.n (by omega) (by omega) q9470 (fun h => by have h2 : x9444.toInt + 6 ≤ (gI g0 231 8).toInt ∧ (eA g9446 233 1).toInt < 8 ∧ (1 ≤ (eA g0 236 x9444.toInt).toInt ∧ (eA g0 236 x9444.toInt).toInt ≤ 9) ∧ (0 ≤ (eA g0 236 (x9444.toInt + 3)).toInt ∧ (eA g0 236 (x9444.toInt + 3)).toInt ≤ 99) ∧ (0 ≤ (eA g0 236 (x9444.toInt + 4)).toInt ∧ (eA g0 236 (x9444.toInt + 4)).toInt ≤ 9) ∧ (0 ≤ (eA g0 236 (x9444.toInt + 5)).toInt ∧ (eA g0 236 (x9444.toInt + 5)).toInt ≤ 9999) ∧ (0 ≤ (eA g0 236 (x9444.toInt + 1)).toInt ∧ (eA g0 236 (x9444.toInt + 1)).toInt < (eA g0 233 0).toInt) ∧ (0 ≤ (eA g0 236 (x9444.toInt + 2)).toInt ∧ (eA g0 236 (x9444.toInt + 2)).toInt < (eA g0 233 0).toInt) := h; have y429_ := congrArg Int32.toInt hv9530; have y430_ := congrArg Int32.toInt hv9532; have y431_ := congrArg Int32.toInt hv9534; have y432_ := congrArg Int32.toInt hv9536; omega) (eA_ti ((gA_sI))) (by omega)), (by have y_ := HI.eqA hI9556 (p := 233) (j := 1) (eA_c (j := 1) ((gA_sI))); omega), by omega, (by intro i i0 i1; refine (eA_ti ((gA_sI))).trans ?_; refine (q9473 i i0 i1).trans ?_; exact RFI.n (by omega) (by omega) q9470 (by omega) rfl (fun k => absurd k.1 (fun h => by have h2 : x9444.toInt + 6 ≤ (gI g0 231 8).toInt ∧ (eA g9446 233 1).toInt < 8 ∧ (1 ≤ (eA g0 236 x9444.toInt).toInt ∧ (eA g0 236 x9444.toInt).toInt ≤ 9) ∧ (0 ≤ (eA g0 236 (x9444.toInt + 3)).toInt ∧ (eA g0 236 (x9444.toInt + 3)).toInt ≤ 99) ∧ (0 ≤ (eA g0 236 (x9444.toInt + 4)).toInt ∧ (eA g0 236 (x9444.toInt + 4)).toInt ≤ 9) ∧ (0 ≤ (eA g0 236 (x9444.toInt + 5)).toInt ∧ (eA g0 236 (x9444.toInt + 5)).toInt ≤ 9999) ∧ (0 ≤ (eA g0 236 (x9444.toInt + 1)).toInt ∧ (eA g0 236 (x9444.toInt + 1)).toInt < (eA g0 233 0).toInt) ∧ (0 ≤ (eA g0 236 (x9444.toInt + 2)).toInt ∧ (eA g0 236 (x9444.toInt + 2)).toInt < (eA g0 233 0).toInt) := h; have y433_ := congrArg Int32.toInt hv9530; have y434_ := congrArg Int32.toInt hv9532; have y435_ := congrArg Int32.toInt hv9534; have y436_ := congrArg Int32.toInt hv9536; omega)))⟩ ⟨by omega, by omega⟩
                · have c9554_ : v9548.toInt ≤ 99 := en_j_gt_f c9554
                  refine At.enter rfl ?_
                  refine r_iconst 1 rfl ?_
                  refine r_goto ?_
                  refine At.enter rfl ?_
                  refine q_iretz (by decide) ?_
                  refine At.enter rfl ?_
                  refine r_iff 24 rfl (by decide) ?_
                  refine At.enter rfl ?_
                  refine r_iload_n rfl ?_
                  refine q_i2l (fun v9559 hv9559 => ?_)
                  refine r_lconst 0 rfl ?_
                  refine r_ldc2 9 rfl ?_
                  refine q_inlS 33 rfl [.long v9559, .long 0, .long 9] [] (Nat.le_of_ble_eq_true rfl) rfl ?_
                  refine Ev.mk rfl rfl ⟨Nat.le_of_ble_eq_true rfl, Or.inl rfl⟩ ?_
                  show At _ none _ _ (0, [(0, .long v9559), (2, .long 0), (4, .long 9)], [], (_, _)) _
                  refine At.enter rfl ?_
                  refine r_lload_n rfl ?_
                  refine r_lload_n rfl ?_
                  refine r_lcmp _ rfl ?_
                  refine r_ifs 6 rfl (fun c9560 => ?_) (fun c9560 => ?_)
                  · have c9560_ : v9559.toInt < 0 := en_j_lt_t c9560
                    refine At.enter rfl ?_
                    refine r_iconst 0 rfl ?_
                    refine Ar.fall 18 rfl ?_
                    refine At.enter rfl ?_
                    refine q_iretz (by decide) ?_
                    refine At.enter rfl ?_
                    refine r_ift (by decide) ?_
                    refine At.enter rfl ?_
                    refine r_iconst 0 rfl ?_
                    refine Ar.fall 53 rfl ?_
                    refine At.enter rfl ?_
                    refine q_iretz (by decide) ?_
                    refine At.enter rfl ?_
                    refine r_ift (by decide) ?_
                    refine At.enter rfl ?_
                    refine r_iconst 0 rfl ?_
                    refine Ar.fall 141 rfl ?_
                    refine At.enter rfl ?_
                    refine r_istore _ rfl ?_
                    refine r_iload (w_e1 _ _ _) ?_
                    refine r_ift (by decide) ?_
                    refine At.enter rfl ?_
                    refine r_aload_n (w_p1 (by decide) (Or.inr rfl) (w_p1 (by decide) (Or.inr rfl) e9458)) ?_
                    refine r_dup rfl ?_
                    refine q_getI (Sh.int hI9447.1 kx_231 rfl) x9445 e9452 ?_
                    refine r_iconst 1 rfl ?_
                    refine q_iadd (x9445.toInt + 1) rfl (by omega) (fun v9561 hv9561 => ?_)
                    refine q_putI (Sh.int hI9447.1 kx_231 rfl) rfl ?_
                    have hI9562 := HI.wI0 hI9447 kx_231 rfl (p := 231) (b := 6) (v := v9561) rfl
                    have hF9563 := Fr.wI (p := 231) (b := 6) (v := v9561) hF9448 rfl
                    refine Ar.fall 214 rfl ?_
                    refine At.enter rfl ?_
                    refine q_iinc (w_p1 (by decide) (Or.inr rfl) (w_p1 (by decide) (Or.inr rfl) e9461)) (x9444.toInt + 6) rfl (by omega) (fun v9564 hv9564 => ?_)
                    refine r_goto ?_
                    exact ih9451 (405 - v9564.toInt) _ _ ⟨x9443, v9564, v9561, by first | rfl | omega, hI9562, hF9563, (gI_sI_eq hI9447.1 kx_231 rfl _), ((gI_sI_ne (by decide)).trans e9453), ((eA_c gA_sI).trans e9454), ((eA_c gA_sI).trans e9455), ((eA_c gA_sI).trans e9456), ((eA_c gA_sI).trans e9457), (w_p1 (by decide) (Or.inr rfl) (w_p1 (by decide) (Or.inr rfl) (w_p1 (by decide) (Or.inr rfl) e9458))), (w_p1 (by decide) (Or.inr rfl) (w_p1 (by decide) (Or.inr rfl) (w_p1 (by decide) (Or.inr rfl) e9459))), (w_p1 (by decide) (Or.inr rfl) (w_p1 (by decide) (Or.inr rfl) (w_p1 (by decide) (Or.inr rfl) e9460))), (w_e1 _ _ _), by omega, by omega, by omega, by omega, (by intro i i0 i1; refine (eA_ti ((gA_sI))).trans ?_; (first | (refine ((q9466 (i) (by omega) (by omega))).trans ?_; (first | rfl | exact eA_ix (by omega) | omega)) | (refine ((q9467 (i) (by omega) (by omega))).trans ?_; (first | rfl | exact eA_ix (by omega) | omega)) | (refine ((q9473 (i) (by omega) (by omega))).trans ?_; (first | rfl | exact eA_ix (by omega) | omega)))), (by intro i i0 i1; refine (eA_ti ((gA_sI))).trans ?_; (first | (refine ((q9466 (i) (by omega) (by omega))).trans ?_; (first | rfl | exact eA_ix (by omega) | omega)) | (refine ((q9467 (i) (by omega) (by omega))).trans ?_; (first | rfl | exact eA_ix (by omega) | omega)) | (refine ((q9473 (i) (by omega) (by omega))).trans ?_; (first | rfl | exact eA_ix (by omega) | omega)))), by omega, by omega, (RLI.n (by omega) (by omega) q9470 (fun h => by have h2 : x9444.toInt + 6 ≤ (gI g0 231 8).toInt ∧ (eA g9446 233 1).toInt < 8 ∧ (1 ≤ (eA g0 236 x9444.toInt).toInt ∧ (eA g0 236 x9444.toInt).toInt ≤ 9) ∧ (0 ≤ (eA g0 236 (x9444.toInt + 3)).toInt ∧ (eA g0 236 (x9444.toInt + 3)).toInt ≤ 99) ∧ (0 ≤ (eA g0 236 (x9444.toInt + 4)).toInt ∧ (eA g0 236 (x9444.toInt + 4)).toInt ≤ 9) ∧ (0 ≤ (eA g0 236 (x9444.toInt + 5)).toInt ∧ (eA g0 236 (x9444.toInt + 5)).toInt ≤ 9999) ∧ (0 ≤ (eA g0 236 (x9444.toInt + 1)).toInt ∧ (eA g0 236 (x9444.toInt + 1)).toInt < (eA g0 233 0).toInt) ∧ (0 ≤ (eA g0 236 (x9444.toInt + 2)).toInt ∧ (eA g0 236 (x9444.toInt + 2)).toInt < (eA g0 233 0).toInt) := h; have y437_ := congrArg Int32.toInt hv9530; have y438_ := congrArg Int32.toInt hv9532; have y439_ := congrArg Int32.toInt hv9534; have y440_ := congrArg Int32.toInt hv9536; omega) (eA_ti ((gA_sI))) (by omega)), (by have y_ := HI.eqA hI9562 (p := 233) (j := 1) (eA_c (j := 1) ((gA_sI))); omega), by omega, (by intro i i0 i1; refine (eA_ti ((gA_sI))).trans ?_; refine (q9473 i i0 i1).trans ?_; exact RFI.n (by omega) (by omega) q9470 (by omega) rfl (fun k => absurd k.1 (fun h => by have h2 : x9444.toInt + 6 ≤ (gI g0 231 8).toInt ∧ (eA g9446 233 1).toInt < 8 ∧ (1 ≤ (eA g0 236 x9444.toInt).toInt ∧ (eA g0 236 x9444.toInt).toInt ≤ 9) ∧ (0 ≤ (eA g0 236 (x9444.toInt + 3)).toInt ∧ (eA g0 236 (x9444.toInt + 3)).toInt ≤ 99) ∧ (0 ≤ (eA g0 236 (x9444.toInt + 4)).toInt ∧ (eA g0 236 (x9444.toInt + 4)).toInt ≤ 9) ∧ (0 ≤ (eA g0 236 (x9444.toInt + 5)).toInt ∧ (eA g0 236 (x9444.toInt + 5)).toInt ≤ 9999) ∧ (0 ≤ (eA g0 236 (x9444.toInt + 1)).toInt ∧ (eA g0 236 (x9444.toInt + 1)).toInt < (eA g0 233 0).toInt) ∧ (0 ≤ (eA g0 236 (x9444.toInt + 2)).toInt ∧ (eA g0 236 (x9444.toInt + 2)).toInt < (eA g0 233 0).toInt) := h; have y441_ := congrArg Int32.toInt hv9530; have y442_ := congrArg Int32.toInt hv9532; have y443_ := congrArg Int32.toInt hv9534; have y444_ := congrArg Int32.toInt hv9536; omega)))⟩ ⟨by omega, by omega⟩
                  · have c9560_ : v9559.toInt ≥ 0 := en_j_lt_f c9560
                    refine At.enter rfl ?_
                    refine r_lload_n rfl ?_
                    refine r_lload rfl ?_
                    refine r_lcmp _ rfl ?_
                    refine r_ifs 13 rfl (fun c9565 => ?_) (fun c9565 => ?_)
                    · have c9565_ : v9559.toInt > 9 := en_j_gt_t c9565
                      refine At.enter rfl ?_
                      refine r_iconst 0 rfl ?_
                      refine Ar.fall 18 rfl ?_
                      refine At.enter rfl ?_
                      refine q_iretz (by decide) ?_
                      refine At.enter rfl ?_
                      refine r_ift (by decide) ?_
                      refine At.enter rfl ?_
                      refine r_iconst 0 rfl ?_
                      refine Ar.fall 53 rfl ?_
                      refine At.enter rfl ?_
                      refine q_iretz (by decide) ?_
                      refine At.enter rfl ?_
                      refine r_ift (by decide) ?_
                      refine At.enter rfl ?_
                      refine r_iconst 0 rfl ?_
                      refine Ar.fall 141 rfl ?_
                      refine At.enter rfl ?_
                      refine r_istore _ rfl ?_
                      refine r_iload (w_e1 _ _ _) ?_
                      refine r_ift (by decide) ?_
                      refine At.enter rfl ?_
                      refine r_aload_n (w_p1 (by decide) (Or.inr rfl) (w_p1 (by decide) (Or.inr rfl) e9458)) ?_
                      refine r_dup rfl ?_
                      refine q_getI (Sh.int hI9447.1 kx_231 rfl) x9445 e9452 ?_
                      refine r_iconst 1 rfl ?_
                      refine q_iadd (x9445.toInt + 1) rfl (by omega) (fun v9566 hv9566 => ?_)
                      refine q_putI (Sh.int hI9447.1 kx_231 rfl) rfl ?_
                      have hI9567 := HI.wI0 hI9447 kx_231 rfl (p := 231) (b := 6) (v := v9566) rfl
                      have hF9568 := Fr.wI (p := 231) (b := 6) (v := v9566) hF9448 rfl
                      refine Ar.fall 214 rfl ?_
                      refine At.enter rfl ?_
                      refine q_iinc (w_p1 (by decide) (Or.inr rfl) (w_p1 (by decide) (Or.inr rfl) e9461)) (x9444.toInt + 6) rfl (by omega) (fun v9569 hv9569 => ?_)
                      refine r_goto ?_
                      exact ih9451 (405 - v9569.toInt) _ _ ⟨x9443, v9569, v9566, by first | rfl | omega, hI9567, hF9568, (gI_sI_eq hI9447.1 kx_231 rfl _), ((gI_sI_ne (by decide)).trans e9453), ((eA_c gA_sI).trans e9454), ((eA_c gA_sI).trans e9455), ((eA_c gA_sI).trans e9456), ((eA_c gA_sI).trans e9457), (w_p1 (by decide) (Or.inr rfl) (w_p1 (by decide) (Or.inr rfl) (w_p1 (by decide) (Or.inr rfl) e9458))), (w_p1 (by decide) (Or.inr rfl) (w_p1 (by decide) (Or.inr rfl) (w_p1 (by decide) (Or.inr rfl) e9459))), (w_p1 (by decide) (Or.inr rfl) (w_p1 (by decide) (Or.inr rfl) (w_p1 (by decide) (Or.inr rfl) e9460))), (w_e1 _ _ _), by omega, by omega, by omega, by omega, (by intro i i0 i1; refine (eA_ti ((gA_sI))).trans ?_; (first | (refine ((q9466 (i) (by omega) (by omega))).trans ?_; (first | rfl | exact eA_ix (by omega) | omega)) | (refine ((q9467 (i) (by omega) (by omega))).trans ?_; (first | rfl | exact eA_ix (by omega) | omega)) | (refine ((q9473 (i) (by omega) (by omega))).trans ?_; (first | rfl | exact eA_ix (by omega) | omega)))), (by intro i i0 i1; refine (eA_ti ((gA_sI))).trans ?_; (first | (refine ((q9466 (i) (by omega) (by omega))).trans ?_; (first | rfl | exact eA_ix (by omega) | omega)) | (refine ((q9467 (i) (by omega) (by omega))).trans ?_; (first | rfl | exact eA_ix (by omega) | omega)) | (refine ((q9473 (i) (by omega) (by omega))).trans ?_; (first | rfl | exact eA_ix (by omega) | omega)))), by omega, by omega, (RLI.n (by omega) (by omega) q9470 (fun h => by have h2 : x9444.toInt + 6 ≤ (gI g0 231 8).toInt ∧ (eA g9446 233 1).toInt < 8 ∧ (1 ≤ (eA g0 236 x9444.toInt).toInt ∧ (eA g0 236 x9444.toInt).toInt ≤ 9) ∧ (0 ≤ (eA g0 236 (x9444.toInt + 3)).toInt ∧ (eA g0 236 (x9444.toInt + 3)).toInt ≤ 99) ∧ (0 ≤ (eA g0 236 (x9444.toInt + 4)).toInt ∧ (eA g0 236 (x9444.toInt + 4)).toInt ≤ 9) ∧ (0 ≤ (eA g0 236 (x9444.toInt + 5)).toInt ∧ (eA g0 236 (x9444.toInt + 5)).toInt ≤ 9999) ∧ (0 ≤ (eA g0 236 (x9444.toInt + 1)).toInt ∧ (eA g0 236 (x9444.toInt + 1)).toInt < (eA g0 233 0).toInt) ∧ (0 ≤ (eA g0 236 (x9444.toInt + 2)).toInt ∧ (eA g0 236 (x9444.toInt + 2)).toInt < (eA g0 233 0).toInt) := h; have y445_ := congrArg Int32.toInt hv9530; have y446_ := congrArg Int32.toInt hv9532; have y447_ := congrArg Int32.toInt hv9534; have y448_ := congrArg Int32.toInt hv9536; omega) (eA_ti ((gA_sI))) (by omega)), (by have y_ := HI.eqA hI9567 (p := 233) (j := 1) (eA_c (j := 1) ((gA_sI))); omega), by omega, (by intro i i0 i1; refine (eA_ti ((gA_sI))).trans ?_; refine (q9473 i i0 i1).trans ?_; exact RFI.n (by omega) (by omega) q9470 (by omega) rfl (fun k => absurd k.1 (fun h => by have h2 : x9444.toInt + 6 ≤ (gI g0 231 8).toInt ∧ (eA g9446 233 1).toInt < 8 ∧ (1 ≤ (eA g0 236 x9444.toInt).toInt ∧ (eA g0 236 x9444.toInt).toInt ≤ 9) ∧ (0 ≤ (eA g0 236 (x9444.toInt + 3)).toInt ∧ (eA g0 236 (x9444.toInt + 3)).toInt ≤ 99) ∧ (0 ≤ (eA g0 236 (x9444.toInt + 4)).toInt ∧ (eA g0 236 (x9444.toInt + 4)).toInt ≤ 9) ∧ (0 ≤ (eA g0 236 (x9444.toInt + 5)).toInt ∧ (eA g0 236 (x9444.toInt + 5)).toInt ≤ 9999) ∧ (0 ≤ (eA g0 236 (x9444.toInt + 1)).toInt ∧ (eA g0 236 (x9444.toInt + 1)).toInt < (eA g0 233 0).toInt) ∧ (0 ≤ (eA g0 236 (x9444.toInt + 2)).toInt ∧ (eA g0 236 (x9444.toInt + 2)).toInt < (eA g0 233 0).toInt) := h; have y449_ := congrArg Int32.toInt hv9530; have y450_ := congrArg Int32.toInt hv9532; have y451_ := congrArg Int32.toInt hv9534; have y452_ := congrArg Int32.toInt hv9536; omega)))⟩ ⟨by omega, by omega⟩
                    · have c9565_ : v9559.toInt ≤ 9 := en_j_gt_f c9565
                      refine At.enter rfl ?_
                      refine r_iconst 1 rfl ?_
                      refine r_goto ?_
                      refine At.enter rfl ?_
                      refine q_iretz (by decide) ?_
                      refine At.enter rfl ?_
                      refine r_iff 36 rfl (by decide) ?_
                      refine At.enter rfl ?_
                      refine r_iload_n rfl ?_
                      refine q_i2l (fun v9570 hv9570 => ?_)
                      refine r_lconst 0 rfl ?_
                      refine r_ldc2 9999 rfl ?_
                      refine q_inlS 45 rfl [.long v9570, .long 0, .long 9999] [] (Nat.le_of_ble_eq_true rfl) rfl ?_
                      refine Ev.mk rfl rfl ⟨Nat.le_of_ble_eq_true rfl, Or.inl rfl⟩ ?_
                      show At _ none _ _ (0, [(0, .long v9570), (2, .long 0), (4, .long 9999)], [], (_, _)) _
                      refine At.enter rfl ?_
                      refine r_lload_n rfl ?_
                      refine r_lload_n rfl ?_
                      refine r_lcmp _ rfl ?_
                      refine r_ifs 6 rfl (fun c9571 => ?_) (fun c9571 => ?_)
                      · have c9571_ : v9570.toInt < 0 := en_j_lt_t c9571
                        refine At.enter rfl ?_
                        refine r_iconst 0 rfl ?_
                        refine Ar.fall 18 rfl ?_
                        refine At.enter rfl ?_
                        refine q_iretz (by decide) ?_
                        refine At.enter rfl ?_
                        refine r_ift (by decide) ?_
                        refine At.enter rfl ?_
                        refine r_iconst 0 rfl ?_
                        refine Ar.fall 53 rfl ?_
                        refine At.enter rfl ?_
                        refine q_iretz (by decide) ?_
                        refine At.enter rfl ?_
                        refine r_ift (by decide) ?_
                        refine At.enter rfl ?_
                        refine r_iconst 0 rfl ?_
                        refine Ar.fall 141 rfl ?_
                        refine At.enter rfl ?_
                        refine r_istore _ rfl ?_
                        refine r_iload (w_e1 _ _ _) ?_
                        refine r_ift (by decide) ?_
                        refine At.enter rfl ?_
                        refine r_aload_n (w_p1 (by decide) (Or.inr rfl) (w_p1 (by decide) (Or.inr rfl) e9458)) ?_
                        refine r_dup rfl ?_
                        refine q_getI (Sh.int hI9447.1 kx_231 rfl) x9445 e9452 ?_
                        refine r_iconst 1 rfl ?_
                        refine q_iadd (x9445.toInt + 1) rfl (by omega) (fun v9572 hv9572 => ?_)
                        refine q_putI (Sh.int hI9447.1 kx_231 rfl) rfl ?_
                        have hI9573 := HI.wI0 hI9447 kx_231 rfl (p := 231) (b := 6) (v := v9572) rfl
                        have hF9574 := Fr.wI (p := 231) (b := 6) (v := v9572) hF9448 rfl
                        refine Ar.fall 214 rfl ?_
                        refine At.enter rfl ?_
                        refine q_iinc (w_p1 (by decide) (Or.inr rfl) (w_p1 (by decide) (Or.inr rfl) e9461)) (x9444.toInt + 6) rfl (by omega) (fun v9575 hv9575 => ?_)
                        refine r_goto ?_
                        exact ih9451 (405 - v9575.toInt) _ _ ⟨x9443, v9575, v9572, by first | rfl | omega, hI9573, hF9574, (gI_sI_eq hI9447.1 kx_231 rfl _), ((gI_sI_ne (by decide)).trans e9453), ((eA_c gA_sI).trans e9454), ((eA_c gA_sI).trans e9455), ((eA_c gA_sI).trans e9456), ((eA_c gA_sI).trans e9457), (w_p1 (by decide) (Or.inr rfl) (w_p1 (by decide) (Or.inr rfl) (w_p1 (by decide) (Or.inr rfl) e9458))), (w_p1 (by decide) (Or.inr rfl) (w_p1 (by decide) (Or.inr rfl) (w_p1 (by decide) (Or.inr rfl) e9459))), (w_p1 (by decide) (Or.inr rfl) (w_p1 (by decide) (Or.inr rfl) (w_p1 (by decide) (Or.inr rfl) e9460))), (w_e1 _ _ _), by omega, by omega, by omega, by omega, (by intro i i0 i1; refine (eA_ti ((gA_sI))).trans ?_; (first | (refine ((q9466 (i) (by omega) (by omega))).trans ?_; (first | rfl | exact eA_ix (by omega) | omega)) | (refine ((q9467 (i) (by omega) (by omega))).trans ?_; (first | rfl | exact eA_ix (by omega) | omega)) | (refine ((q9473 (i) (by omega) (by omega))).trans ?_; (first | rfl | exact eA_ix (by omega) | omega)))), (by intro i i0 i1; refine (eA_ti ((gA_sI))).trans ?_; (first | (refine ((q9466 (i) (by omega) (by omega))).trans ?_; (first | rfl | exact eA_ix (by omega) | omega)) | (refine ((q9467 (i) (by omega) (by omega))).trans ?_; (first | rfl | exact eA_ix (by omega) | omega)) | (refine ((q9473 (i) (by omega) (by omega))).trans ?_; (first | rfl | exact eA_ix (by omega) | omega)))), by omega, by omega, (RLI.n (by omega) (by omega) q9470 (fun h => by have h2 : x9444.toInt + 6 ≤ (gI g0 231 8).toInt ∧ (eA g9446 233 1).toInt < 8 ∧ (1 ≤ (eA g0 236 x9444.toInt).toInt ∧ (eA g0 236 x9444.toInt).toInt ≤ 9) ∧ (0 ≤ (eA g0 236 (x9444.toInt + 3)).toInt ∧ (eA g0 236 (x9444.toInt + 3)).toInt ≤ 99) ∧ (0 ≤ (eA g0 236 (x9444.toInt + 4)).toInt ∧ (eA g0 236 (x9444.toInt + 4)).toInt ≤ 9) ∧ (0 ≤ (eA g0 236 (x9444.toInt + 5)).toInt ∧ (eA g0 236 (x9444.toInt + 5)).toInt ≤ 9999) ∧ (0 ≤ (eA g0 236 (x9444.toInt + 1)).toInt ∧ (eA g0 236 (x9444.toInt + 1)).toInt < (eA g0 233 0).toInt) ∧ (0 ≤ (eA g0 236 (x9444.toInt + 2)).toInt ∧ (eA g0 236 (x9444.toInt + 2)).toInt < (eA g0 233 0).toInt) := h; have y453_ := congrArg Int32.toInt hv9530; have y454_ := congrArg Int32.toInt hv9532; have y455_ := congrArg Int32.toInt hv9534; have y456_ := congrArg Int32.toInt hv9536; omega) (eA_ti ((gA_sI))) (by omega)), (by have y_ := HI.eqA hI9573 (p := 233) (j := 1) (eA_c (j := 1) ((gA_sI))); omega), by omega, (by intro i i0 i1; refine (eA_ti ((gA_sI))).trans ?_; refine (q9473 i i0 i1).trans ?_; exact RFI.n (by omega) (by omega) q9470 (by omega) rfl (fun k => absurd k.1 (fun h => by have h2 : x9444.toInt + 6 ≤ (gI g0 231 8).toInt ∧ (eA g9446 233 1).toInt < 8 ∧ (1 ≤ (eA g0 236 x9444.toInt).toInt ∧ (eA g0 236 x9444.toInt).toInt ≤ 9) ∧ (0 ≤ (eA g0 236 (x9444.toInt + 3)).toInt ∧ (eA g0 236 (x9444.toInt + 3)).toInt ≤ 99) ∧ (0 ≤ (eA g0 236 (x9444.toInt + 4)).toInt ∧ (eA g0 236 (x9444.toInt + 4)).toInt ≤ 9) ∧ (0 ≤ (eA g0 236 (x9444.toInt + 5)).toInt ∧ (eA g0 236 (x9444.toInt + 5)).toInt ≤ 9999) ∧ (0 ≤ (eA g0 236 (x9444.toInt + 1)).toInt ∧ (eA g0 236 (x9444.toInt + 1)).toInt < (eA g0 233 0).toInt) ∧ (0 ≤ (eA g0 236 (x9444.toInt + 2)).toInt ∧ (eA g0 236 (x9444.toInt + 2)).toInt < (eA g0 233 0).toInt) := h; have y457_ := congrArg Int32.toInt hv9530; have y458_ := congrArg Int32.toInt hv9532; have y459_ := congrArg Int32.toInt hv9534; have y460_ := congrArg Int32.toInt hv9536; omega)))⟩ ⟨by omega, by omega⟩
                      · have c9571_ : v9570.toInt ≥ 0 := en_j_lt_f c9571
                        refine At.enter rfl ?_
                        refine r_lload_n rfl ?_
                        refine r_lload rfl ?_
                        refine r_lcmp _ rfl ?_
                        refine r_ifs 13 rfl (fun c9576 => ?_) (fun c9576 => ?_)
                        · have c9576_ : v9570.toInt > 9999 := en_j_gt_t c9576
                          refine At.enter rfl ?_
                          refine r_iconst 0 rfl ?_
                          refine Ar.fall 18 rfl ?_
                          refine At.enter rfl ?_
                          refine q_iretz (by decide) ?_
                          refine At.enter rfl ?_
                          refine r_ift (by decide) ?_
                          refine At.enter rfl ?_
                          refine r_iconst 0 rfl ?_
                          refine Ar.fall 53 rfl ?_
                          refine At.enter rfl ?_
                          refine q_iretz (by decide) ?_
                          refine At.enter rfl ?_
                          refine r_ift (by decide) ?_
                          refine At.enter rfl ?_
                          refine r_iconst 0 rfl ?_
                          refine Ar.fall 141 rfl ?_
                          refine At.enter rfl ?_
                          refine r_istore _ rfl ?_
                          refine r_iload (w_e1 _ _ _) ?_
                          refine r_ift (by decide) ?_
                          refine At.enter rfl ?_
                          refine r_aload_n (w_p1 (by decide) (Or.inr rfl) (w_p1 (by decide) (Or.inr rfl) e9458)) ?_
                          refine r_dup rfl ?_
                          refine q_getI (Sh.int hI9447.1 kx_231 rfl) x9445 e9452 ?_
                          refine r_iconst 1 rfl ?_
                          refine q_iadd (x9445.toInt + 1) rfl (by omega) (fun v9577 hv9577 => ?_)
                          refine q_putI (Sh.int hI9447.1 kx_231 rfl) rfl ?_
                          have hI9578 := HI.wI0 hI9447 kx_231 rfl (p := 231) (b := 6) (v := v9577) rfl
                          have hF9579 := Fr.wI (p := 231) (b := 6) (v := v9577) hF9448 rfl
                          refine Ar.fall 214 rfl ?_
                          refine At.enter rfl ?_
                          refine q_iinc (w_p1 (by decide) (Or.inr rfl) (w_p1 (by decide) (Or.inr rfl) e9461)) (x9444.toInt + 6) rfl (by omega) (fun v9580 hv9580 => ?_)
                          refine r_goto ?_
                          exact ih9451 (405 - v9580.toInt) _ _ ⟨x9443, v9580, v9577, by first | rfl | omega, hI9578, hF9579, (gI_sI_eq hI9447.1 kx_231 rfl _), ((gI_sI_ne (by decide)).trans e9453), ((eA_c gA_sI).trans e9454), ((eA_c gA_sI).trans e9455), ((eA_c gA_sI).trans e9456), ((eA_c gA_sI).trans e9457), (w_p1 (by decide) (Or.inr rfl) (w_p1 (by decide) (Or.inr rfl) (w_p1 (by decide) (Or.inr rfl) e9458))), (w_p1 (by decide) (Or.inr rfl) (w_p1 (by decide) (Or.inr rfl) (w_p1 (by decide) (Or.inr rfl) e9459))), (w_p1 (by decide) (Or.inr rfl) (w_p1 (by decide) (Or.inr rfl) (w_p1 (by decide) (Or.inr rfl) e9460))), (w_e1 _ _ _), by omega, by omega, by omega, by omega, (by intro i i0 i1; refine (eA_ti ((gA_sI))).trans ?_; (first | (refine ((q9466 (i) (by omega) (by omega))).trans ?_; (first | rfl | exact eA_ix (by omega) | omega)) | (refine ((q9467 (i) (by omega) (by omega))).trans ?_; (first | rfl | exact eA_ix (by omega) | omega)) | (refine ((q9473 (i) (by omega) (by omega))).trans ?_; (first | rfl | exact eA_ix (by omega) | omega)))), (by intro i i0 i1; refine (eA_ti ((gA_sI))).trans ?_; (first | (refine ((q9466 (i) (by omega) (by omega))).trans ?_; (first | rfl | exact eA_ix (by omega) | omega)) | (refine ((q9467 (i) (by omega) (by omega))).trans ?_; (first | rfl | exact eA_ix (by omega) | omega)) | (refine ((q9473 (i) (by omega) (by omega))).trans ?_; (first | rfl | exact eA_ix (by omega) | omega)))), by omega, by omega, (RLI.n (by omega) (by omega) q9470 (fun h => by have h2 : x9444.toInt + 6 ≤ (gI g0 231 8).toInt ∧ (eA g9446 233 1).toInt < 8 ∧ (1 ≤ (eA g0 236 x9444.toInt).toInt ∧ (eA g0 236 x9444.toInt).toInt ≤ 9) ∧ (0 ≤ (eA g0 236 (x9444.toInt + 3)).toInt ∧ (eA g0 236 (x9444.toInt + 3)).toInt ≤ 99) ∧ (0 ≤ (eA g0 236 (x9444.toInt + 4)).toInt ∧ (eA g0 236 (x9444.toInt + 4)).toInt ≤ 9) ∧ (0 ≤ (eA g0 236 (x9444.toInt + 5)).toInt ∧ (eA g0 236 (x9444.toInt + 5)).toInt ≤ 9999) ∧ (0 ≤ (eA g0 236 (x9444.toInt + 1)).toInt ∧ (eA g0 236 (x9444.toInt + 1)).toInt < (eA g0 233 0).toInt) ∧ (0 ≤ (eA g0 236 (x9444.toInt + 2)).toInt ∧ (eA g0 236 (x9444.toInt + 2)).toInt < (eA g0 233 0).toInt) := h; have y461_ := congrArg Int32.toInt hv9530; have y462_ := congrArg Int32.toInt hv9532; have y463_ := congrArg Int32.toInt hv9534; have y464_ := congrArg Int32.toInt hv9536; omega) (eA_ti ((gA_sI))) (by omega)), (by have y_ := HI.eqA hI9578 (p := 233) (j := 1) (eA_c (j := 1) ((gA_sI))); omega), by omega, (by intro i i0 i1; refine (eA_ti ((gA_sI))).trans ?_; refine (q9473 i i0 i1).trans ?_; exact RFI.n (by omega) (by omega) q9470 (by omega) rfl (fun k => absurd k.1 (fun h => by have h2 : x9444.toInt + 6 ≤ (gI g0 231 8).toInt ∧ (eA g9446 233 1).toInt < 8 ∧ (1 ≤ (eA g0 236 x9444.toInt).toInt ∧ (eA g0 236 x9444.toInt).toInt ≤ 9) ∧ (0 ≤ (eA g0 236 (x9444.toInt + 3)).toInt ∧ (eA g0 236 (x9444.toInt + 3)).toInt ≤ 99) ∧ (0 ≤ (eA g0 236 (x9444.toInt + 4)).toInt ∧ (eA g0 236 (x9444.toInt + 4)).toInt ≤ 9) ∧ (0 ≤ (eA g0 236 (x9444.toInt + 5)).toInt ∧ (eA g0 236 (x9444.toInt + 5)).toInt ≤ 9999) ∧ (0 ≤ (eA g0 236 (x9444.toInt + 1)).toInt ∧ (eA g0 236 (x9444.toInt + 1)).toInt < (eA g0 233 0).toInt) ∧ (0 ≤ (eA g0 236 (x9444.toInt + 2)).toInt ∧ (eA g0 236 (x9444.toInt + 2)).toInt < (eA g0 233 0).toInt) := h; have y465_ := congrArg Int32.toInt hv9530; have y466_ := congrArg Int32.toInt hv9532; have y467_ := congrArg Int32.toInt hv9534; have y468_ := congrArg Int32.toInt hv9536; omega)))⟩ ⟨by omega, by omega⟩
                        · have c9576_ : v9570.toInt ≤ 9999 := en_j_gt_f c9576
                          refine At.enter rfl ?_
                          refine r_iconst 1 rfl ?_
                          refine r_goto ?_
                          refine At.enter rfl ?_
                          refine q_iretz (by decide) ?_
                          refine At.enter rfl ?_
                          refine r_iff 48 rfl (by decide) ?_
                          refine At.enter rfl ?_
                          refine r_iconst 1 rfl ?_
                          refine r_goto ?_
                          refine At.enter rfl ?_
                          refine q_iretz (by decide) ?_
                          refine At.enter rfl ?_
                          refine r_iff 106 rfl (by decide) ?_
                          refine At.enter rfl ?_
                          refine r_aload_n (w_p1 (by decide) (Or.inr rfl) e9458) ?_
                          refine r_aload_n (w_p1 (by decide) (Or.inr rfl) e9458) ?_
                          refine q_getR (Sh.ref hI9447.1 kx_231 rfl) ?_
                          refine r_iload_n (w_p1 (by decide) (Or.inr rfl) e9461) ?_
                          refine r_iconst 1 rfl ?_
                          refine q_iadd (x9444.toInt + 1) rfl (by omega) (fun v9581 hv9581 => ?_)
                          obtain ⟨v9582, hv9582⟩ : ∃ v, eA g0 236 (x9444.toInt + 1) = v := ⟨_, rfl⟩
                          refine q_iald (Sh.arr hI9447.1 ka_236) (x9444.toInt + 1) (by omega) (by omega) v9582 ((eA_c (hF9448.2.1 236 (by decide))).trans hv9582) ?_
                          refine q_inlV 118 rfl [.ref 231, .int v9582] [] (Nat.le_of_ble_eq_true rfl) rfl ?_
                          refine Ev.mk rfl rfl ⟨Nat.le_of_ble_eq_true rfl, Or.inr (q_rc hI9447.1 kx_231 rfl)⟩ ?_
                          show At _ none _ _ (0, [(0, .ref 231), (1, .int v9582)], [], (_, _)) _
                          refine At.enter rfl ?_
                          refine r_iload_n rfl ?_
                          refine q_i2l (fun v9583 hv9583 => ?_)
                          refine r_lconst 0 rfl ?_
                          refine r_aload_n rfl ?_
                          refine q_getR (Sh.ref hI9447.1 kx_231 rfl) ?_
                          refine r_iconst 0 rfl ?_
                          refine q_iald (Sh.arr hI9447.1 ka_233) 0 rfl (by decide) v6421 e9454 ?_
                          refine q_i2l (fun v9584 hv9584 => ?_)
                          refine r_lconst 1 rfl ?_
                          refine q_lsub (v9584.toInt - 1) rfl (by omega) (fun v9585 hv9585 => ?_)
                          refine q_inlS 15 rfl [.long v9583, .long 0, .long v9585] [] (Nat.le_of_ble_eq_true rfl) rfl ?_
                          refine Ev.mk rfl rfl ⟨Nat.le_of_ble_eq_true rfl, Or.inl rfl⟩ ?_
                          show At _ none _ _ (0, [(0, .long v9583), (2, .long 0), (4, .long v9585)], [], (_, _)) _
                          refine At.enter rfl ?_
                          refine r_lload_n rfl ?_
                          refine r_lload_n rfl ?_
                          refine r_lcmp _ rfl ?_
                          refine r_ifs 6 rfl (fun c9586 => ?_) (fun c9586 => ?_)
                          · have c9586_ : v9583.toInt < 0 := en_j_lt_t c9586
                            refine At.enter rfl ?_
                            refine r_iconst 0 rfl ?_
                            refine Ar.fall 18 rfl ?_
                            refine At.enter rfl ?_
                            refine q_iretz (by decide) ?_
                            refine At.enter rfl ?_
                            refine q_iretz (by decide) ?_
                            refine At.enter rfl ?_
                            refine r_ift (by decide) ?_
                            refine At.enter rfl ?_
                            refine r_iconst 0 rfl ?_
                            refine Ar.fall 141 rfl ?_
                            refine At.enter rfl ?_
                            refine r_istore _ rfl ?_
                            refine r_iload (w_e1 _ _ _) ?_
                            refine r_ift (by decide) ?_
                            refine At.enter rfl ?_
                            refine r_aload_n (w_p1 (by decide) (Or.inr rfl) (w_p1 (by decide) (Or.inr rfl) e9458)) ?_
                            refine r_dup rfl ?_
                            refine q_getI (Sh.int hI9447.1 kx_231 rfl) x9445 e9452 ?_
                            refine r_iconst 1 rfl ?_
                            refine q_iadd (x9445.toInt + 1) rfl (by omega) (fun v9587 hv9587 => ?_)
                            refine q_putI (Sh.int hI9447.1 kx_231 rfl) rfl ?_
                            have hI9588 := HI.wI0 hI9447 kx_231 rfl (p := 231) (b := 6) (v := v9587) rfl
                            have hF9589 := Fr.wI (p := 231) (b := 6) (v := v9587) hF9448 rfl
                            refine Ar.fall 214 rfl ?_
                            refine At.enter rfl ?_
                            refine q_iinc (w_p1 (by decide) (Or.inr rfl) (w_p1 (by decide) (Or.inr rfl) e9461)) (x9444.toInt + 6) rfl (by omega) (fun v9590 hv9590 => ?_)
                            refine r_goto ?_
                            exact ih9451 (405 - v9590.toInt) _ _ ⟨x9443, v9590, v9587, by first | rfl | omega, hI9588, hF9589, (gI_sI_eq hI9447.1 kx_231 rfl _), ((gI_sI_ne (by decide)).trans e9453), ((eA_c gA_sI).trans e9454), ((eA_c gA_sI).trans e9455), ((eA_c gA_sI).trans e9456), ((eA_c gA_sI).trans e9457), (w_p1 (by decide) (Or.inr rfl) (w_p1 (by decide) (Or.inr rfl) (w_p1 (by decide) (Or.inr rfl) e9458))), (w_p1 (by decide) (Or.inr rfl) (w_p1 (by decide) (Or.inr rfl) (w_p1 (by decide) (Or.inr rfl) e9459))), (w_p1 (by decide) (Or.inr rfl) (w_p1 (by decide) (Or.inr rfl) (w_p1 (by decide) (Or.inr rfl) e9460))), (w_e1 _ _ _), by omega, by omega, by omega, by omega, (by intro i i0 i1; refine (eA_ti ((gA_sI))).trans ?_; (first | (refine ((q9466 (i) (by omega) (by omega))).trans ?_; (first | rfl | exact eA_ix (by omega) | omega)) | (refine ((q9467 (i) (by omega) (by omega))).trans ?_; (first | rfl | exact eA_ix (by omega) | omega)) | (refine ((q9473 (i) (by omega) (by omega))).trans ?_; (first | rfl | exact eA_ix (by omega) | omega)))), (by intro i i0 i1; refine (eA_ti ((gA_sI))).trans ?_; (first | (refine ((q9466 (i) (by omega) (by omega))).trans ?_; (first | rfl | exact eA_ix (by omega) | omega)) | (refine ((q9467 (i) (by omega) (by omega))).trans ?_; (first | rfl | exact eA_ix (by omega) | omega)) | (refine ((q9473 (i) (by omega) (by omega))).trans ?_; (first | rfl | exact eA_ix (by omega) | omega)))), by omega, by omega, (RLI.n (by omega) (by omega) q9470 (fun h => by have h2 : x9444.toInt + 6 ≤ (gI g0 231 8).toInt ∧ (eA g9446 233 1).toInt < 8 ∧ (1 ≤ (eA g0 236 x9444.toInt).toInt ∧ (eA g0 236 x9444.toInt).toInt ≤ 9) ∧ (0 ≤ (eA g0 236 (x9444.toInt + 3)).toInt ∧ (eA g0 236 (x9444.toInt + 3)).toInt ≤ 99) ∧ (0 ≤ (eA g0 236 (x9444.toInt + 4)).toInt ∧ (eA g0 236 (x9444.toInt + 4)).toInt ≤ 9) ∧ (0 ≤ (eA g0 236 (x9444.toInt + 5)).toInt ∧ (eA g0 236 (x9444.toInt + 5)).toInt ≤ 9999) ∧ (0 ≤ (eA g0 236 (x9444.toInt + 1)).toInt ∧ (eA g0 236 (x9444.toInt + 1)).toInt < (eA g0 233 0).toInt) ∧ (0 ≤ (eA g0 236 (x9444.toInt + 2)).toInt ∧ (eA g0 236 (x9444.toInt + 2)).toInt < (eA g0 233 0).toInt) := h; have y469_ := congrArg Int32.toInt hv9530; have y470_ := congrArg Int32.toInt hv9532; have y471_ := congrArg Int32.toInt hv9534; have y472_ := congrArg Int32.toInt hv9536; have y473_ := congrArg Int32.toInt hv9582; omega) (eA_ti ((gA_sI))) (by omega)), (by have y_ := HI.eqA hI9588 (p := 233) (j := 1) (eA_c (j := 1) ((gA_sI))); omega), by omega, (by intro i i0 i1; refine (eA_ti ((gA_sI))).trans ?_; refine (q9473 i i0 i1).trans ?_; exact RFI.n (by omega) (by omega) q9470 (by omega) rfl (fun k => absurd k.1 (fun h => by have h2 : x9444.toInt + 6 ≤ (gI g0 231 8).toInt ∧ (eA g9446 233 1).toInt < 8 ∧ (1 ≤ (eA g0 236 x9444.toInt).toInt ∧ (eA g0 236 x9444.toInt).toInt ≤ 9) ∧ (0 ≤ (eA g0 236 (x9444.toInt + 3)).toInt ∧ (eA g0 236 (x9444.toInt + 3)).toInt ≤ 99) ∧ (0 ≤ (eA g0 236 (x9444.toInt + 4)).toInt ∧ (eA g0 236 (x9444.toInt + 4)).toInt ≤ 9) ∧ (0 ≤ (eA g0 236 (x9444.toInt + 5)).toInt ∧ (eA g0 236 (x9444.toInt + 5)).toInt ≤ 9999) ∧ (0 ≤ (eA g0 236 (x9444.toInt + 1)).toInt ∧ (eA g0 236 (x9444.toInt + 1)).toInt < (eA g0 233 0).toInt) ∧ (0 ≤ (eA g0 236 (x9444.toInt + 2)).toInt ∧ (eA g0 236 (x9444.toInt + 2)).toInt < (eA g0 233 0).toInt) := h; have y474_ := congrArg Int32.toInt hv9530; have y475_ := congrArg Int32.toInt hv9532; have y476_ := congrArg Int32.toInt hv9534; have y477_ := congrArg Int32.toInt hv9536; have y478_ := congrArg Int32.toInt hv9582; omega)))⟩ ⟨by omega, by omega⟩
                          · have c9586_ : v9583.toInt ≥ 0 := en_j_lt_f c9586
                            refine At.enter rfl ?_
                            refine r_lload_n rfl ?_
                            refine r_lload rfl ?_
                            refine r_lcmp _ rfl ?_
                            refine r_ifs 13 rfl (fun c9591 => ?_) (fun c9591 => ?_)
                            · have c9591_ : v9583.toInt > v9585.toInt := en_j_gt_t c9591
                              refine At.enter rfl ?_
                              refine r_iconst 0 rfl ?_
                              refine Ar.fall 18 rfl ?_
                              refine At.enter rfl ?_
                              refine q_iretz (by decide) ?_
                              refine At.enter rfl ?_
                              refine q_iretz (by decide) ?_
                              refine At.enter rfl ?_
                              refine r_ift (by decide) ?_
                              refine At.enter rfl ?_
                              refine r_iconst 0 rfl ?_
                              refine Ar.fall 141 rfl ?_
                              refine At.enter rfl ?_
                              refine r_istore _ rfl ?_
                              refine r_iload (w_e1 _ _ _) ?_
                              refine r_ift (by decide) ?_
                              refine At.enter rfl ?_
                              refine r_aload_n (w_p1 (by decide) (Or.inr rfl) (w_p1 (by decide) (Or.inr rfl) e9458)) ?_
                              refine r_dup rfl ?_
                              refine q_getI (Sh.int hI9447.1 kx_231 rfl) x9445 e9452 ?_
                              refine r_iconst 1 rfl ?_
                              refine q_iadd (x9445.toInt + 1) rfl (by omega) (fun v9592 hv9592 => ?_)
                              refine q_putI (Sh.int hI9447.1 kx_231 rfl) rfl ?_
                              have hI9593 := HI.wI0 hI9447 kx_231 rfl (p := 231) (b := 6) (v := v9592) rfl
                              have hF9594 := Fr.wI (p := 231) (b := 6) (v := v9592) hF9448 rfl
                              refine Ar.fall 214 rfl ?_
                              refine At.enter rfl ?_
                              refine q_iinc (w_p1 (by decide) (Or.inr rfl) (w_p1 (by decide) (Or.inr rfl) e9461)) (x9444.toInt + 6) rfl (by omega) (fun v9595 hv9595 => ?_)
                              refine r_goto ?_
                              exact ih9451 (405 - v9595.toInt) _ _ ⟨x9443, v9595, v9592, by first | rfl | omega, hI9593, hF9594, (gI_sI_eq hI9447.1 kx_231 rfl _), ((gI_sI_ne (by decide)).trans e9453), ((eA_c gA_sI).trans e9454), ((eA_c gA_sI).trans e9455), ((eA_c gA_sI).trans e9456), ((eA_c gA_sI).trans e9457), (w_p1 (by decide) (Or.inr rfl) (w_p1 (by decide) (Or.inr rfl) (w_p1 (by decide) (Or.inr rfl) e9458))), (w_p1 (by decide) (Or.inr rfl) (w_p1 (by decide) (Or.inr rfl) (w_p1 (by decide) (Or.inr rfl) e9459))), (w_p1 (by decide) (Or.inr rfl) (w_p1 (by decide) (Or.inr rfl) (w_p1 (by decide) (Or.inr rfl) e9460))), (w_e1 _ _ _), by omega, by omega, by omega, by omega, (by intro i i0 i1; refine (eA_ti ((gA_sI))).trans ?_; (first | (refine ((q9466 (i) (by omega) (by omega))).trans ?_; (first | rfl | exact eA_ix (by omega) | omega)) | (refine ((q9467 (i) (by omega) (by omega))).trans ?_; (first | rfl | exact eA_ix (by omega) | omega)) | (refine ((q9473 (i) (by omega) (by omega))).trans ?_; (first | rfl | exact eA_ix (by omega) | omega)))), (by intro i i0 i1; refine (eA_ti ((gA_sI))).trans ?_; (first | (refine ((q9466 (i) (by omega) (by omega))).trans ?_; (first | rfl | exact eA_ix (by omega) | omega)) | (refine ((q9467 (i) (by omega) (by omega))).trans ?_; (first | rfl | exact eA_ix (by omega) | omega)) | (refine ((q9473 (i) (by omega) (by omega))).trans ?_; (first | rfl | exact eA_ix (by omega) | omega)))), by omega, by omega, (RLI.n (by omega) (by omega) q9470 (fun h => by have h2 : x9444.toInt + 6 ≤ (gI g0 231 8).toInt ∧ (eA g9446 233 1).toInt < 8 ∧ (1 ≤ (eA g0 236 x9444.toInt).toInt ∧ (eA g0 236 x9444.toInt).toInt ≤ 9) ∧ (0 ≤ (eA g0 236 (x9444.toInt + 3)).toInt ∧ (eA g0 236 (x9444.toInt + 3)).toInt ≤ 99) ∧ (0 ≤ (eA g0 236 (x9444.toInt + 4)).toInt ∧ (eA g0 236 (x9444.toInt + 4)).toInt ≤ 9) ∧ (0 ≤ (eA g0 236 (x9444.toInt + 5)).toInt ∧ (eA g0 236 (x9444.toInt + 5)).toInt ≤ 9999) ∧ (0 ≤ (eA g0 236 (x9444.toInt + 1)).toInt ∧ (eA g0 236 (x9444.toInt + 1)).toInt < (eA g0 233 0).toInt) ∧ (0 ≤ (eA g0 236 (x9444.toInt + 2)).toInt ∧ (eA g0 236 (x9444.toInt + 2)).toInt < (eA g0 233 0).toInt) := h; have y479_ := congrArg Int32.toInt hv9530; have y480_ := congrArg Int32.toInt hv9532; have y481_ := congrArg Int32.toInt hv9534; have y482_ := congrArg Int32.toInt hv9536; have y483_ := congrArg Int32.toInt hv9582; omega) (eA_ti ((gA_sI))) (by omega)), (by have y_ := HI.eqA hI9593 (p := 233) (j := 1) (eA_c (j := 1) ((gA_sI))); omega), by omega, (by intro i i0 i1; refine (eA_ti ((gA_sI))).trans ?_; refine (q9473 i i0 i1).trans ?_; exact RFI.n (by omega) (by omega) q9470 (by omega) rfl (fun k => absurd k.1 (fun h => by have h2 : x9444.toInt + 6 ≤ (gI g0 231 8).toInt ∧ (eA g9446 233 1).toInt < 8 ∧ (1 ≤ (eA g0 236 x9444.toInt).toInt ∧ (eA g0 236 x9444.toInt).toInt ≤ 9) ∧ (0 ≤ (eA g0 236 (x9444.toInt + 3)).toInt ∧ (eA g0 236 (x9444.toInt + 3)).toInt ≤ 99) ∧ (0 ≤ (eA g0 236 (x9444.toInt + 4)).toInt ∧ (eA g0 236 (x9444.toInt + 4)).toInt ≤ 9) ∧ (0 ≤ (eA g0 236 (x9444.toInt + 5)).toInt ∧ (eA g0 236 (x9444.toInt + 5)).toInt ≤ 9999) ∧ (0 ≤ (eA g0 236 (x9444.toInt + 1)).toInt ∧ (eA g0 236 (x9444.toInt + 1)).toInt < (eA g0 233 0).toInt) ∧ (0 ≤ (eA g0 236 (x9444.toInt + 2)).toInt ∧ (eA g0 236 (x9444.toInt + 2)).toInt < (eA g0 233 0).toInt) := h; have y484_ := congrArg Int32.toInt hv9530; have y485_ := congrArg Int32.toInt hv9532; have y486_ := congrArg Int32.toInt hv9534; have y487_ := congrArg Int32.toInt hv9536; have y488_ := congrArg Int32.toInt hv9582; omega)))⟩ ⟨by omega, by omega⟩
                            · have c9591_ : v9583.toInt ≤ v9585.toInt := en_j_gt_f c9591
                              refine At.enter rfl ?_
                              refine r_iconst 1 rfl ?_
                              refine r_goto ?_
                              refine At.enter rfl ?_
                              refine q_iretz (by decide) ?_
                              refine At.enter rfl ?_
                              refine q_iretz (by decide) ?_
                              refine At.enter rfl ?_
                              refine r_iff 121 rfl (by decide) ?_
                              refine At.enter rfl ?_
                              refine r_aload_n (w_p1 (by decide) (Or.inr rfl) e9458) ?_
                              refine r_aload_n (w_p1 (by decide) (Or.inr rfl) e9458) ?_
                              refine q_getR (Sh.ref hI9447.1 kx_231 rfl) ?_
                              refine r_iload_n (w_p1 (by decide) (Or.inr rfl) e9461) ?_
                              refine r_iconst 2 rfl ?_
                              refine q_iadd (x9444.toInt + 2) rfl (by omega) (fun v9596 hv9596 => ?_)
                              obtain ⟨v9597, hv9597⟩ : ∃ v, eA g0 236 (x9444.toInt + 2) = v := ⟨_, rfl⟩
                              refine q_iald (Sh.arr hI9447.1 ka_236) (x9444.toInt + 2) (by omega) (by omega) v9597 ((eA_c (hF9448.2.1 236 (by decide))).trans hv9597) ?_
                              refine q_inlV 133 rfl [.ref 231, .int v9597] [] (Nat.le_of_ble_eq_true rfl) rfl ?_
                              refine Ev.mk rfl rfl ⟨Nat.le_of_ble_eq_true rfl, Or.inr (q_rc hI9447.1 kx_231 rfl)⟩ ?_
                              show At _ none _ _ (0, [(0, .ref 231), (1, .int v9597)], [], (_, _)) _
                              refine At.enter rfl ?_
                              refine r_iload_n rfl ?_
                              refine q_i2l (fun v9598 hv9598 => ?_)
                              refine r_lconst 0 rfl ?_
                              refine r_aload_n rfl ?_
                              refine q_getR (Sh.ref hI9447.1 kx_231 rfl) ?_
                              refine r_iconst 0 rfl ?_
                              refine q_iald (Sh.arr hI9447.1 ka_233) 0 rfl (by decide) v6421 e9454 ?_
                              refine q_i2l (fun v9599 hv9599 => ?_)
                              refine r_lconst 1 rfl ?_
                              refine q_lsub (v9599.toInt - 1) rfl (by omega) (fun v9600 hv9600 => ?_)
                              refine q_inlS 15 rfl [.long v9598, .long 0, .long v9600] [] (Nat.le_of_ble_eq_true rfl) rfl ?_
                              refine Ev.mk rfl rfl ⟨Nat.le_of_ble_eq_true rfl, Or.inl rfl⟩ ?_
                              show At _ none _ _ (0, [(0, .long v9598), (2, .long 0), (4, .long v9600)], [], (_, _)) _
                              refine At.enter rfl ?_
                              refine r_lload_n rfl ?_
                              refine r_lload_n rfl ?_
                              refine r_lcmp _ rfl ?_
                              refine r_ifs 6 rfl (fun c9601 => ?_) (fun c9601 => ?_)
                              · have c9601_ : v9598.toInt < 0 := en_j_lt_t c9601
                                refine At.enter rfl ?_
                                refine r_iconst 0 rfl ?_
                                refine Ar.fall 18 rfl ?_
                                refine At.enter rfl ?_
                                refine q_iretz (by decide) ?_
                                refine At.enter rfl ?_
                                refine q_iretz (by decide) ?_
                                refine At.enter rfl ?_
                                refine r_ift (by decide) ?_
                                refine At.enter rfl ?_
                                refine r_iconst 0 rfl ?_
                                refine Ar.fall 141 rfl ?_
                                refine At.enter rfl ?_
                                refine r_istore _ rfl ?_
                                refine r_iload (w_e1 _ _ _) ?_
                                refine r_ift (by decide) ?_
                                refine At.enter rfl ?_
                                refine r_aload_n (w_p1 (by decide) (Or.inr rfl) (w_p1 (by decide) (Or.inr rfl) e9458)) ?_
                                refine r_dup rfl ?_
                                refine q_getI (Sh.int hI9447.1 kx_231 rfl) x9445 e9452 ?_
                                refine r_iconst 1 rfl ?_
                                refine q_iadd (x9445.toInt + 1) rfl (by omega) (fun v9602 hv9602 => ?_)
                                refine q_putI (Sh.int hI9447.1 kx_231 rfl) rfl ?_
                                have hI9603 := HI.wI0 hI9447 kx_231 rfl (p := 231) (b := 6) (v := v9602) rfl
                                have hF9604 := Fr.wI (p := 231) (b := 6) (v := v9602) hF9448 rfl
                                refine Ar.fall 214 rfl ?_
                                refine At.enter rfl ?_
                                refine q_iinc (w_p1 (by decide) (Or.inr rfl) (w_p1 (by decide) (Or.inr rfl) e9461)) (x9444.toInt + 6) rfl (by omega) (fun v9605 hv9605 => ?_)
                                refine r_goto ?_
                                exact ih9451 (405 - v9605.toInt) _ _ ⟨x9443, v9605, v9602, by first | rfl | omega, hI9603, hF9604, (gI_sI_eq hI9447.1 kx_231 rfl _), ((gI_sI_ne (by decide)).trans e9453), ((eA_c gA_sI).trans e9454), ((eA_c gA_sI).trans e9455), ((eA_c gA_sI).trans e9456), ((eA_c gA_sI).trans e9457), (w_p1 (by decide) (Or.inr rfl) (w_p1 (by decide) (Or.inr rfl) (w_p1 (by decide) (Or.inr rfl) e9458))), (w_p1 (by decide) (Or.inr rfl) (w_p1 (by decide) (Or.inr rfl) (w_p1 (by decide) (Or.inr rfl) e9459))), (w_p1 (by decide) (Or.inr rfl) (w_p1 (by decide) (Or.inr rfl) (w_p1 (by decide) (Or.inr rfl) e9460))), (w_e1 _ _ _), by omega, by omega, by omega, by omega, (by intro i i0 i1; refine (eA_ti ((gA_sI))).trans ?_; (first | (refine ((q9466 (i) (by omega) (by omega))).trans ?_; (first | rfl | exact eA_ix (by omega) | omega)) | (refine ((q9467 (i) (by omega) (by omega))).trans ?_; (first | rfl | exact eA_ix (by omega) | omega)) | (refine ((q9473 (i) (by omega) (by omega))).trans ?_; (first | rfl | exact eA_ix (by omega) | omega)))), (by intro i i0 i1; refine (eA_ti ((gA_sI))).trans ?_; (first | (refine ((q9466 (i) (by omega) (by omega))).trans ?_; (first | rfl | exact eA_ix (by omega) | omega)) | (refine ((q9467 (i) (by omega) (by omega))).trans ?_; (first | rfl | exact eA_ix (by omega) | omega)) | (refine ((q9473 (i) (by omega) (by omega))).trans ?_; (first | rfl | exact eA_ix (by omega) | omega)))), by omega, by omega, (RLI.n (by omega) (by omega) q9470 (fun h => by have h2 : x9444.toInt + 6 ≤ (gI g0 231 8).toInt ∧ (eA g9446 233 1).toInt < 8 ∧ (1 ≤ (eA g0 236 x9444.toInt).toInt ∧ (eA g0 236 x9444.toInt).toInt ≤ 9) ∧ (0 ≤ (eA g0 236 (x9444.toInt + 3)).toInt ∧ (eA g0 236 (x9444.toInt + 3)).toInt ≤ 99) ∧ (0 ≤ (eA g0 236 (x9444.toInt + 4)).toInt ∧ (eA g0 236 (x9444.toInt + 4)).toInt ≤ 9) ∧ (0 ≤ (eA g0 236 (x9444.toInt + 5)).toInt ∧ (eA g0 236 (x9444.toInt + 5)).toInt ≤ 9999) ∧ (0 ≤ (eA g0 236 (x9444.toInt + 1)).toInt ∧ (eA g0 236 (x9444.toInt + 1)).toInt < (eA g0 233 0).toInt) ∧ (0 ≤ (eA g0 236 (x9444.toInt + 2)).toInt ∧ (eA g0 236 (x9444.toInt + 2)).toInt < (eA g0 233 0).toInt) := h; have y489_ := congrArg Int32.toInt hv9530; have y490_ := congrArg Int32.toInt hv9532; have y491_ := congrArg Int32.toInt hv9534; have y492_ := congrArg Int32.toInt hv9536; have y493_ := congrArg Int32.toInt hv9582; have y494_ := congrArg Int32.toInt hv9597; omega) (eA_ti ((gA_sI))) (by omega)), (by have y_ := HI.eqA hI9603 (p := 233) (j := 1) (eA_c (j := 1) ((gA_sI))); omega), by omega, (by intro i i0 i1; refine (eA_ti ((gA_sI))).trans ?_; refine (q9473 i i0 i1).trans ?_; exact RFI.n (by omega) (by omega) q9470 (by omega) rfl (fun k => absurd k.1 (fun h => by have h2 : x9444.toInt + 6 ≤ (gI g0 231 8).toInt ∧ (eA g9446 233 1).toInt < 8 ∧ (1 ≤ (eA g0 236 x9444.toInt).toInt ∧ (eA g0 236 x9444.toInt).toInt ≤ 9) ∧ (0 ≤ (eA g0 236 (x9444.toInt + 3)).toInt ∧ (eA g0 236 (x9444.toInt + 3)).toInt ≤ 99) ∧ (0 ≤ (eA g0 236 (x9444.toInt + 4)).toInt ∧ (eA g0 236 (x9444.toInt + 4)).toInt ≤ 9) ∧ (0 ≤ (eA g0 236 (x9444.toInt + 5)).toInt ∧ (eA g0 236 (x9444.toInt + 5)).toInt ≤ 9999) ∧ (0 ≤ (eA g0 236 (x9444.toInt + 1)).toInt ∧ (eA g0 236 (x9444.toInt + 1)).toInt < (eA g0 233 0).toInt) ∧ (0 ≤ (eA g0 236 (x9444.toInt + 2)).toInt ∧ (eA g0 236 (x9444.toInt + 2)).toInt < (eA g0 233 0).toInt) := h; have y495_ := congrArg Int32.toInt hv9530; have y496_ := congrArg Int32.toInt hv9532; have y497_ := congrArg Int32.toInt hv9534; have y498_ := congrArg Int32.toInt hv9536; have y499_ := congrArg Int32.toInt hv9582; have y500_ := congrArg Int32.toInt hv9597; omega)))⟩ ⟨by omega, by omega⟩
                              · have c9601_ : v9598.toInt ≥ 0 := en_j_lt_f c9601
                                refine At.enter rfl ?_
                                refine r_lload_n rfl ?_
                                refine r_lload rfl ?_
                                refine r_lcmp _ rfl ?_
                                refine r_ifs 13 rfl (fun c9606 => ?_) (fun c9606 => ?_)
                                · have c9606_ : v9598.toInt > v9600.toInt := en_j_gt_t c9606
                                  refine At.enter rfl ?_
                                  refine r_iconst 0 rfl ?_
                                  refine Ar.fall 18 rfl ?_
                                  refine At.enter rfl ?_
                                  refine q_iretz (by decide) ?_
                                  refine At.enter rfl ?_
                                  refine q_iretz (by decide) ?_
                                  refine At.enter rfl ?_
                                  refine r_ift (by decide) ?_
                                  refine At.enter rfl ?_
                                  refine r_iconst 0 rfl ?_
                                  refine Ar.fall 141 rfl ?_
                                  refine At.enter rfl ?_
                                  refine r_istore _ rfl ?_
                                  refine r_iload (w_e1 _ _ _) ?_
                                  refine r_ift (by decide) ?_
                                  refine At.enter rfl ?_
                                  refine r_aload_n (w_p1 (by decide) (Or.inr rfl) (w_p1 (by decide) (Or.inr rfl) e9458)) ?_
                                  refine r_dup rfl ?_
                                  refine q_getI (Sh.int hI9447.1 kx_231 rfl) x9445 e9452 ?_
                                  refine r_iconst 1 rfl ?_
                                  refine q_iadd (x9445.toInt + 1) rfl (by omega) (fun v9607 hv9607 => ?_)
                                  refine q_putI (Sh.int hI9447.1 kx_231 rfl) rfl ?_
                                  have hI9608 := HI.wI0 hI9447 kx_231 rfl (p := 231) (b := 6) (v := v9607) rfl
                                  have hF9609 := Fr.wI (p := 231) (b := 6) (v := v9607) hF9448 rfl
                                  refine Ar.fall 214 rfl ?_
                                  refine At.enter rfl ?_
                                  refine q_iinc (w_p1 (by decide) (Or.inr rfl) (w_p1 (by decide) (Or.inr rfl) e9461)) (x9444.toInt + 6) rfl (by omega) (fun v9610 hv9610 => ?_)
                                  refine r_goto ?_
                                  exact ih9451 (405 - v9610.toInt) _ _ ⟨x9443, v9610, v9607, by first | rfl | omega, hI9608, hF9609, (gI_sI_eq hI9447.1 kx_231 rfl _), ((gI_sI_ne (by decide)).trans e9453), ((eA_c gA_sI).trans e9454), ((eA_c gA_sI).trans e9455), ((eA_c gA_sI).trans e9456), ((eA_c gA_sI).trans e9457), (w_p1 (by decide) (Or.inr rfl) (w_p1 (by decide) (Or.inr rfl) (w_p1 (by decide) (Or.inr rfl) e9458))), (w_p1 (by decide) (Or.inr rfl) (w_p1 (by decide) (Or.inr rfl) (w_p1 (by decide) (Or.inr rfl) e9459))), (w_p1 (by decide) (Or.inr rfl) (w_p1 (by decide) (Or.inr rfl) (w_p1 (by decide) (Or.inr rfl) e9460))), (w_e1 _ _ _), by omega, by omega, by omega, by omega, (by intro i i0 i1; refine (eA_ti ((gA_sI))).trans ?_; (first | (refine ((q9466 (i) (by omega) (by omega))).trans ?_; (first | rfl | exact eA_ix (by omega) | omega)) | (refine ((q9467 (i) (by omega) (by omega))).trans ?_; (first | rfl | exact eA_ix (by omega) | omega)) | (refine ((q9473 (i) (by omega) (by omega))).trans ?_; (first | rfl | exact eA_ix (by omega) | omega)))), (by intro i i0 i1; refine (eA_ti ((gA_sI))).trans ?_; (first | (refine ((q9466 (i) (by omega) (by omega))).trans ?_; (first | rfl | exact eA_ix (by omega) | omega)) | (refine ((q9467 (i) (by omega) (by omega))).trans ?_; (first | rfl | exact eA_ix (by omega) | omega)) | (refine ((q9473 (i) (by omega) (by omega))).trans ?_; (first | rfl | exact eA_ix (by omega) | omega)))), by omega, by omega, (RLI.n (by omega) (by omega) q9470 (fun h => by have h2 : x9444.toInt + 6 ≤ (gI g0 231 8).toInt ∧ (eA g9446 233 1).toInt < 8 ∧ (1 ≤ (eA g0 236 x9444.toInt).toInt ∧ (eA g0 236 x9444.toInt).toInt ≤ 9) ∧ (0 ≤ (eA g0 236 (x9444.toInt + 3)).toInt ∧ (eA g0 236 (x9444.toInt + 3)).toInt ≤ 99) ∧ (0 ≤ (eA g0 236 (x9444.toInt + 4)).toInt ∧ (eA g0 236 (x9444.toInt + 4)).toInt ≤ 9) ∧ (0 ≤ (eA g0 236 (x9444.toInt + 5)).toInt ∧ (eA g0 236 (x9444.toInt + 5)).toInt ≤ 9999) ∧ (0 ≤ (eA g0 236 (x9444.toInt + 1)).toInt ∧ (eA g0 236 (x9444.toInt + 1)).toInt < (eA g0 233 0).toInt) ∧ (0 ≤ (eA g0 236 (x9444.toInt + 2)).toInt ∧ (eA g0 236 (x9444.toInt + 2)).toInt < (eA g0 233 0).toInt) := h; have y501_ := congrArg Int32.toInt hv9530; have y502_ := congrArg Int32.toInt hv9532; have y503_ := congrArg Int32.toInt hv9534; have y504_ := congrArg Int32.toInt hv9536; have y505_ := congrArg Int32.toInt hv9582; have y506_ := congrArg Int32.toInt hv9597; omega) (eA_ti ((gA_sI))) (by omega)), (by have y_ := HI.eqA hI9608 (p := 233) (j := 1) (eA_c (j := 1) ((gA_sI))); omega), by omega, (by intro i i0 i1; refine (eA_ti ((gA_sI))).trans ?_; refine (q9473 i i0 i1).trans ?_; exact RFI.n (by omega) (by omega) q9470 (by omega) rfl (fun k => absurd k.1 (fun h => by have h2 : x9444.toInt + 6 ≤ (gI g0 231 8).toInt ∧ (eA g9446 233 1).toInt < 8 ∧ (1 ≤ (eA g0 236 x9444.toInt).toInt ∧ (eA g0 236 x9444.toInt).toInt ≤ 9) ∧ (0 ≤ (eA g0 236 (x9444.toInt + 3)).toInt ∧ (eA g0 236 (x9444.toInt + 3)).toInt ≤ 99) ∧ (0 ≤ (eA g0 236 (x9444.toInt + 4)).toInt ∧ (eA g0 236 (x9444.toInt + 4)).toInt ≤ 9) ∧ (0 ≤ (eA g0 236 (x9444.toInt + 5)).toInt ∧ (eA g0 236 (x9444.toInt + 5)).toInt ≤ 9999) ∧ (0 ≤ (eA g0 236 (x9444.toInt + 1)).toInt ∧ (eA g0 236 (x9444.toInt + 1)).toInt < (eA g0 233 0).toInt) ∧ (0 ≤ (eA g0 236 (x9444.toInt + 2)).toInt ∧ (eA g0 236 (x9444.toInt + 2)).toInt < (eA g0 233 0).toInt) := h; have y507_ := congrArg Int32.toInt hv9530; have y508_ := congrArg Int32.toInt hv9532; have y509_ := congrArg Int32.toInt hv9534; have y510_ := congrArg Int32.toInt hv9536; have y511_ := congrArg Int32.toInt hv9582; have y512_ := congrArg Int32.toInt hv9597; omega)))⟩ ⟨by omega, by omega⟩
                                · have c9606_ : v9598.toInt ≤ v9600.toInt := en_j_gt_f c9606
                                  refine At.enter rfl ?_
                                  refine r_iconst 1 rfl ?_
                                  refine r_goto ?_
                                  refine At.enter rfl ?_
                                  refine q_iretz (by decide) ?_
                                  refine At.enter rfl ?_
                                  refine q_iretz (by decide) ?_
                                  refine At.enter rfl ?_
                                  refine r_iff 136 rfl (by decide) ?_
                                  refine At.enter rfl ?_
                                  refine r_iconst 1 rfl ?_
                                  refine r_goto ?_
                                  refine At.enter rfl ?_
                                  refine r_istore _ rfl ?_
                                  refine r_iload (w_e1 _ _ _) ?_
                                  refine r_iff 148 rfl (by decide) ?_
                                  refine At.enter rfl ?_
                                  refine r_aload_n (w_p1 (by decide) (Or.inr rfl) (w_p1 (by decide) (Or.inr rfl) e9458)) ?_
                                  refine r_aload_n (w_p1 (by decide) (Or.inr rfl) (w_p1 (by decide) (Or.inr rfl) e9458)) ?_
                                  refine q_getR (Sh.ref hI9447.1 kx_231 rfl) ?_
                                  refine r_iload_n (w_p1 (by decide) (Or.inr rfl) (w_p1 (by decide) (Or.inr rfl) e9461)) ?_
                                  refine q_iald (Sh.arr hI9447.1 ka_236) x9444.toInt rfl (by omega) v9530 ((eA_c (hF9448.2.1 236 (by decide))).trans hv9530) ?_
                                  refine r_aload_n (w_p1 (by decide) (Or.inr rfl) (w_p1 (by decide) (Or.inr rfl) e9458)) ?_
                                  refine q_getR (Sh.ref hI9447.1 kx_231 rfl) ?_
                                  refine r_iload_n (w_p1 (by decide) (Or.inr rfl) (w_p1 (by decide) (Or.inr rfl) e9461)) ?_
                                  refine r_iconst 1 rfl ?_
                                  refine q_iadd (x9444.toInt + 1) rfl (by omega) (fun v9611 hv9611 => ?_)
                                  refine q_iald (Sh.arr hI9447.1 ka_236) (x9444.toInt + 1) (by omega) (by omega) v9582 ((eA_c (hF9448.2.1 236 (by decide))).trans hv9582) ?_
                                  refine r_aload_n (w_p1 (by decide) (Or.inr rfl) (w_p1 (by decide) (Or.inr rfl) e9458)) ?_
                                  refine q_getR (Sh.ref hI9447.1 kx_231 rfl) ?_
                                  refine r_iload_n (w_p1 (by decide) (Or.inr rfl) (w_p1 (by decide) (Or.inr rfl) e9461)) ?_
                                  refine r_iconst 2 rfl ?_
                                  refine q_iadd (x9444.toInt + 2) rfl (by omega) (fun v9612 hv9612 => ?_)
                                  refine q_iald (Sh.arr hI9447.1 ka_236) (x9444.toInt + 2) (by omega) (by omega) v9597 ((eA_c (hF9448.2.1 236 (by decide))).trans hv9597) ?_
                                  refine r_aload_n (w_p1 (by decide) (Or.inr rfl) (w_p1 (by decide) (Or.inr rfl) e9458)) ?_
                                  refine q_getR (Sh.ref hI9447.1 kx_231 rfl) ?_
                                  refine r_iload_n (w_p1 (by decide) (Or.inr rfl) (w_p1 (by decide) (Or.inr rfl) e9461)) ?_
                                  refine r_iconst 3 rfl ?_
                                  refine q_iadd (x9444.toInt + 3) rfl (by omega) (fun v9613 hv9613 => ?_)
                                  refine q_iald (Sh.arr hI9447.1 ka_236) (x9444.toInt + 3) (by omega) (by omega) v9532 ((eA_c (hF9448.2.1 236 (by decide))).trans hv9532) ?_
                                  refine r_aload_n (w_p1 (by decide) (Or.inr rfl) (w_p1 (by decide) (Or.inr rfl) e9458)) ?_
                                  refine q_getR (Sh.ref hI9447.1 kx_231 rfl) ?_
                                  refine r_iload_n (w_p1 (by decide) (Or.inr rfl) (w_p1 (by decide) (Or.inr rfl) e9461)) ?_
                                  refine r_iconst 4 rfl ?_
                                  refine q_iadd (x9444.toInt + 4) rfl (by omega) (fun v9614 hv9614 => ?_)
                                  refine q_iald (Sh.arr hI9447.1 ka_236) (x9444.toInt + 4) (by omega) (by omega) v9534 ((eA_c (hF9448.2.1 236 (by decide))).trans hv9534) ?_
                                  refine r_aload_n (w_p1 (by decide) (Or.inr rfl) (w_p1 (by decide) (Or.inr rfl) e9458)) ?_
                                  refine q_getR (Sh.ref hI9447.1 kx_231 rfl) ?_
                                  refine r_iload_n (w_p1 (by decide) (Or.inr rfl) (w_p1 (by decide) (Or.inr rfl) e9461)) ?_
                                  refine r_iconst 5 rfl ?_
                                  refine q_iadd (x9444.toInt + 5) rfl (by omega) (fun v9615 hv9615 => ?_)
                                  refine q_iald (Sh.arr hI9447.1 ka_236) (x9444.toInt + 5) (by omega) (by omega) v9536 ((eA_c (hF9448.2.1 236 (by decide))).trans hv9536) ?_
                                  have x9616 := HI.eqA hI9447 (p := 233) (j := 0) (e9454)
                                  have x9617 := HI.eqA hI9447 (p := 233) (j := 1) (hv9524)
                                  refine r_callV 198 rfl [.ref 231, .int v9530, .int v9582, .int v9597, .int v9532, .int v9534, .int v9536] [] (Nat.le_of_ble_eq_true rfl) rfl (T_X11_addLoad_231 _ hI9447 v9530 (by omega) v9582 (by omega) v9597 (by omega) v9532 (by omega) v9534 (by omega) v9536 (by omega) (by omega) (by omega) (by omega)) ?_
                                  rintro _ _ ⟨g9618, rfl, hI9619, hF9620, rfl, hr9622⟩
                                  refine At.stn ?_
                                  have hF9623 := Fr.tr hF9448 hF9620 rfl rfl
                                  obtain ⟨v9624, hv9624⟩ : ∃ v, eA g9446 233 2 = v := ⟨_, rfl⟩
                                  have tv9624 := congrArg Int32.toInt hv9624
                                  have wv9624 := HI.t2 hI9447
                                  rw [hv9624] at wv9624
                                  have tv9624 := congrArg Int32.toInt hv9624
                                  obtain ⟨v9625, hv9625⟩ : ∃ v, eA g9618 233 1 = v := ⟨_, rfl⟩
                                  have y9626 := hr9622.2.1
                                  have tv9625 := congrArg Int32.toInt hv9625
                                  have x9627 := HI.eqA hI9447 (p := 233) (j := 1) (hv9524)
                                  have lw_v9625 := fun i h0 h1 => congrArg Int32.toInt (hr9622.1 i (Int.le_trans (by decide) h0) h1 (fun e => absurd (e ▸ h0 : (10 : Int) ≤ 1) (by decide)))
                                  refine At.enter rfl ?_
                                  refine q_iinc (w_p1 (by decide) (Or.inr rfl) (w_p1 (by decide) (Or.inr rfl) e9460)) (x9443.toInt + 1) rfl (by omega) (fun v9628 hv9628 => ?_)
                                  refine r_goto ?_
                                  refine At.enter rfl ?_
                                  refine q_iinc (w_p1 (by decide) (Or.inr rfl) (w_p1 (by decide) (Or.inr rfl) (w_p1 (by decide) (Or.inr rfl) e9461))) (x9444.toInt + 6) rfl (by omega) (fun v9629 hv9629 => ?_)
                                  refine r_goto ?_
                                  exact ih9451 (405 - v9629.toInt) _ _ ⟨v9628, v9629, x9445, by first | rfl | omega, hI9619, hF9623, ((hF9620.1 231 6 (by decide)).trans e9452), ((hF9620.1 231 8 (by decide)).trans e9453), ((hr9622.1 0 (by decide) (by decide) (by decide)).trans e9454), ((hr9622.1 4 (by decide) (by decide) (by decide)).trans e9455), ((hr9622.1 5 (by decide) (by decide) (by decide)).trans e9456), ((hr9622.1 6 (by decide) (by decide) (by decide)).trans e9457), (w_p1 (by decide) (Or.inr rfl) (w_p1 (by decide) (Or.inr rfl) (w_p1 (by decide) (Or.inr rfl) (w_p1 (by decide) (Or.inr rfl) e9458)))), (w_p1 (by decide) (Or.inr rfl) (w_p1 (by decide) (Or.inr rfl) (w_p1 (by decide) (Or.inr rfl) (w_p1 (by decide) (Or.inr rfl) e9459)))), (w_p1 (by decide) (Or.inr rfl) (w_e1 _ _ _)), (w_e1 _ _ _), by omega, by omega, by omega, by omega, (by intro i i0 i1; (first | (refine ((hr9622.2.2.1 (i) (by omega) (by omega))).trans ?_; (first | (refine ((q9466 ((i)) (by omega) (by omega))).trans ?_; (first | rfl | exact eA_ix (by omega) | omega)) | (refine ((q9467 ((i)) (by omega) (by omega))).trans ?_; (first | rfl | exact eA_ix (by omega) | omega)) | (refine ((q9473 ((i)) (by omega) (by omega))).trans ?_; (first | rfl | exact eA_ix (by omega) | omega)))) | (refine ((hr9622.2.2.2 (i) (by omega) (by omega))).trans ?_; exact (Decidable.em ((i) = 46 + 6 * (eA g9446 233 1).toInt + 0)).elim (fun k513_ => by refine (if_pos k513_).trans ?_; (first | rfl | exact eA_ix (by omega) | omega)) (fun k513_ => by refine (if_neg k513_).trans ?_; exact (Decidable.em ((i) = 46 + 6 * (eA g9446 233 1).toInt + 1)).elim (fun k514_ => by refine (if_pos k514_).trans ?_; (first | rfl | exact eA_ix (by omega) | omega)) (fun k514_ => by refine (if_neg k514_).trans ?_; exact (Decidable.em ((i) = 46 + 6 * (eA g9446 233 1).toInt + 2)).elim (fun k515_ => by refine (if_pos k515_).trans ?_; (first | rfl | exact eA_ix (by omega) | omega)) (fun k515_ => by refine (if_neg k515_).trans ?_; exact (Decidable.em ((i) = 46 + 6 * (eA g9446 233 1).toInt + 3)).elim (fun k516_ => by refine (if_pos k516_).trans ?_; (first | rfl | exact eA_ix (by omega) | omega)) (fun k516_ => by refine (if_neg k516_).trans ?_; exact (Decidable.em ((i) = 46 + 6 * (eA g9446 233 1).toInt + 4)).elim (fun k517_ => by refine (if_pos k517_).trans ?_; (first | rfl | exact eA_ix (by omega) | omega)) (fun k517_ => by refine (if_neg k517_).trans ?_; exact (Decidable.em ((i) = 46 + 6 * (eA g9446 233 1).toInt + 5)).elim (fun k518_ => by refine (if_pos k518_).trans ?_; (first | rfl | exact eA_ix (by omega) | omega)) (fun k518_ => by refine (if_neg k518_).trans ?_; (first | (refine ((q9466 ((i)) (by omega) (by omega))).trans ?_; (first | rfl | exact eA_ix (by omega) | omega)) | (refine ((q9467 ((i)) (by omega) (by omega))).trans ?_; (first | rfl | exact eA_ix (by omega) | omega)) | (refine ((q9473 ((i)) (by omega) (by omega))).trans ?_; (first | rfl | exact eA_ix (by omega) | omega)))))))))) | (refine ((lw_v9625 (i) (by omega) (by omega))).trans ?_; (first | (refine ((q9466 ((i)) (by omega) (by omega))).trans ?_; (first | rfl | exact eA_ix (by omega) | omega)) | (refine ((q9467 ((i)) (by omega) (by omega))).trans ?_; (first | rfl | exact eA_ix (by omega) | omega)) | (refine ((q9473 ((i)) (by omega) (by omega))).trans ?_; (first | rfl | exact eA_ix (by omega) | omega)))))), (by intro i i0 i1; (first | (refine ((hr9622.2.2.1 (i) (by omega) (by omega))).trans ?_; (first | (refine ((q9466 ((i)) (by omega) (by omega))).trans ?_; (first | rfl | exact eA_ix (by omega) | omega)) | (refine ((q9467 ((i)) (by omega) (by omega))).trans ?_; (first | rfl | exact eA_ix (by omega) | omega)) | (refine ((q9473 ((i)) (by omega) (by omega))).trans ?_; (first | rfl | exact eA_ix (by omega) | omega)))) | (refine ((hr9622.2.2.2 (i) (by omega) (by omega))).trans ?_; exact (Decidable.em ((i) = 46 + 6 * (eA g9446 233 1).toInt + 0)).elim (fun k519_ => by refine (if_pos k519_).trans ?_; (first | rfl | exact eA_ix (by omega) | omega)) (fun k519_ => by refine (if_neg k519_).trans ?_; exact (Decidable.em ((i) = 46 + 6 * (eA g9446 233 1).toInt + 1)).elim (fun k520_ => by refine (if_pos k520_).trans ?_; (first | rfl | exact eA_ix (by omega) | omega)) (fun k520_ => by refine (if_neg k520_).trans ?_; exact (Decidable.em ((i) = 46 + 6 * (eA g9446 233 1).toInt + 2)).elim (fun k521_ => by refine (if_pos k521_).trans ?_; (first | rfl | exact eA_ix (by omega) | omega)) (fun k521_ => by refine (if_neg k521_).trans ?_; exact (Decidable.em ((i) = 46 + 6 * (eA g9446 233 1).toInt + 3)).elim (fun k522_ => by refine (if_pos k522_).trans ?_; (first | rfl | exact eA_ix (by omega) | omega)) (fun k522_ => by refine (if_neg k522_).trans ?_; exact (Decidable.em ((i) = 46 + 6 * (eA g9446 233 1).toInt + 4)).elim (fun k523_ => by refine (if_pos k523_).trans ?_; (first | rfl | exact eA_ix (by omega) | omega)) (fun k523_ => by refine (if_neg k523_).trans ?_; exact (Decidable.em ((i) = 46 + 6 * (eA g9446 233 1).toInt + 5)).elim (fun k524_ => by refine (if_pos k524_).trans ?_; (first | rfl | exact eA_ix (by omega) | omega)) (fun k524_ => by refine (if_neg k524_).trans ?_; (first | (refine ((q9466 ((i)) (by omega) (by omega))).trans ?_; (first | rfl | exact eA_ix (by omega) | omega)) | (refine ((q9467 ((i)) (by omega) (by omega))).trans ?_; (first | rfl | exact eA_ix (by omega) | omega)) | (refine ((q9473 ((i)) (by omega) (by omega))).trans ?_; (first | rfl | exact eA_ix (by omega) | omega)))))))))) | (refine ((lw_v9625 (i) (by omega) (by omega))).trans ?_; (first | (refine ((q9466 ((i)) (by omega) (by omega))).trans ?_; (first | rfl | exact eA_ix (by omega) | omega)) | (refine ((q9467 ((i)) (by omega) (by omega))).trans ?_; (first | rfl | exact eA_ix (by omega) | omega)) | (refine ((q9473 ((i)) (by omega) (by omega))).trans ?_; (first | rfl | exact eA_ix (by omega) | omega)))))), by omega, by omega, (RLI.y (by omega) (by omega) q9470 (show x9444.toInt + 6 ≤ (gI g0 231 8).toInt ∧ (eA g9446 233 1).toInt < 8 ∧ (1 ≤ (eA g0 236 x9444.toInt).toInt ∧ (eA g0 236 x9444.toInt).toInt ≤ 9) ∧ (0 ≤ (eA g0 236 (x9444.toInt + 3)).toInt ∧ (eA g0 236 (x9444.toInt + 3)).toInt ≤ 99) ∧ (0 ≤ (eA g0 236 (x9444.toInt + 4)).toInt ∧ (eA g0 236 (x9444.toInt + 4)).toInt ≤ 9) ∧ (0 ≤ (eA g0 236 (x9444.toInt + 5)).toInt ∧ (eA g0 236 (x9444.toInt + 5)).toInt ≤ 9999) ∧ (0 ≤ (eA g0 236 (x9444.toInt + 1)).toInt ∧ (eA g0 236 (x9444.toInt + 1)).toInt < (eA g0 233 0).toInt) ∧ (0 ≤ (eA g0 236 (x9444.toInt + 2)).toInt ∧ (eA g0 236 (x9444.toInt + 2)).toInt < (eA g0 233 0).toInt) from by have y525_ := congrArg Int32.toInt hv9530; have y526_ := congrArg Int32.toInt hv9532; have y527_ := congrArg Int32.toInt hv9534; have y528_ := congrArg Int32.toInt hv9536; have y529_ := congrArg Int32.toInt hv9582; have y530_ := congrArg Int32.toInt hv9597; omega) (by omega) (by omega)), (by omega), by omega, (by intro i i0 i1; refine (hr9622.2.2.2 i i0 i1).trans ?_; exact (Decidable.em (i = 46 + 6 * (eA g9446 233 1).toInt + 0)).elim (fun k543_ => by refine (if_pos k543_).trans ?_; refine Eq.trans ?_ (RFI.y (by omega) (by omega) q9470 (show x9444.toInt + 6 ≤ (gI g0 231 8).toInt ∧ (eA g9446 233 1).toInt < 8 ∧ (1 ≤ (eA g0 236 x9444.toInt).toInt ∧ (eA g0 236 x9444.toInt).toInt ≤ 9) ∧ (0 ≤ (eA g0 236 (x9444.toInt + 3)).toInt ∧ (eA g0 236 (x9444.toInt + 3)).toInt ≤ 99) ∧ (0 ≤ (eA g0 236 (x9444.toInt + 4)).toInt ∧ (eA g0 236 (x9444.toInt + 4)).toInt ≤ 9) ∧ (0 ≤ (eA g0 236 (x9444.toInt + 5)).toInt ∧ (eA g0 236 (x9444.toInt + 5)).toInt ≤ 9999) ∧ (0 ≤ (eA g0 236 (x9444.toInt + 1)).toInt ∧ (eA g0 236 (x9444.toInt + 1)).toInt < (eA g0 233 0).toInt) ∧ (0 ≤ (eA g0 236 (x9444.toInt + 2)).toInt ∧ (eA g0 236 (x9444.toInt + 2)).toInt < (eA g0 233 0).toInt) from by have y531_ := congrArg Int32.toInt hv9530; have y532_ := congrArg Int32.toInt hv9532; have y533_ := congrArg Int32.toInt hv9534; have y534_ := congrArg Int32.toInt hv9536; have y535_ := congrArg Int32.toInt hv9582; have y536_ := congrArg Int32.toInt hv9597; omega) (by omega) (by omega)); refine Eq.trans ?_ (eA_ix (g := g0) (p := 236) (show x9444.toInt = x9444.toInt + (i - 46 - 6 * (eA g9446 233 1).toInt) from by omega)); have y537_ := congrArg Int32.toInt hv9530; have y538_ := congrArg Int32.toInt hv9532; have y539_ := congrArg Int32.toInt hv9534; have y540_ := congrArg Int32.toInt hv9536; have y541_ := congrArg Int32.toInt hv9582; have y542_ := congrArg Int32.toInt hv9597; omega) (fun k543_ => by refine (if_neg k543_).trans ?_; exact (Decidable.em (i = 46 + 6 * (eA g9446 233 1).toInt + 1)).elim (fun k544_ => by refine (if_pos k544_).trans ?_; refine Eq.trans ?_ (RFI.y (by omega) (by omega) q9470 (show x9444.toInt + 6 ≤ (gI g0 231 8).toInt ∧ (eA g9446 233 1).toInt < 8 ∧ (1 ≤ (eA g0 236 x9444.toInt).toInt ∧ (eA g0 236 x9444.toInt).toInt ≤ 9) ∧ (0 ≤ (eA g0 236 (x9444.toInt + 3)).toInt ∧ (eA g0 236 (x9444.toInt + 3)).toInt ≤ 99) ∧ (0 ≤ (eA g0 236 (x9444.toInt + 4)).toInt ∧ (eA g0 236 (x9444.toInt + 4)).toInt ≤ 9) ∧ (0 ≤ (eA g0 236 (x9444.toInt + 5)).toInt ∧ (eA g0 236 (x9444.toInt + 5)).toInt ≤ 9999) ∧ (0 ≤ (eA g0 236 (x9444.toInt + 1)).toInt ∧ (eA g0 236 (x9444.toInt + 1)).toInt < (eA g0 233 0).toInt) ∧ (0 ≤ (eA g0 236 (x9444.toInt + 2)).toInt ∧ (eA g0 236 (x9444.toInt + 2)).toInt < (eA g0 233 0).toInt) from by have y531_ := congrArg Int32.toInt hv9530; have y532_ := congrArg Int32.toInt hv9532; have y533_ := congrArg Int32.toInt hv9534; have y534_ := congrArg Int32.toInt hv9536; have y535_ := congrArg Int32.toInt hv9582; have y536_ := congrArg Int32.toInt hv9597; omega) (by omega) (by omega)); refine Eq.trans ?_ (eA_ix (g := g0) (p := 236) (show x9444.toInt + 1 = x9444.toInt + (i - 46 - 6 * (eA g9446 233 1).toInt) from by omega)); have y537_ := congrArg Int32.toInt hv9530; have y538_ := congrArg Int32.toInt hv9532; have y539_ := congrArg Int32.toInt hv9534; have y540_ := congrArg Int32.toInt hv9536; have y541_ := congrArg Int32.toInt hv9582; have y542_ := congrArg Int32.toInt hv9597; omega) (fun k544_ => by refine (if_neg k544_).trans ?_; exact (Decidable.em (i = 46 + 6 * (eA g9446 233 1).toInt + 2)).elim (fun k545_ => by refine (if_pos k545_).trans ?_; refine Eq.trans ?_ (RFI.y (by omega) (by omega) q9470 (show x9444.toInt + 6 ≤ (gI g0 231 8).toInt ∧ (eA g9446 233 1).toInt < 8 ∧ (1 ≤ (eA g0 236 x9444.toInt).toInt ∧ (eA g0 236 x9444.toInt).toInt ≤ 9) ∧ (0 ≤ (eA g0 236 (x9444.toInt + 3)).toInt ∧ (eA g0 236 (x9444.toInt + 3)).toInt ≤ 99) ∧ (0 ≤ (eA g0 236 (x9444.toInt + 4)).toInt ∧ (eA g0 236 (x9444.toInt + 4)).toInt ≤ 9) ∧ (0 ≤ (eA g0 236 (x9444.toInt + 5)).toInt ∧ (eA g0 236 (x9444.toInt + 5)).toInt ≤ 9999) ∧ (0 ≤ (eA g0 236 (x9444.toInt + 1)).toInt ∧ (eA g0 236 (x9444.toInt + 1)).toInt < (eA g0 233 0).toInt) ∧ (0 ≤ (eA g0 236 (x9444.toInt + 2)).toInt ∧ (eA g0 236 (x9444.toInt + 2)).toInt < (eA g0 233 0).toInt) from by have y531_ := congrArg Int32.toInt hv9530; have y532_ := congrArg Int32.toInt hv9532; have y533_ := congrArg Int32.toInt hv9534; have y534_ := congrArg Int32.toInt hv9536; have y535_ := congrArg Int32.toInt hv9582; have y536_ := congrArg Int32.toInt hv9597; omega) (by omega) (by omega)); refine Eq.trans ?_ (eA_ix (g := g0) (p := 236) (show x9444.toInt + 2 = x9444.toInt + (i - 46 - 6 * (eA g9446 233 1).toInt) from by omega)); have y537_ := congrArg Int32.toInt hv9530; have y538_ := congrArg Int32.toInt hv9532; have y539_ := congrArg Int32.toInt hv9534; have y540_ := congrArg Int32.toInt hv9536; have y541_ := congrArg Int32.toInt hv9582; have y542_ := congrArg Int32.toInt hv9597; omega) (fun k545_ => by refine (if_neg k545_).trans ?_; exact (Decidable.em (i = 46 + 6 * (eA g9446 233 1).toInt + 3)).elim (fun k546_ => by refine (if_pos k546_).trans ?_; refine Eq.trans ?_ (RFI.y (by omega) (by omega) q9470 (show x9444.toInt + 6 ≤ (gI g0 231 8).toInt ∧ (eA g9446 233 1).toInt < 8 ∧ (1 ≤ (eA g0 236 x9444.toInt).toInt ∧ (eA g0 236 x9444.toInt).toInt ≤ 9) ∧ (0 ≤ (eA g0 236 (x9444.toInt + 3)).toInt ∧ (eA g0 236 (x9444.toInt + 3)).toInt ≤ 99) ∧ (0 ≤ (eA g0 236 (x9444.toInt + 4)).toInt ∧ (eA g0 236 (x9444.toInt + 4)).toInt ≤ 9) ∧ (0 ≤ (eA g0 236 (x9444.toInt + 5)).toInt ∧ (eA g0 236 (x9444.toInt + 5)).toInt ≤ 9999) ∧ (0 ≤ (eA g0 236 (x9444.toInt + 1)).toInt ∧ (eA g0 236 (x9444.toInt + 1)).toInt < (eA g0 233 0).toInt) ∧ (0 ≤ (eA g0 236 (x9444.toInt + 2)).toInt ∧ (eA g0 236 (x9444.toInt + 2)).toInt < (eA g0 233 0).toInt) from by have y531_ := congrArg Int32.toInt hv9530; have y532_ := congrArg Int32.toInt hv9532; have y533_ := congrArg Int32.toInt hv9534; have y534_ := congrArg Int32.toInt hv9536; have y535_ := congrArg Int32.toInt hv9582; have y536_ := congrArg Int32.toInt hv9597; omega) (by omega) (by omega)); refine Eq.trans ?_ (eA_ix (g := g0) (p := 236) (show x9444.toInt + 3 = x9444.toInt + (i - 46 - 6 * (eA g9446 233 1).toInt) from by omega)); have y537_ := congrArg Int32.toInt hv9530; have y538_ := congrArg Int32.toInt hv9532; have y539_ := congrArg Int32.toInt hv9534; have y540_ := congrArg Int32.toInt hv9536; have y541_ := congrArg Int32.toInt hv9582; have y542_ := congrArg Int32.toInt hv9597; omega) (fun k546_ => by refine (if_neg k546_).trans ?_; exact (Decidable.em (i = 46 + 6 * (eA g9446 233 1).toInt + 4)).elim (fun k547_ => by refine (if_pos k547_).trans ?_; refine Eq.trans ?_ (RFI.y (by omega) (by omega) q9470 (show x9444.toInt + 6 ≤ (gI g0 231 8).toInt ∧ (eA g9446 233 1).toInt < 8 ∧ (1 ≤ (eA g0 236 x9444.toInt).toInt ∧ (eA g0 236 x9444.toInt).toInt ≤ 9) ∧ (0 ≤ (eA g0 236 (x9444.toInt + 3)).toInt ∧ (eA g0 236 (x9444.toInt + 3)).toInt ≤ 99) ∧ (0 ≤ (eA g0 236 (x9444.toInt + 4)).toInt ∧ (eA g0 236 (x9444.toInt + 4)).toInt ≤ 9) ∧ (0 ≤ (eA g0 236 (x9444.toInt + 5)).toInt ∧ (eA g0 236 (x9444.toInt + 5)).toInt ≤ 9999) ∧ (0 ≤ (eA g0 236 (x9444.toInt + 1)).toInt ∧ (eA g0 236 (x9444.toInt + 1)).toInt < (eA g0 233 0).toInt) ∧ (0 ≤ (eA g0 236 (x9444.toInt + 2)).toInt ∧ (eA g0 236 (x9444.toInt + 2)).toInt < (eA g0 233 0).toInt) from by have y531_ := congrArg Int32.toInt hv9530; have y532_ := congrArg Int32.toInt hv9532; have y533_ := congrArg Int32.toInt hv9534; have y534_ := congrArg Int32.toInt hv9536; have y535_ := congrArg Int32.toInt hv9582; have y536_ := congrArg Int32.toInt hv9597; omega) (by omega) (by omega)); refine Eq.trans ?_ (eA_ix (g := g0) (p := 236) (show x9444.toInt + 4 = x9444.toInt + (i - 46 - 6 * (eA g9446 233 1).toInt) from by omega)); have y537_ := congrArg Int32.toInt hv9530; have y538_ := congrArg Int32.toInt hv9532; have y539_ := congrArg Int32.toInt hv9534; have y540_ := congrArg Int32.toInt hv9536; have y541_ := congrArg Int32.toInt hv9582; have y542_ := congrArg Int32.toInt hv9597; omega) (fun k547_ => by refine (if_neg k547_).trans ?_; exact (Decidable.em (i = 46 + 6 * (eA g9446 233 1).toInt + 5)).elim (fun k548_ => by refine (if_pos k548_).trans ?_; refine Eq.trans ?_ (RFI.y (by omega) (by omega) q9470 (show x9444.toInt + 6 ≤ (gI g0 231 8).toInt ∧ (eA g9446 233 1).toInt < 8 ∧ (1 ≤ (eA g0 236 x9444.toInt).toInt ∧ (eA g0 236 x9444.toInt).toInt ≤ 9) ∧ (0 ≤ (eA g0 236 (x9444.toInt + 3)).toInt ∧ (eA g0 236 (x9444.toInt + 3)).toInt ≤ 99) ∧ (0 ≤ (eA g0 236 (x9444.toInt + 4)).toInt ∧ (eA g0 236 (x9444.toInt + 4)).toInt ≤ 9) ∧ (0 ≤ (eA g0 236 (x9444.toInt + 5)).toInt ∧ (eA g0 236 (x9444.toInt + 5)).toInt ≤ 9999) ∧ (0 ≤ (eA g0 236 (x9444.toInt + 1)).toInt ∧ (eA g0 236 (x9444.toInt + 1)).toInt < (eA g0 233 0).toInt) ∧ (0 ≤ (eA g0 236 (x9444.toInt + 2)).toInt ∧ (eA g0 236 (x9444.toInt + 2)).toInt < (eA g0 233 0).toInt) from by have y531_ := congrArg Int32.toInt hv9530; have y532_ := congrArg Int32.toInt hv9532; have y533_ := congrArg Int32.toInt hv9534; have y534_ := congrArg Int32.toInt hv9536; have y535_ := congrArg Int32.toInt hv9582; have y536_ := congrArg Int32.toInt hv9597; omega) (by omega) (by omega)); refine Eq.trans ?_ (eA_ix (g := g0) (p := 236) (show x9444.toInt + 5 = x9444.toInt + (i - 46 - 6 * (eA g9446 233 1).toInt) from by omega)); have y537_ := congrArg Int32.toInt hv9530; have y538_ := congrArg Int32.toInt hv9532; have y539_ := congrArg Int32.toInt hv9534; have y540_ := congrArg Int32.toInt hv9536; have y541_ := congrArg Int32.toInt hv9582; have y542_ := congrArg Int32.toInt hv9597; omega) (fun k548_ => by refine (if_neg k548_).trans ?_; refine (eA_ti (rfl)).trans ?_; refine (q9473 i i0 i1).trans ?_; exact RFI.n (by omega) (by omega) q9470 (by omega) rfl (fun k => absurd k.2 (by omega)))))))))⟩ ⟨by omega, by omega⟩
  · have c6418_ : v6415.toInt = 0 := en_k_ne_f c6418
    refine At.enter rfl ?_
    refine r_aload_n rfl ?_
    refine r_bipush (-6) rfl ?_
    refine r_callV 25 rfl [.ref 231, .int (-6)] [] (Nat.le_of_ble_eq_true rfl) rfl (T_X11_tell_231 _ hI6416 (-6) (by decide)) ?_
    rintro _ _ ⟨g9630, rfl, hI9631, hF9632, v9633, rfl, hr9634⟩
    refine At.sti ?_
    have hF9635 := Fr.tr hF6417 hF9632 rfl rfl
    have zv9636 : ((-6) : Int32).toInt = (-6) := rfl
    refine At.enter rfl ?_
    refine r_ireti ?_
    obtain ⟨v9637, hv9637⟩ : ∃ v, eA g0 233 1 = v := ⟨_, rfl⟩
    have tv9637 := congrArg Int32.toInt hv9637
    have wv9637 := HI.t1 hI0
    rw [hv9637] at wv9637
    have tv9637 := congrArg Int32.toInt hv9637
    have x9638 := HI.eqA hI9631 (p := 233) (j := 1) ((((eA_c (hF9632.2.1 233 (by decide))).trans ((eA_c gA_sI).trans (eA_c gA_sI))).trans hv9637))
    have x9639 := HI.eqA hI0 (p := 233) (j := 1) (hv9637)
    have x9640 := HI.eqI hI9631 (p := 231) (b := 8) (((hF9632.1 231 8 (by decide)).trans (gI_sI_eq hI6413.1 kx_231 rfl _)))
    have zv9641 : (0 : Int32).toInt = 0 := rfl
    have x9642 := HI.eqI hI0 (p := 231) (b := 8) (hv6415)
    obtain ⟨v9643, hv9643⟩ : ∃ v, gI g0 231 6 = v := ⟨_, rfl⟩
    have tv9643 := congrArg Int32.toInt hv9643
    have x9644 := HI.eqI hI9631 (p := 231) (b := 6) ((((hF9632.1 231 6 (by decide)).trans ((gI_sI_ne (by decide)).trans (gI_sI_ne (by decide)))).trans hv9643))
    have x9645 := HI.eqI hI0 (p := 231) (b := 6) (hv9643)
    obtain ⟨v9646, hv9646⟩ : ∃ v, eA g0 233 0 = v := ⟨_, rfl⟩
    have tv9646 := congrArg Int32.toInt hv9646
    have wv9646 := HI.t0 hI0
    rw [hv9646] at wv9646
    have tv9646 := congrArg Int32.toInt hv9646
    have x9647 := HI.eqA hI9631 (p := 233) (j := 0) ((((eA_c (hF9632.2.1 233 (by decide))).trans ((eA_c gA_sI).trans (eA_c gA_sI))).trans hv9646))
    have x9648 := HI.eqA hI0 (p := 233) (j := 0) (hv9646)
    obtain ⟨v9649, hv9649⟩ : ∃ v, eA g0 233 4 = v := ⟨_, rfl⟩
    have wv9649 := HI.t4 hI0
    rw [hv9649] at wv9649
    have tv9649 := congrArg Int32.toInt hv9649
    have x9650 := HI.eqA hI9631 (p := 233) (j := 4) ((((eA_c (hF9632.2.1 233 (by decide))).trans ((eA_c gA_sI).trans (eA_c gA_sI))).trans hv9649))
    have x9651 := HI.eqA hI0 (p := 233) (j := 4) (hv9649)
    obtain ⟨v9652, hv9652⟩ : ∃ v, eA g0 233 5 = v := ⟨_, rfl⟩
    have wv9652 := HI.t5 hI0
    rw [hv9652] at wv9652
    have tv9652 := congrArg Int32.toInt hv9652
    have x9653 := HI.eqA hI9631 (p := 233) (j := 5) ((((eA_c (hF9632.2.1 233 (by decide))).trans ((eA_c gA_sI).trans (eA_c gA_sI))).trans hv9652))
    have x9654 := HI.eqA hI0 (p := 233) (j := 5) (hv9652)
    obtain ⟨v9655, hv9655⟩ : ∃ v, eA g0 233 6 = v := ⟨_, rfl⟩
    have wv9655 := HI.t6 hI0
    rw [hv9655] at wv9655
    have tv9655 := congrArg Int32.toInt hv9655
    have x9656 := HI.eqA hI9631 (p := 233) (j := 6) ((((eA_c (hF9632.2.1 233 (by decide))).trans ((eA_c gA_sI).trans (eA_c gA_sI))).trans hv9655))
    have x9657 := HI.eqA hI0 (p := 233) (j := 6) (hv9655)
    have x9658 := HI.eqA hI0 (p := 233) (j := 0) (hv9646)
    have y9659 := HI.eqA hI9631 (p := 233) (j := 1) (eA_c (j := 1) (((hF9632.2.1 233 (by decide)).trans ((gA_sI).trans (gA_sI)))))
    exact ⟨_, rfl, hI9631, hF9635, _, rfl, by omega, ⟨⟨(by refine Eq.trans ?_ (RLI.z _ _ _ _ (by omega)); exact eA_ti (((hF9632.2.1 233 (by decide)).trans ((gA_sI).trans (gA_sI))))), by omega, by omega, by omega, by omega, by omega, by omega, by omega⟩, (by intro i i0 i1; refine (eA_ti (((hF9632.2.1 233 (by decide)).trans ((gA_sI).trans (gA_sI))))).trans ?_; (first | rfl | exact eA_ix (by omega) | omega)), (by intro i i0 i1; refine (eA_ti (((hF9632.2.1 233 (by decide)).trans ((gA_sI).trans (gA_sI))))).trans ?_; (first | rfl | exact eA_ix (by omega) | omega)), (by intro i i0 i1; refine (eA_ti (((hF9632.2.1 233 (by decide)).trans ((gA_sI).trans (gA_sI))))).trans ?_; refine (eA_ix (show i = 46 + (i - 46) from by omega)).trans ?_; exact RFI.z _ _ _ _ (fun i : Int => (eA g0 233 (46 + i)).toInt) (by omega) _)⟩⟩
