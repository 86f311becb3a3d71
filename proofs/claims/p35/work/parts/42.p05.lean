def F_X11_readPlain_231 : List (Nat × Nat) := [(231, 9), (231, 10), (231, 11), (231, 12), (231, 13), (231, 14), (231, 17), (231, 20), (231, 23), (231, 24)]
def A_X11_readPlain_231 : List Nat := [238, 239, 240, 241]
set_option maxRecDepth 100000 in
set_option maxHeartbeats 4000000 in
theorem T_X11_readPlain_231 (d : Nat) {N : Nat} {g0 : List en_E} (hI0 : HI g0) (b : Int) (o0 : Int → Int) (a0 : Int → Int) (h1 : ((gI g0 231 9).toInt ≤ (gI g0 231 10).toInt ∧ (gI g0 231 10).toInt ≤ (gI g0 231 8).toInt ∧ 0 ≤ (gI g0 231 11).toInt ∧ (gI g0 231 11).toInt ≤ 3 * ((gI g0 231 10).toInt - (gI g0 231 9).toInt))) (h2 : (gI g0 231 14).toInt = 0) (h3 : (gI g0 231 17).toInt + (gI g0 231 23).toInt ≤ (gI g0 231 9).toInt) (hW : W26 g0) (hP : PT g0 b 0 o0 a0) : Ev (d + 6) 205 [.ref 231] (g0, N) (fun w h' => ∃ g', h' = (g', N) ∧ HI g' ∧ Fr F_X11_readPlain_231 A_X11_readPlain_231 g0 g' ∧ ∃ r : Int32, w = some (.int r) ∧ (0 ≤ r.toInt ∧ r.toInt ≤ 3) ∧ ((gI g' 231 9).toInt ≤ (gI g' 231 10).toInt ∧ (gI g' 231 10).toInt ≤ (gI g' 231 8).toInt ∧ 0 ≤ (gI g' 231 11).toInt ∧ (gI g' 231 11).toInt ≤ 3 * ((gI g' 231 10).toInt - (gI g' 231 9).toInt) ∧ W26 g' ∧ (gI g' 231 17).toInt + (gI g' 231 23).toInt ≤ 400 ∧ (gI g0 231 9).toInt ≤ (gI g' 231 9).toInt ∧ TURN g' b r.toInt o0 a0 ∧ PRG (gI g' 231 14).toInt (gI g0 231 9).toInt (gI g' 231 9).toInt r.toInt 4)) := by
  have hF0 : Fr F_X11_readPlain_231 A_X11_readPlain_231 g0 g0 := Fr.rf
  obtain ⟨v1, hv1⟩ : ∃ v, gI g0 231 8 = v := ⟨_, rfl⟩
  have rv1 := RgF.at hI0.2.1 (p := 231) (b := 8) rfl
  rw [hv1] at rv1
  dsimp only at rv1
  have tv1 := congrArg Int32.toInt hv1
  obtain ⟨v2, hv2⟩ : ∃ v, gI g0 231 9 = v := ⟨_, rfl⟩
  have rv2 := RgF.at hI0.2.1 (p := 231) (b := 9) rfl
  rw [hv2] at rv2
  dsimp only at rv2
  have tv2 := congrArg Int32.toInt hv2
  obtain ⟨v3, hv3⟩ : ∃ v, gI g0 231 10 = v := ⟨_, rfl⟩
  have rv3 := RgF.at hI0.2.1 (p := 231) (b := 10) rfl
  rw [hv3] at rv3
  dsimp only at rv3
  have tv3 := congrArg Int32.toInt hv3
  obtain ⟨v4, hv4⟩ : ∃ v, gI g0 231 11 = v := ⟨_, rfl⟩
  have tv4 := congrArg Int32.toInt hv4
  obtain ⟨v5, hv5⟩ : ∃ v, gJ g0 231 12 = v := ⟨_, rfl⟩
  have tv5 := congrArg Int64.toInt hv5
  obtain ⟨v6, hv6⟩ : ∃ v, gI g0 231 14 = v := ⟨_, rfl⟩
  have tv6 := congrArg Int32.toInt hv6
  obtain ⟨v7, hv7⟩ : ∃ v, gI g0 231 17 = v := ⟨_, rfl⟩
  have rv7 := RgF.at hI0.2.1 (p := 231) (b := 17) rfl
  rw [hv7] at rv7
  dsimp only at rv7
  have tv7 := congrArg Int32.toInt hv7
  obtain ⟨v8, hv8⟩ : ∃ v, gI g0 231 23 = v := ⟨_, rfl⟩
  have rv8 := RgF.at hI0.2.1 (p := 231) (b := 23) rfl
  rw [hv8] at rv8
  dsimp only at rv8
  have tv8 := congrArg Int32.toInt hv8
  refine Ev.mk rfl rfl ⟨Nat.le_of_ble_eq_true rfl, Or.inr (q_rc hI0.1 kx_231 rfl)⟩ ?_
  show At _ none _ _ (0, [(0, .ref 231)], [], (_, _)) _
  refine At.enter rfl ?_
  refine r_aload_n rfl ?_
  refine r_ldc2 14836 rfl ?_
  have x495 := HI.eqI hI0 (p := 231) (b := 11) (hv4)
  have zv496 : (14836 : Int64).toInt = 14836 := rfl
  refine r_callV 7 rfl [.ref 231, .long 14836] [] (Nat.le_of_ble_eq_true rfl) rfl (T_X11_isWord_231 _ hI0 14836 (by omega)) ?_
  rintro _ _ ⟨g497, rfl, hI498, hF499, v500, rfl, hr501⟩
  refine At.sti ?_
  have hF502 := Fr.tr hF0 hF499 rfl rfl
  have zv503 : (14836 : Int64).toInt = 14836 := rfl
  have x504 := HI.eqI hI0 (p := 231) (b := 9) (hv2)
  have x505 := HI.eqI hI0 (p := 231) (b := 10) (hv3)
  have x506 := HI.eqI hI0 (p := 231) (b := 11) (hv4)
  have x507 := HI.eqI hI498 (p := 231) (b := 9) (((hF499.1 231 9 (by decide)).trans hv2))
  have x508 := HI.eqI hI498 (p := 231) (b := 10) (((hF499.1 231 10 (by decide)).trans hv3))
  have x509 := HI.eqI hI498 (p := 231) (b := 11) (((hF499.1 231 11 (by decide)).trans hv4))
  obtain ⟨c512, c510, isw511⟩ := hr501
  refine At.enter rfl ?_
  refine r_ifs 10 rfl (fun c513 => ?_) (fun c513 => ?_)
  · have c513_ : v500.toInt = 0 := en_k_eq_t c513
    refine At.enter rfl ?_
    refine r_aload_n rfl ?_
    refine r_bipush 40 rfl ?_
    have x514 := HI.eqI hI498 (p := 231) (b := 11) (((hF499.1 231 11 (by decide)).trans hv4))
    have zv515 : (40 : Int32).toInt = 40 := rfl
    refine r_callV 29 rfl [.ref 231, .int 40] [] (Nat.le_of_ble_eq_true rfl) rfl (T_X11_isSign_231 _ hI498 40 (by omega)) ?_
    rintro _ _ ⟨g516, rfl, hI517, hF518, v519, rfl, hr520⟩
    refine At.sti ?_
    have hF521 := Fr.tr hF502 hF518 rfl rfl
    have zv522 : (40 : Int32).toInt = 40 := rfl
    have x523 := HI.eqI hI498 (p := 231) (b := 11) (((hF499.1 231 11 (by decide)).trans hv4))
    have x524 := HI.eqI hI517 (p := 231) (b := 11) ((((hF518.1 231 11 (by decide)).trans (hF499.1 231 11 (by decide))).trans hv4))
    refine At.enter rfl ?_
    refine r_ifs 32 rfl (fun c525 => ?_) (fun c525 => ?_)
    · have c525_ : v519.toInt = 0 := en_k_eq_t c525
      refine At.enter rfl ?_
      refine r_aload_n rfl ?_
      have x526 := HI.eqI hI517 (p := 231) (b := 8) ((((hF518.1 231 8 (by decide)).trans (hF499.1 231 8 (by decide))).trans hv1))
      have x527 := HI.eqI hI517 (p := 231) (b := 9) ((((hF518.1 231 9 (by decide)).trans (hF499.1 231 9 (by decide))).trans hv2))
      have x528 := HI.eqI hI517 (p := 231) (b := 10) ((((hF518.1 231 10 (by decide)).trans (hF499.1 231 10 (by decide))).trans hv3))
      have x529 := HI.eqI hI517 (p := 231) (b := 11) ((((hF518.1 231 11 (by decide)).trans (hF499.1 231 11 (by decide))).trans hv4))
      have x530 := HI.eqJ hI517 (b := 12) ((((hF518.2.2 231 12 (by decide)).trans (hF499.2.2 231 12 (by decide))).trans hv5))
      have x531 := HI.eqI hI517 (p := 231) (b := 14) ((((hF518.1 231 14 (by decide)).trans (hF499.1 231 14 (by decide))).trans hv6))
      have x532 := HI.eqI hI517 (p := 231) (b := 17) ((((hF518.1 231 17 (by decide)).trans (hF499.1 231 17 (by decide))).trans hv7))
      have x533 := HI.eqI hI517 (p := 231) (b := 23) ((((hF518.1 231 23 (by decide)).trans (hF499.1 231 23 (by decide))).trans hv8))
      have w26534 := W26.cong hW hI517 (((hF518.1 231 9 (by decide)).trans (hF499.1 231 9 (by decide)))) (((hF518.1 231 10 (by decide)).trans (hF499.1 231 10 (by decide)))) (((hF518.1 231 11 (by decide)).trans (hF499.1 231 11 (by decide)))) (((hF518.2.2 231 12 (by decide)).trans (hF499.2.2 231 12 (by decide))))
      refine r_callV 44 rfl [.ref 231] [] (Nat.le_of_ble_eq_true rfl) rfl (T_X11_readPart_231 _ hI517 b o0 a0 (by refine ⟨?_, ?_, ?_, ?_⟩ <;> omega) (by omega) (by omega) w26534 (PT.of01 (PT.cong hP hI517 (((hF518.2.1 238 (by decide)).trans (hF499.2.1 238 (by decide)))) (((hF518.2.1 239 (by decide)).trans (hF499.2.1 239 (by decide)))) (((hF518.2.1 240 (by decide)).trans (hF499.2.1 240 (by decide)))) (((hF518.2.1 241 (by decide)).trans (hF499.2.1 241 (by decide)))) (((hF518.1 231 17 (by decide)).trans (hF499.1 231 17 (by decide)))) (((hF518.1 231 23 (by decide)).trans (hF499.1 231 23 (by decide))))))) ?_
      rintro _ _ ⟨g535, rfl, hI536, hF537, v538, rfl, hr539⟩
      refine At.sti ?_
      have hF540 := Fr.tr hF521 hF537 rfl rfl
      have x541 := HI.eqI hI517 (p := 231) (b := 9) ((((hF518.1 231 9 (by decide)).trans (hF499.1 231 9 (by decide))).trans hv2))
      have x542 := HI.eqI hI536 (p := 231) (b := 8) ((((hF537.1 231 8 (by decide)).trans ((hF518.1 231 8 (by decide)).trans (hF499.1 231 8 (by decide)))).trans hv1))
      obtain ⟨v543, hv543⟩ : ∃ v, gI g535 231 9 = v := ⟨_, rfl⟩
      have rv543 := RgF.at hI536.2.1 (p := 231) (b := 9) rfl
      rw [hv543] at rv543
      dsimp only at rv543
      have tv543 := congrArg Int32.toInt hv543
      have x544 := HI.eqI hI536 (p := 231) (b := 9) (hv543)
      obtain ⟨v545, hv545⟩ : ∃ v, gI g535 231 10 = v := ⟨_, rfl⟩
      have rv545 := RgF.at hI536.2.1 (p := 231) (b := 10) rfl
      rw [hv545] at rv545
      dsimp only at rv545
      have tv545 := congrArg Int32.toInt hv545
      have x546 := HI.eqI hI536 (p := 231) (b := 10) (hv545)
      obtain ⟨v547, hv547⟩ : ∃ v, gI g535 231 11 = v := ⟨_, rfl⟩
      have tv547 := congrArg Int32.toInt hv547
      have x548 := HI.eqI hI536 (p := 231) (b := 11) (hv547)
      obtain ⟨v549, hv549⟩ : ∃ v, gJ g535 231 12 = v := ⟨_, rfl⟩
      have x550 := HI.eqJ hI536 (b := 12) (hv549)
      obtain ⟨v551, hv551⟩ : ∃ v, gI g535 231 14 = v := ⟨_, rfl⟩
      have tv551 := congrArg Int32.toInt hv551
      have x552 := HI.eqI hI536 (p := 231) (b := 14) (hv551)
      obtain ⟨v553, hv553⟩ : ∃ v, gI g535 231 17 = v := ⟨_, rfl⟩
      have rv553 := RgF.at hI536.2.1 (p := 231) (b := 17) rfl
      rw [hv553] at rv553
      dsimp only at rv553
      have tv553 := congrArg Int32.toInt hv553
      have x554 := HI.eqI hI536 (p := 231) (b := 17) (hv553)
      obtain ⟨v555, hv555⟩ : ∃ v, gI g535 231 23 = v := ⟨_, rfl⟩
      have rv555 := RgF.at hI536.2.1 (p := 231) (b := 23) rfl
      rw [hv555] at rv555
      dsimp only at rv555
      have tv555 := congrArg Int32.toInt hv555
      have x556 := HI.eqI hI536 (p := 231) (b := 23) (hv555)
      obtain ⟨c557, c558, c559, c560, c561, c562, c563, c564, c565⟩ := hr539.2
      refine At.enter rfl ?_
      refine r_ireti ?_
      have x566 := HI.eqI hI536 (p := 231) (b := 8) ((((hF537.1 231 8 (by decide)).trans ((hF518.1 231 8 (by decide)).trans (hF499.1 231 8 (by decide)))).trans hv1))
      have x567 := HI.eqI hI536 (p := 231) (b := 9) (hv543)
      have x568 := HI.eqI hI536 (p := 231) (b := 10) (hv545)
      have x569 := HI.eqI hI536 (p := 231) (b := 11) (hv547)
      have x570 := HI.eqJ hI536 (b := 12) (hv549)
      have x571 := HI.eqI hI536 (p := 231) (b := 14) (hv551)
      have x572 := HI.eqI hI536 (p := 231) (b := 17) (hv553)
      have x573 := HI.eqI hI536 (p := 231) (b := 23) (hv555)
      have x574 := HI.eqI hI0 (p := 231) (b := 9) (hv2)
      exact ⟨_, rfl, hI536, hF540, _, rfl, by omega, ⟨by omega, by omega, by omega, by omega, c561, by omega, by omega, c564, (fun hbad => by have y := c565 hbad; omega)⟩⟩
    · have c525_ : v519.toInt ≠ 0 := en_k_eq_f c525
      refine At.enter rfl ?_
      refine r_aload_n rfl ?_
      refine r_bipush 30 rfl ?_
      refine q_inlV 38 rfl [.ref 231, .int 30] [] (Nat.le_of_ble_eq_true rfl) rfl ?_
      refine Ev.mk rfl rfl ⟨Nat.le_of_ble_eq_true rfl, Or.inr (q_rc hI517.1 kx_231 rfl)⟩ ?_
      show At _ none _ _ (0, [(0, .ref 231), (1, .int 30)], [], (_, _)) _
      refine At.enter rfl ?_
      refine r_aload_n rfl ?_
      refine r_aload_n rfl ?_
      obtain ⟨v575, hv575⟩ : ∃ v, gI g0 231 24 = v := ⟨_, rfl⟩
      refine q_getI (Sh.int hI517.1 kx_231 rfl) v575 (((hF518.1 231 24 (by decide)).trans (hF499.1 231 24 (by decide))).trans hv575) ?_
      refine r_bipush 8 rfl ?_
      refine r_ics 10 rfl (fun c576 => ?_) (fun c576 => ?_)
      · have c576_ : v575.toInt ≥ 8 := en_i_ge_t c576
        refine At.enter rfl ?_
        refine r_iconst 0 rfl ?_
        refine Ar.fall 15 rfl ?_
        refine At.enter rfl ?_
        have x577 := HI.eqI hI517 (p := 231) (b := 8) ((((hF518.1 231 8 (by decide)).trans (hF499.1 231 8 (by decide))).trans hv1))
        have x578 := HI.eqI hI517 (p := 231) (b := 9) ((((hF518.1 231 9 (by decide)).trans (hF499.1 231 9 (by decide))).trans hv2))
        have x579 := HI.eqI hI517 (p := 231) (b := 10) ((((hF518.1 231 10 (by decide)).trans (hF499.1 231 10 (by decide))).trans hv3))
        have x580 := HI.eqI hI517 (p := 231) (b := 11) ((((hF518.1 231 11 (by decide)).trans (hF499.1 231 11 (by decide))).trans hv4))
        have w26581 := W26.cong hW hI517 (((hF518.1 231 9 (by decide)).trans (hF499.1 231 9 (by decide)))) (((hF518.1 231 10 (by decide)).trans (hF499.1 231 10 (by decide)))) (((hF518.1 231 11 (by decide)).trans (hF499.1 231 11 (by decide)))) (((hF518.2.2 231 12 (by decide)).trans (hF499.2.2 231 12 (by decide))))
        have zv582 : (0 : Int32).toInt = 0 := rfl
        refine r_callV 18 rfl [.ref 231, .int 0] [] (Nat.le_of_ble_eq_true rfl) rfl (T_X11_must_231 _ hI517 0 (by decide) (by refine ⟨?_, ?_, ?_, ?_⟩ <;> omega) w26581) ?_
        rintro _ _ ⟨g583, rfl, hI584, hF585, rfl, hr587⟩
        refine At.stn ?_
        have hF588 := Fr.tr hF521 hF585 rfl rfl
        have zv589 : (0 : Int32).toInt = 0 := rfl
        have x590 := HI.eqI hI517 (p := 231) (b := 8) ((((hF518.1 231 8 (by decide)).trans (hF499.1 231 8 (by decide))).trans hv1))
        have x591 := HI.eqI hI517 (p := 231) (b := 9) ((((hF518.1 231 9 (by decide)).trans (hF499.1 231 9 (by decide))).trans hv2))
        have x592 := HI.eqI hI517 (p := 231) (b := 10) ((((hF518.1 231 10 (by decide)).trans (hF499.1 231 10 (by decide))).trans hv3))
        have x593 := HI.eqI hI517 (p := 231) (b := 11) ((((hF518.1 231 11 (by decide)).trans (hF499.1 231 11 (by decide))).trans hv4))
        have x594 := HI.eqI hI517 (p := 231) (b := 14) ((((hF518.1 231 14 (by decide)).trans (hF499.1 231 14 (by decide))).trans hv6))
        have x595 := HI.eqI hI584 (p := 231) (b := 8) ((((hF585.1 231 8 (by decide)).trans ((hF518.1 231 8 (by decide)).trans (hF499.1 231 8 (by decide)))).trans hv1))
        obtain ⟨v596, hv596⟩ : ∃ v, gI g583 231 9 = v := ⟨_, rfl⟩
        have rv596 := RgF.at hI584.2.1 (p := 231) (b := 9) rfl
        rw [hv596] at rv596
        dsimp only at rv596
        have tv596 := congrArg Int32.toInt hv596
        have x597 := HI.eqI hI584 (p := 231) (b := 9) (hv596)
        obtain ⟨v598, hv598⟩ : ∃ v, gI g583 231 10 = v := ⟨_, rfl⟩
        have rv598 := RgF.at hI584.2.1 (p := 231) (b := 10) rfl
        rw [hv598] at rv598
        dsimp only at rv598
        have tv598 := congrArg Int32.toInt hv598
        have x599 := HI.eqI hI584 (p := 231) (b := 10) (hv598)
        obtain ⟨v600, hv600⟩ : ∃ v, gI g583 231 11 = v := ⟨_, rfl⟩
        have tv600 := congrArg Int32.toInt hv600
        have x601 := HI.eqI hI584 (p := 231) (b := 11) (hv600)
        obtain ⟨v602, hv602⟩ : ∃ v, gI g583 231 14 = v := ⟨_, rfl⟩
        have tv602 := congrArg Int32.toInt hv602
        have x603 := HI.eqI hI584 (p := 231) (b := 14) (hv602)
        obtain ⟨c604, c605, c606, c607, c608, c609, c610⟩ := hr587
        refine At.enter rfl ?_
        refine r_aload_n rfl ?_
        refine q_getI (Sh.int hI584.1 kx_231 rfl) v602 hv602 ?_
        refine r_ifs 25 rfl (fun c611 => ?_) (fun c611 => ?_)
        · have c611_ : v602.toInt ≠ 0 := en_k_ne_t c611
          clear c610
          refine At.enter rfl ?_
          refine q_vret ?_
          refine At.enter rfl ?_
          refine r_iconst 0 rfl ?_
          refine r_ireti ?_
          have x612 := HI.eqI hI584 (p := 231) (b := 8) ((((hF585.1 231 8 (by decide)).trans ((hF518.1 231 8 (by decide)).trans (hF499.1 231 8 (by decide)))).trans hv1))
          have x613 := HI.eqI hI584 (p := 231) (b := 9) (hv596)
          have x614 := HI.eqI hI584 (p := 231) (b := 10) (hv598)
          have x615 := HI.eqI hI584 (p := 231) (b := 11) (hv600)
          obtain ⟨v616, hv616⟩ : ∃ v, gJ g583 231 12 = v := ⟨_, rfl⟩
          have x617 := HI.eqJ hI584 (b := 12) (hv616)
          have x618 := HI.eqI hI584 (p := 231) (b := 14) (hv602)
          have x619 := HI.eqI hI584 (p := 231) (b := 17) ((((hF585.1 231 17 (by decide)).trans ((hF518.1 231 17 (by decide)).trans (hF499.1 231 17 (by decide)))).trans hv7))
          have x620 := HI.eqI hI584 (p := 231) (b := 23) ((((hF585.1 231 23 (by decide)).trans ((hF518.1 231 23 (by decide)).trans (hF499.1 231 23 (by decide)))).trans hv8))
          have x621 := HI.eqI hI0 (p := 231) (b := 9) (hv2)
          have zv622 : (0 : Int32).toInt = 0 := rfl
          have pg623 := PG.cong (hP.1 (by decide)) hI584 (((hF585.2.1 238 (by decide)).trans ((hF518.2.1 238 (by decide)).trans (hF499.2.1 238 (by decide))))) (((hF585.2.1 239 (by decide)).trans ((hF518.2.1 239 (by decide)).trans (hF499.2.1 239 (by decide))))) (((hF585.2.1 240 (by decide)).trans ((hF518.2.1 240 (by decide)).trans (hF499.2.1 240 (by decide))))) (((hF585.2.1 241 (by decide)).trans ((hF518.2.1 241 (by decide)).trans (hF499.2.1 241 (by decide))))) (((hF585.1 231 17 (by decide)).trans ((hF518.1 231 17 (by decide)).trans (hF499.1 231 17 (by decide))))) (((hF585.1 231 23 (by decide)).trans ((hF518.1 231 23 (by decide)).trans (hF499.1 231 23 (by decide)))))
          have nsq624 := NSQ.cong (hP.2.2.1 (by decide) (by decide)) hI584 (((hF585.2.1 240 (by decide)).trans ((hF518.2.1 240 (by decide)).trans (hF499.2.1 240 (by decide))))) (((hF585.1 231 23 (by decide)).trans ((hF518.1 231 23 (by decide)).trans (hF499.1 231 23 (by decide)))))
          exact ⟨_, rfl, hI584, hF588, _, rfl, by decide, ⟨by omega, by omega, by omega, by omega, c609, by omega, by omega, (fun hbad => ⟨by omega, (PT.mk (fun _ => pg623) (fun h => False.elim (by omega)) (fun _ _ => nsq624) (fun h => False.elim (by omega)))⟩), (fun hbad => by omega)⟩⟩
        · have c611_ : v602.toInt = 0 := en_k_ne_f c611
          obtain ⟨i625, i626, i627⟩ := c610 (by omega)
          refine At.enter rfl ?_
          refine r_aload_n rfl ?_
          refine r_dup rfl ?_
          refine q_getI (Sh.int hI584.1 kx_231 rfl) v575 (((hF585.1 231 24 (by decide)).trans ((hF518.1 231 24 (by decide)).trans (hF499.1 231 24 (by decide)))).trans hv575) ?_
          refine r_iconst 1 rfl ?_
          refine q_iaddO (fun v628 _ => ?_)
          refine q_putI (Sh.int hI584.1 kx_231 rfl) rfl ?_
          have hI629 := HI.wI0 hI584 kx_231 rfl (p := 231) (b := 24) (v := v628) rfl
          have hF630 := Fr.wI (p := 231) (b := 24) (v := v628) hF588 rfl
          refine r_aload_n rfl ?_
          refine r_iload_n rfl ?_
          refine r_iconst 0 rfl ?_
          have x631 := HI.eqI hI629 (p := 231) (b := 23) ((((gI_sI_ne (by decide)).trans ((hF585.1 231 23 (by decide)).trans ((hF518.1 231 23 (by decide)).trans (hF499.1 231 23 (by decide))))).trans hv8))
          have zv632 : (30 : Int32).toInt = 30 := rfl
          have zv633 : (0 : Int32).toInt = 0 := rfl
          refine r_callV 41 rfl [.ref 231, .int 30, .int 0] [] (Nat.le_of_ble_eq_true rfl) rfl (T_X11_push_231 _ hI629 30 (by decide) 0 (by decide) (by omega)) ?_
          rintro _ _ ⟨g634, rfl, hI635, hF636, rfl, hr638⟩
          refine At.stn ?_
          have hF639 := Fr.tr hF630 hF636 rfl rfl
          have zv640 : (30 : Int32).toInt = 30 := rfl
          have zv641 : (0 : Int32).toInt = 0 := rfl
          have x642 := HI.eqI hI629 (p := 231) (b := 17) ((((gI_sI_ne (by decide)).trans ((hF585.1 231 17 (by decide)).trans ((hF518.1 231 17 (by decide)).trans (hF499.1 231 17 (by decide))))).trans hv7))
          have x643 := HI.eqI hI629 (p := 231) (b := 23) ((((gI_sI_ne (by decide)).trans ((hF585.1 231 23 (by decide)).trans ((hF518.1 231 23 (by decide)).trans (hF499.1 231 23 (by decide))))).trans hv8))
          have x644 := HI.eqI hI635 (p := 231) (b := 17) ((((hF636.1 231 17 (by decide)).trans ((gI_sI_ne (by decide)).trans ((hF585.1 231 17 (by decide)).trans ((hF518.1 231 17 (by decide)).trans (hF499.1 231 17 (by decide)))))).trans hv7))
          obtain ⟨v645, hv645⟩ : ∃ v, gI g634 231 23 = v := ⟨_, rfl⟩
          have rv645 := RgF.at hI635.2.1 (p := 231) (b := 23) rfl
          rw [hv645] at rv645
          dsimp only at rv645
          have tv645 := congrArg Int32.toInt hv645
          have x646 := HI.eqI hI635 (p := 231) (b := 23) (hv645)
          have y647 : (gI _ 231 23).toInt = (gI _ 231 23).toInt + 1 := hr638.1
          have pg648 := PG.cong (hP.1 (by decide)) hI629 (((gA_sI).trans ((hF585.2.1 238 (by decide)).trans ((hF518.2.1 238 (by decide)).trans (hF499.2.1 238 (by decide)))))) (((gA_sI).trans ((hF585.2.1 239 (by decide)).trans ((hF518.2.1 239 (by decide)).trans (hF499.2.1 239 (by decide)))))) (((gA_sI).trans ((hF585.2.1 240 (by decide)).trans ((hF518.2.1 240 (by decide)).trans (hF499.2.1 240 (by decide)))))) (((gA_sI).trans ((hF585.2.1 241 (by decide)).trans ((hF518.2.1 241 (by decide)).trans (hF499.2.1 241 (by decide)))))) (((gI_sI_ne (by decide)).trans ((hF585.1 231 17 (by decide)).trans ((hF518.1 231 17 (by decide)).trans (hF499.1 231 17 (by decide)))))) (((gI_sI_ne (by decide)).trans ((hF585.1 231 23 (by decide)).trans ((hF518.1 231 23 (by decide)).trans (hF499.1 231 23 (by decide))))))
          have nsq650 := NSQ.cong (hP.2.2.1 (by decide) (by decide)) hI629 (((gA_sI).trans ((hF585.2.1 240 (by decide)).trans ((hF518.2.1 240 (by decide)).trans (hF499.2.1 240 (by decide)))))) (((gI_sI_ne (by decide)).trans ((hF585.1 231 23 (by decide)).trans ((hF518.1 231 23 (by decide)).trans (hF499.1 231 23 (by decide))))))
          have pg649 := PG.push (e' := 0) pg648 hr638 (hF636.2.1 238 (by decide)) (hF636.2.1 239 (by decide)) (hF636.1 231 17 (by decide)) ⟨by omega, by omega⟩ (Or.inr nsq650) (by omega) (by omega)
          have nsq651 := NSQ.push nsq650 hr638 (by omega)
          refine At.enter rfl ?_
          refine q_vret ?_
          refine At.enter rfl ?_
          refine r_iconst 0 rfl ?_
          refine r_ireti ?_
          have x652 := HI.eqI hI635 (p := 231) (b := 8) ((((hF636.1 231 8 (by decide)).trans ((gI_sI_ne (by decide)).trans ((hF585.1 231 8 (by decide)).trans ((hF518.1 231 8 (by decide)).trans (hF499.1 231 8 (by decide)))))).trans hv1))
          have x653 := HI.eqI hI635 (p := 231) (b := 9) ((((hF636.1 231 9 (by decide)).trans (gI_sI_ne (by decide))).trans hv596))
          have x654 := HI.eqI hI635 (p := 231) (b := 10) ((((hF636.1 231 10 (by decide)).trans (gI_sI_ne (by decide))).trans hv598))
          have x655 := HI.eqI hI635 (p := 231) (b := 11) ((((hF636.1 231 11 (by decide)).trans (gI_sI_ne (by decide))).trans hv600))
          obtain ⟨v656, hv656⟩ : ∃ v, gJ g583 231 12 = v := ⟨_, rfl⟩
          have x657 := HI.eqJ hI635 (b := 12) ((((hF636.2.2 231 12 (by decide)).trans (gJ_sI_ne (by decide))).trans hv656))
          have x658 := HI.eqI hI635 (p := 231) (b := 14) ((((hF636.1 231 14 (by decide)).trans (gI_sI_ne (by decide))).trans hv602))
          have x659 := HI.eqI hI635 (p := 231) (b := 17) ((((hF636.1 231 17 (by decide)).trans ((gI_sI_ne (by decide)).trans ((hF585.1 231 17 (by decide)).trans ((hF518.1 231 17 (by decide)).trans (hF499.1 231 17 (by decide)))))).trans hv7))
          have x660 := HI.eqI hI635 (p := 231) (b := 23) (hv645)
          have x661 := HI.eqI hI0 (p := 231) (b := 9) (hv2)
          have zv662 : (0 : Int32).toInt = 0 := rfl
          have w26663 := W26.cong c609 hI635 (((hF636.1 231 9 (by decide)).trans (gI_sI_ne (by decide)))) (((hF636.1 231 10 (by decide)).trans (gI_sI_ne (by decide)))) (((hF636.1 231 11 (by decide)).trans (gI_sI_ne (by decide)))) (((hF636.2.2 231 12 (by decide)).trans (gJ_sI_ne (by decide))))
          exact ⟨_, rfl, hI635, hF639, _, rfl, by decide, ⟨by omega, by omega, by omega, by omega, w26663, by omega, by omega, (fun hbad => ⟨by omega, (PT.mk (fun _ => pg649) (fun h => False.elim (by omega)) (fun _ _ => nsq651) (fun h => False.elim (by omega)))⟩), (fun hbad => by omega)⟩⟩
      · have c576_ : v575.toInt < 8 := en_i_ge_f c576
        refine At.enter rfl ?_
        refine r_iconst 1 rfl ?_
        refine r_goto ?_
        refine At.enter rfl ?_
        have x664 := HI.eqI hI517 (p := 231) (b := 8) ((((hF518.1 231 8 (by decide)).trans (hF499.1 231 8 (by decide))).trans hv1))
        have x665 := HI.eqI hI517 (p := 231) (b := 9) ((((hF518.1 231 9 (by decide)).trans (hF499.1 231 9 (by decide))).trans hv2))
        have x666 := HI.eqI hI517 (p := 231) (b := 10) ((((hF518.1 231 10 (by decide)).trans (hF499.1 231 10 (by decide))).trans hv3))
        have x667 := HI.eqI hI517 (p := 231) (b := 11) ((((hF518.1 231 11 (by decide)).trans (hF499.1 231 11 (by decide))).trans hv4))
        have w26668 := W26.cong hW hI517 (((hF518.1 231 9 (by decide)).trans (hF499.1 231 9 (by decide)))) (((hF518.1 231 10 (by decide)).trans (hF499.1 231 10 (by decide)))) (((hF518.1 231 11 (by decide)).trans (hF499.1 231 11 (by decide)))) (((hF518.2.2 231 12 (by decide)).trans (hF499.2.2 231 12 (by decide))))
        have zv669 : (1 : Int32).toInt = 1 := rfl
        refine r_callV 18 rfl [.ref 231, .int 1] [] (Nat.le_of_ble_eq_true rfl) rfl (T_X11_must_231 _ hI517 1 (by decide) (by refine ⟨?_, ?_, ?_, ?_⟩ <;> omega) w26668) ?_
        rintro _ _ ⟨g670, rfl, hI671, hF672, rfl, hr674⟩
        refine At.stn ?_
        have hF675 := Fr.tr hF521 hF672 rfl rfl
        have zv676 : (1 : Int32).toInt = 1 := rfl
        have x677 := HI.eqI hI517 (p := 231) (b := 8) ((((hF518.1 231 8 (by decide)).trans (hF499.1 231 8 (by decide))).trans hv1))
        have x678 := HI.eqI hI517 (p := 231) (b := 9) ((((hF518.1 231 9 (by decide)).trans (hF499.1 231 9 (by decide))).trans hv2))
        have x679 := HI.eqI hI517 (p := 231) (b := 10) ((((hF518.1 231 10 (by decide)).trans (hF499.1 231 10 (by decide))).trans hv3))
        have x680 := HI.eqI hI517 (p := 231) (b := 11) ((((hF518.1 231 11 (by decide)).trans (hF499.1 231 11 (by decide))).trans hv4))
        have x681 := HI.eqI hI517 (p := 231) (b := 14) ((((hF518.1 231 14 (by decide)).trans (hF499.1 231 14 (by decide))).trans hv6))
        have x682 := HI.eqI hI671 (p := 231) (b := 8) ((((hF672.1 231 8 (by decide)).trans ((hF518.1 231 8 (by decide)).trans (hF499.1 231 8 (by decide)))).trans hv1))
        obtain ⟨v683, hv683⟩ : ∃ v, gI g670 231 9 = v := ⟨_, rfl⟩
        have rv683 := RgF.at hI671.2.1 (p := 231) (b := 9) rfl
        rw [hv683] at rv683
        dsimp only at rv683
        have tv683 := congrArg Int32.toInt hv683
        have x684 := HI.eqI hI671 (p := 231) (b := 9) (hv683)
        obtain ⟨v685, hv685⟩ : ∃ v, gI g670 231 10 = v := ⟨_, rfl⟩
        have rv685 := RgF.at hI671.2.1 (p := 231) (b := 10) rfl
        rw [hv685] at rv685
        dsimp only at rv685
        have tv685 := congrArg Int32.toInt hv685
        have x686 := HI.eqI hI671 (p := 231) (b := 10) (hv685)
        obtain ⟨v687, hv687⟩ : ∃ v, gI g670 231 11 = v := ⟨_, rfl⟩
        have tv687 := congrArg Int32.toInt hv687
        have x688 := HI.eqI hI671 (p := 231) (b := 11) (hv687)
        obtain ⟨v689, hv689⟩ : ∃ v, gI g670 231 14 = v := ⟨_, rfl⟩
        have tv689 := congrArg Int32.toInt hv689
        have x690 := HI.eqI hI671 (p := 231) (b := 14) (hv689)
        obtain ⟨c691, c692, c693, c694, c695, c696, c697⟩ := hr674
        refine At.enter rfl ?_
        refine r_aload_n rfl ?_
        refine q_getI (Sh.int hI671.1 kx_231 rfl) v689 hv689 ?_
        refine r_ifs 25 rfl (fun c698 => ?_) (fun c698 => ?_)
        · have c698_ : v689.toInt ≠ 0 := en_k_ne_t c698
          clear c697
          refine At.enter rfl ?_
          refine q_vret ?_
          refine At.enter rfl ?_
          refine r_iconst 0 rfl ?_
          refine r_ireti ?_
          have x699 := HI.eqI hI671 (p := 231) (b := 8) ((((hF672.1 231 8 (by decide)).trans ((hF518.1 231 8 (by decide)).trans (hF499.1 231 8 (by decide)))).trans hv1))
          have x700 := HI.eqI hI671 (p := 231) (b := 9) (hv683)
          have x701 := HI.eqI hI671 (p := 231) (b := 10) (hv685)
          have x702 := HI.eqI hI671 (p := 231) (b := 11) (hv687)
          obtain ⟨v703, hv703⟩ : ∃ v, gJ g670 231 12 = v := ⟨_, rfl⟩
          have x704 := HI.eqJ hI671 (b := 12) (hv703)
          have x705 := HI.eqI hI671 (p := 231) (b := 14) (hv689)
          have x706 := HI.eqI hI671 (p := 231) (b := 17) ((((hF672.1 231 17 (by decide)).trans ((hF518.1 231 17 (by decide)).trans (hF499.1 231 17 (by decide)))).trans hv7))
          have x707 := HI.eqI hI671 (p := 231) (b := 23) ((((hF672.1 231 23 (by decide)).trans ((hF518.1 231 23 (by decide)).trans (hF499.1 231 23 (by decide)))).trans hv8))
          have x708 := HI.eqI hI0 (p := 231) (b := 9) (hv2)
          have zv709 : (0 : Int32).toInt = 0 := rfl
          have pg710 := PG.cong (hP.1 (by decide)) hI671 (((hF672.2.1 238 (by decide)).trans ((hF518.2.1 238 (by decide)).trans (hF499.2.1 238 (by decide))))) (((hF672.2.1 239 (by decide)).trans ((hF518.2.1 239 (by decide)).trans (hF499.2.1 239 (by decide))))) (((hF672.2.1 240 (by decide)).trans ((hF518.2.1 240 (by decide)).trans (hF499.2.1 240 (by decide))))) (((hF672.2.1 241 (by decide)).trans ((hF518.2.1 241 (by decide)).trans (hF499.2.1 241 (by decide))))) (((hF672.1 231 17 (by decide)).trans ((hF518.1 231 17 (by decide)).trans (hF499.1 231 17 (by decide))))) (((hF672.1 231 23 (by decide)).trans ((hF518.1 231 23 (by decide)).trans (hF499.1 231 23 (by decide)))))
          have nsq711 := NSQ.cong (hP.2.2.1 (by decide) (by decide)) hI671 (((hF672.2.1 240 (by decide)).trans ((hF518.2.1 240 (by decide)).trans (hF499.2.1 240 (by decide))))) (((hF672.1 231 23 (by decide)).trans ((hF518.1 231 23 (by decide)).trans (hF499.1 231 23 (by decide)))))
          exact ⟨_, rfl, hI671, hF675, _, rfl, by decide, ⟨by omega, by omega, by omega, by omega, c696, by omega, by omega, (fun hbad => ⟨by omega, (PT.mk (fun _ => pg710) (fun h => False.elim (by omega)) (fun _ _ => nsq711) (fun h => False.elim (by omega)))⟩), (fun hbad => by omega)⟩⟩
        · have c698_ : v689.toInt = 0 := en_k_ne_f c698
          obtain ⟨i712, i713, i714⟩ := c697 (by omega)
          refine At.enter rfl ?_
          refine r_aload_n rfl ?_
          refine r_dup rfl ?_
          refine q_getI (Sh.int hI671.1 kx_231 rfl) v575 (((hF672.1 231 24 (by decide)).trans ((hF518.1 231 24 (by decide)).trans (hF499.1 231 24 (by decide)))).trans hv575) ?_
          refine r_iconst 1 rfl ?_
          have bv715 := q_bnd v575
          refine q_iadd (v575.toInt + 1) rfl (by omega) (fun v716 hv716 => ?_)
          refine q_putI (Sh.int hI671.1 kx_231 rfl) rfl ?_
          have hI717 := HI.wI0 hI671 kx_231 rfl (p := 231) (b := 24) (v := v716) rfl
          have hF718 := Fr.wI (p := 231) (b := 24) (v := v716) hF675 rfl
          refine r_aload_n rfl ?_
          refine r_iload_n rfl ?_
          refine r_iconst 0 rfl ?_
          have x719 := HI.eqI hI717 (p := 231) (b := 23) ((((gI_sI_ne (by decide)).trans ((hF672.1 231 23 (by decide)).trans ((hF518.1 231 23 (by decide)).trans (hF499.1 231 23 (by decide))))).trans hv8))
          have zv720 : (30 : Int32).toInt = 30 := rfl
          have zv721 : (0 : Int32).toInt = 0 := rfl
          refine r_callV 41 rfl [.ref 231, .int 30, .int 0] [] (Nat.le_of_ble_eq_true rfl) rfl (T_X11_push_231 _ hI717 30 (by decide) 0 (by decide) (by omega)) ?_
          rintro _ _ ⟨g722, rfl, hI723, hF724, rfl, hr726⟩
          refine At.stn ?_
          have hF727 := Fr.tr hF718 hF724 rfl rfl
          have zv728 : (30 : Int32).toInt = 30 := rfl
          have zv729 : (0 : Int32).toInt = 0 := rfl
          have x730 := HI.eqI hI717 (p := 231) (b := 17) ((((gI_sI_ne (by decide)).trans ((hF672.1 231 17 (by decide)).trans ((hF518.1 231 17 (by decide)).trans (hF499.1 231 17 (by decide))))).trans hv7))
          have x731 := HI.eqI hI717 (p := 231) (b := 23) ((((gI_sI_ne (by decide)).trans ((hF672.1 231 23 (by decide)).trans ((hF518.1 231 23 (by decide)).trans (hF499.1 231 23 (by decide))))).trans hv8))
          have x732 := HI.eqI hI723 (p := 231) (b := 17) ((((hF724.1 231 17 (by decide)).trans ((gI_sI_ne (by decide)).trans ((hF672.1 231 17 (by decide)).trans ((hF518.1 231 17 (by decide)).trans (hF499.1 231 17 (by decide)))))).trans hv7))
          obtain ⟨v733, hv733⟩ : ∃ v, gI g722 231 23 = v := ⟨_, rfl⟩
          have rv733 := RgF.at hI723.2.1 (p := 231) (b := 23) rfl
          rw [hv733] at rv733
          dsimp only at rv733
          have tv733 := congrArg Int32.toInt hv733
          have x734 := HI.eqI hI723 (p := 231) (b := 23) (hv733)
          have y735 : (gI _ 231 23).toInt = (gI _ 231 23).toInt + 1 := hr726.1
          have pg736 := PG.cong (hP.1 (by decide)) hI717 (((gA_sI).trans ((hF672.2.1 238 (by decide)).trans ((hF518.2.1 238 (by decide)).trans (hF499.2.1 238 (by decide)))))) (((gA_sI).trans ((hF672.2.1 239 (by decide)).trans ((hF518.2.1 239 (by decide)).trans (hF499.2.1 239 (by decide)))))) (((gA_sI).trans ((hF672.2.1 240 (by decide)).trans ((hF518.2.1 240 (by decide)).trans (hF499.2.1 240 (by decide)))))) (((gA_sI).trans ((hF672.2.1 241 (by decide)).trans ((hF518.2.1 241 (by decide)).trans (hF499.2.1 241 (by decide)))))) (((gI_sI_ne (by decide)).trans ((hF672.1 231 17 (by decide)).trans ((hF518.1 231 17 (by decide)).trans (hF499.1 231 17 (by decide)))))) (((gI_sI_ne (by decide)).trans ((hF672.1 231 23 (by decide)).trans ((hF518.1 231 23 (by decide)).trans (hF499.1 231 23 (by decide))))))
          have nsq738 := NSQ.cong (hP.2.2.1 (by decide) (by decide)) hI717 (((gA_sI).trans ((hF672.2.1 240 (by decide)).trans ((hF518.2.1 240 (by decide)).trans (hF499.2.1 240 (by decide)))))) (((gI_sI_ne (by decide)).trans ((hF672.1 231 23 (by decide)).trans ((hF518.1 231 23 (by decide)).trans (hF499.1 231 23 (by decide))))))
          have pg737 := PG.push (e' := 0) pg736 hr726 (hF724.2.1 238 (by decide)) (hF724.2.1 239 (by decide)) (hF724.1 231 17 (by decide)) ⟨by omega, by omega⟩ (Or.inr nsq738) (by omega) (by omega)
          have nsq739 := NSQ.push nsq738 hr726 (by omega)
          refine At.enter rfl ?_
          refine q_vret ?_
          refine At.enter rfl ?_
          refine r_iconst 0 rfl ?_
          refine r_ireti ?_
          have x740 := HI.eqI hI723 (p := 231) (b := 8) ((((hF724.1 231 8 (by decide)).trans ((gI_sI_ne (by decide)).trans ((hF672.1 231 8 (by decide)).trans ((hF518.1 231 8 (by decide)).trans (hF499.1 231 8 (by decide)))))).trans hv1))
          have x741 := HI.eqI hI723 (p := 231) (b := 9) ((((hF724.1 231 9 (by decide)).trans (gI_sI_ne (by decide))).trans hv683))
          have x742 := HI.eqI hI723 (p := 231) (b := 10) ((((hF724.1 231 10 (by decide)).trans (gI_sI_ne (by decide))).trans hv685))
          have x743 := HI.eqI hI723 (p := 231) (b := 11) ((((hF724.1 231 11 (by decide)).trans (gI_sI_ne (by decide))).trans hv687))
          obtain ⟨v744, hv744⟩ : ∃ v, gJ g670 231 12 = v := ⟨_, rfl⟩
          have x745 := HI.eqJ hI723 (b := 12) ((((hF724.2.2 231 12 (by decide)).trans (gJ_sI_ne (by decide))).trans hv744))
          have x746 := HI.eqI hI723 (p := 231) (b := 14) ((((hF724.1 231 14 (by decide)).trans (gI_sI_ne (by decide))).trans hv689))
          have x747 := HI.eqI hI723 (p := 231) (b := 17) ((((hF724.1 231 17 (by decide)).trans ((gI_sI_ne (by decide)).trans ((hF672.1 231 17 (by decide)).trans ((hF518.1 231 17 (by decide)).trans (hF499.1 231 17 (by decide)))))).trans hv7))
          have x748 := HI.eqI hI723 (p := 231) (b := 23) (hv733)
          have x749 := HI.eqI hI0 (p := 231) (b := 9) (hv2)
          have zv750 : (0 : Int32).toInt = 0 := rfl
          have w26751 := W26.cong c696 hI723 (((hF724.1 231 9 (by decide)).trans (gI_sI_ne (by decide)))) (((hF724.1 231 10 (by decide)).trans (gI_sI_ne (by decide)))) (((hF724.1 231 11 (by decide)).trans (gI_sI_ne (by decide)))) (((hF724.2.2 231 12 (by decide)).trans (gJ_sI_ne (by decide))))
          exact ⟨_, rfl, hI723, hF727, _, rfl, by decide, ⟨by omega, by omega, by omega, by omega, w26751, by omega, by omega, (fun hbad => ⟨by omega, (PT.mk (fun _ => pg737) (fun h => False.elim (by omega)) (fun _ _ => nsq739) (fun h => False.elim (by omega)))⟩), (fun hbad => by omega)⟩⟩
  · have c513_ : v500.toInt ≠ 0 := en_k_eq_f c513
    have i752 := W26.two hW isw511 (by omega) (by decide)
    refine At.enter rfl ?_
    refine r_aload_n rfl ?_
    refine r_bipush 27 rfl ?_
    refine r_iconst 0 rfl ?_
    have x753 := HI.eqI hI498 (p := 231) (b := 23) (((hF499.1 231 23 (by decide)).trans hv8))
    have zv754 : (27 : Int32).toInt = 27 := rfl
    have zv755 : (0 : Int32).toInt = 0 := rfl
    refine r_callV 17 rfl [.ref 231, .int 27, .int 0] [] (Nat.le_of_ble_eq_true rfl) rfl (T_X11_push_231 _ hI498 27 (by decide) 0 (by decide) (by omega)) ?_
    rintro _ _ ⟨g756, rfl, hI757, hF758, rfl, hr760⟩
    refine At.stn ?_
    have hF761 := Fr.tr hF502 hF758 rfl rfl
    have zv762 : (27 : Int32).toInt = 27 := rfl
    have zv763 : (0 : Int32).toInt = 0 := rfl
    have x764 := HI.eqI hI498 (p := 231) (b := 17) (((hF499.1 231 17 (by decide)).trans hv7))
    have x765 := HI.eqI hI498 (p := 231) (b := 23) (((hF499.1 231 23 (by decide)).trans hv8))
    have x766 := HI.eqI hI757 (p := 231) (b := 17) ((((hF758.1 231 17 (by decide)).trans (hF499.1 231 17 (by decide))).trans hv7))
    obtain ⟨v767, hv767⟩ : ∃ v, gI g756 231 23 = v := ⟨_, rfl⟩
    have rv767 := RgF.at hI757.2.1 (p := 231) (b := 23) rfl
    rw [hv767] at rv767
    dsimp only at rv767
    have tv767 := congrArg Int32.toInt hv767
    have x768 := HI.eqI hI757 (p := 231) (b := 23) (hv767)
    have y769 : (gI _ 231 23).toInt = (gI _ 231 23).toInt + 1 := hr760.1
    have pg770 := PG.cong (hP.1 (by decide)) hI498 ((hF499.2.1 238 (by decide))) ((hF499.2.1 239 (by decide))) ((hF499.2.1 240 (by decide))) ((hF499.2.1 241 (by decide))) ((hF499.1 231 17 (by decide))) ((hF499.1 231 23 (by decide)))
    have nsq772 := NSQ.cong (hP.2.2.1 (by decide) (by decide)) hI498 ((hF499.2.1 240 (by decide))) ((hF499.1 231 23 (by decide)))
    have pg771 := PG.push (e' := 0) pg770 hr760 (hF758.2.1 238 (by decide)) (hF758.2.1 239 (by decide)) (hF758.1 231 17 (by decide)) ⟨by omega, by omega⟩ (Or.inr nsq772) (by omega) (by omega)
    have nsq773 := NSQ.push nsq772 hr760 (by omega)
    refine At.enter rfl ?_
    refine r_aload_n rfl ?_
    have x774 := HI.eqI hI757 (p := 231) (b := 8) ((((hF758.1 231 8 (by decide)).trans (hF499.1 231 8 (by decide))).trans hv1))
    have x775 := HI.eqI hI757 (p := 231) (b := 10) ((((hF758.1 231 10 (by decide)).trans (hF499.1 231 10 (by decide))).trans hv3))
    refine r_callV 21 rfl [.ref 231] [] (Nat.le_of_ble_eq_true rfl) rfl (T_X11_next_231 _ hI757 (by omega)) ?_
    rintro _ _ ⟨g776, rfl, hI777, hF778, rfl, hr780⟩
    refine At.stn ?_
    have hF781 := Fr.tr hF761 hF778 rfl rfl
    have x782 := HI.eqI hI757 (p := 231) (b := 8) ((((hF758.1 231 8 (by decide)).trans (hF499.1 231 8 (by decide))).trans hv1))
    have x783 := HI.eqI hI757 (p := 231) (b := 10) ((((hF758.1 231 10 (by decide)).trans (hF499.1 231 10 (by decide))).trans hv3))
    have x784 := HI.eqI hI777 (p := 231) (b := 8) ((((hF778.1 231 8 (by decide)).trans ((hF758.1 231 8 (by decide)).trans (hF499.1 231 8 (by decide)))).trans hv1))
    obtain ⟨v785, hv785⟩ : ∃ v, gI g776 231 9 = v := ⟨_, rfl⟩
    have rv785 := RgF.at hI777.2.1 (p := 231) (b := 9) rfl
    rw [hv785] at rv785
    dsimp only at rv785
    have tv785 := congrArg Int32.toInt hv785
    have x786 := HI.eqI hI777 (p := 231) (b := 9) (hv785)
    obtain ⟨v787, hv787⟩ : ∃ v, gI g776 231 10 = v := ⟨_, rfl⟩
    have rv787 := RgF.at hI777.2.1 (p := 231) (b := 10) rfl
    rw [hv787] at rv787
    dsimp only at rv787
    have tv787 := congrArg Int32.toInt hv787
    have x788 := HI.eqI hI777 (p := 231) (b := 10) (hv787)
    obtain ⟨v789, hv789⟩ : ∃ v, gI g776 231 11 = v := ⟨_, rfl⟩
    have tv789 := congrArg Int32.toInt hv789
    have x790 := HI.eqI hI777 (p := 231) (b := 11) (hv789)
    obtain ⟨c791, c792, c793, c794, c795, c796⟩ := hr780
    refine At.enter rfl ?_
    refine r_iconst 0 rfl ?_
    refine r_ireti ?_
    have x797 := HI.eqI hI777 (p := 231) (b := 8) ((((hF778.1 231 8 (by decide)).trans ((hF758.1 231 8 (by decide)).trans (hF499.1 231 8 (by decide)))).trans hv1))
    have x798 := HI.eqI hI777 (p := 231) (b := 9) (hv785)
    have x799 := HI.eqI hI777 (p := 231) (b := 10) (hv787)
    have x800 := HI.eqI hI777 (p := 231) (b := 11) (hv789)
    obtain ⟨v801, hv801⟩ : ∃ v, gJ g776 231 12 = v := ⟨_, rfl⟩
    have x802 := HI.eqJ hI777 (b := 12) (hv801)
    have x803 := HI.eqI hI777 (p := 231) (b := 14) ((((hF778.1 231 14 (by decide)).trans ((hF758.1 231 14 (by decide)).trans (hF499.1 231 14 (by decide)))).trans hv6))
    have x804 := HI.eqI hI777 (p := 231) (b := 17) ((((hF778.1 231 17 (by decide)).trans ((hF758.1 231 17 (by decide)).trans (hF499.1 231 17 (by decide)))).trans hv7))
    have x805 := HI.eqI hI777 (p := 231) (b := 23) (((hF778.1 231 23 (by decide)).trans hv767))
    have x806 := HI.eqI hI0 (p := 231) (b := 9) (hv2)
    have zv807 : (0 : Int32).toInt = 0 := rfl
    have pg808 := PG.cong pg771 hI777 ((hF778.2.1 238 (by decide))) ((hF778.2.1 239 (by decide))) ((hF778.2.1 240 (by decide))) ((hF778.2.1 241 (by decide))) ((hF778.1 231 17 (by decide))) ((hF778.1 231 23 (by decide)))
    have nsq809 := NSQ.cong nsq773 hI777 ((hF778.2.1 240 (by decide))) ((hF778.1 231 23 (by decide)))
    exact ⟨_, rfl, hI777, hF781, _, rfl, by decide, ⟨by omega, by omega, by omega, by omega, c796, by omega, by omega, (fun hbad => ⟨by omega, (PT.mk (fun _ => pg808) (fun h => False.elim (by omega)) (fun _ _ => nsq809) (fun h => False.elim (by omega)))⟩), (fun hbad => by omega)⟩⟩
