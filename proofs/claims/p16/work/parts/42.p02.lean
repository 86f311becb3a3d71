def F_X11_behindTest_231 : List (Nat × Nat) := [(231, 9), (231, 10), (231, 11), (231, 12), (231, 13), (231, 14), (231, 17), (231, 23), (231, 24)]
def A_X11_behindTest_231 : List Nat := [238, 239, 240, 241]
set_option maxRecDepth 100000 in
set_option maxHeartbeats 4000000 in
theorem T_X11_behindTest_231 (d : Nat) {N : Nat} {g0 : List en_E} (hI0 : HI g0) (b : Int) (o0 : Int → Int) (a0 : Int → Int) (h1 : ((gI g0 231 9).toInt ≤ (gI g0 231 10).toInt ∧ (gI g0 231 10).toInt ≤ (gI g0 231 8).toInt ∧ 0 ≤ (gI g0 231 11).toInt ∧ (gI g0 231 11).toInt ≤ 3 * ((gI g0 231 10).toInt - (gI g0 231 9).toInt))) (h2 : (gI g0 231 14).toInt = 0) (h3 : (gI g0 231 17).toInt + (gI g0 231 23).toInt ≤ (gI g0 231 9).toInt) (hW : W26 g0) (hP : PT g0 b 2 o0 a0) : Ev (d + 4) 207 [.ref 231] (g0, N) (fun w h' => ∃ g', h' = (g', N) ∧ HI g' ∧ Fr F_X11_behindTest_231 A_X11_behindTest_231 g0 g' ∧ ∃ r : Int32, w = some (.int r) ∧ (0 ≤ r.toInt ∧ r.toInt ≤ 4) ∧ ((gI g' 231 9).toInt ≤ (gI g' 231 10).toInt ∧ (gI g' 231 10).toInt ≤ (gI g' 231 8).toInt ∧ 0 ≤ (gI g' 231 11).toInt ∧ (gI g' 231 11).toInt ≤ 3 * ((gI g' 231 10).toInt - (gI g' 231 9).toInt) ∧ W26 g' ∧ (gI g' 231 17).toInt + (gI g' 231 23).toInt ≤ 400 ∧ (gI g0 231 9).toInt ≤ (gI g' 231 9).toInt ∧ TURN g' b r.toInt o0 a0 ∧ PRG (gI g' 231 14).toInt (gI g0 231 9).toInt (gI g' 231 9).toInt r.toInt 4)) := by
  have hF0 : Fr F_X11_behindTest_231 A_X11_behindTest_231 g0 g0 := Fr.rf
  obtain ⟨v1, hv1⟩ : ∃ v, gI g0 231 8 = v := ⟨_, rfl⟩
  have rv1 := RgF.at hI0.2.1 (p := 231) (b := 8) rfl
  rw [hv1] at rv1
  dsimp only at rv1
  have tv1 := congrArg Int32.toInt hv1
  obtain ⟨v2, hv2⟩ : ∃ v, gI g0 231 9 = v := ⟨_, rfl⟩
  have rv2 := RgF.at hI0.2.1 (p := 231) (b := 9) rfl
  rw [hv2] at rv2
  dsimp only at rv2
  have tv2 := congrArg Int32.toInt hv2
  obtain ⟨v3, hv3⟩ : ∃ v, gI g0 231 10 = v := ⟨_, rfl⟩
  have rv3 := RgF.at hI0.2.1 (p := 231) (b := 10) rfl
  rw [hv3] at rv3
  dsimp only at rv3
  have tv3 := congrArg Int32.toInt hv3
  obtain ⟨v4, hv4⟩ : ∃ v, gI g0 231 11 = v := ⟨_, rfl⟩
  have tv4 := congrArg Int32.toInt hv4
  obtain ⟨v5, hv5⟩ : ∃ v, gJ g0 231 12 = v := ⟨_, rfl⟩
  have tv5 := congrArg Int64.toInt hv5
  obtain ⟨v6, hv6⟩ : ∃ v, gI g0 231 14 = v := ⟨_, rfl⟩
  have tv6 := congrArg Int32.toInt hv6
  obtain ⟨v7, hv7⟩ : ∃ v, gI g0 231 17 = v := ⟨_, rfl⟩
  have rv7 := RgF.at hI0.2.1 (p := 231) (b := 17) rfl
  rw [hv7] at rv7
  dsimp only at rv7
  have tv7 := congrArg Int32.toInt hv7
  obtain ⟨v8, hv8⟩ : ∃ v, gI g0 231 23 = v := ⟨_, rfl⟩
  have rv8 := RgF.at hI0.2.1 (p := 231) (b := 23) rfl
  rw [hv8] at rv8
  dsimp only at rv8
  have tv8 := congrArg Int32.toInt hv8
  refine Ev.mk rfl rfl ⟨Nat.le_of_ble_eq_true rfl, Or.inr (q_rc hI0.1 kx_231 rfl)⟩ ?_
  show At _ none _ _ (0, [(0, .ref 231)], [], (_, _)) _
  refine At.enter rfl ?_
  refine r_aload_n rfl ?_
  refine r_ldc2 1476 rfl ?_
  have x609 := HI.eqI hI0 (p := 231) (b := 11) (hv4)
  have zv610 : (1476 : Int64).toInt = 1476 := rfl
  refine r_callV 7 rfl [.ref 231, .long 1476] [] (Nat.le_of_ble_eq_true rfl) rfl (T_X11_isWord_231 _ hI0 1476 (by omega)) ?_
  rintro _ _ ⟨g611, rfl, hI612, hF613, v614, rfl, hr615⟩
  refine At.sti ?_
  have hF616 := Fr.tr hF0 hF613 rfl rfl
  have zv617 : (1476 : Int64).toInt = 1476 := rfl
  have x618 := HI.eqI hI0 (p := 231) (b := 9) (hv2)
  have x619 := HI.eqI hI0 (p := 231) (b := 10) (hv3)
  have x620 := HI.eqI hI0 (p := 231) (b := 11) (hv4)
  have x621 := HI.eqI hI612 (p := 231) (b := 9) (((hF613.1 231 9 (by decide)).trans hv2))
  have x622 := HI.eqI hI612 (p := 231) (b := 10) (((hF613.1 231 10 (by decide)).trans hv3))
  have x623 := HI.eqI hI612 (p := 231) (b := 11) (((hF613.1 231 11 (by decide)).trans hv4))
  obtain ⟨c626, c624, isw625⟩ := hr615
  refine At.enter rfl ?_
  refine r_istore_n ([(1, .int v614), (0, .ref 231)]) rfl ?_
  refine r_iload_n rfl ?_
  refine r_ifs 12 rfl (fun c627 => ?_) (fun c627 => ?_)
  · have c627_ : v614.toInt ≠ 0 := en_k_ne_t c627
    have i628 := W26.two hW isw625 (by omega) (by decide)
    refine At.enter rfl ?_
    refine r_aload_n rfl ?_
    refine r_iload_n rfl ?_
    refine r_ifs 27 rfl (fun c629 => ?_) (fun c629 => ?_)
    · have c629_ : v614.toInt = 0 := en_k_eq_t c629
      exfalso; omega
    · have c629_ : v614.toInt ≠ 0 := en_k_eq_f c629
      have i630 := W26.two hW isw625 (by omega) (by decide)
      refine At.enter rfl ?_
      refine r_iconst 2 rfl ?_
      refine r_goto ?_
      refine At.enter rfl ?_
      have x631 := HI.eqI hI612 (p := 231) (b := 17) (((hF613.1 231 17 (by decide)).trans hv7))
      have x632 := HI.eqI hI612 (p := 231) (b := 23) (((hF613.1 231 23 (by decide)).trans hv8))
      have zv633 : (2 : Int32).toInt = 2 := rfl
      refine r_callV 35 rfl [.ref 231, .int 2] [] (Nat.le_of_ble_eq_true rfl) rfl (T_X11_settle_231 _ hI612 2 (by decide) (by omega)) ?_
      rintro _ _ ⟨g634, rfl, hI635, hF636, rfl, hr638⟩
      refine At.stn ?_
      have hF639 := Fr.tr hF616 hF636 rfl rfl
      have zv640 : (2 : Int32).toInt = 2 := rfl
      have x641 := HI.eqI hI612 (p := 231) (b := 17) (((hF613.1 231 17 (by decide)).trans hv7))
      have x642 := HI.eqI hI612 (p := 231) (b := 23) (((hF613.1 231 23 (by decide)).trans hv8))
      obtain ⟨v643, hv643⟩ : ∃ v, gI g634 231 17 = v := ⟨_, rfl⟩
      have rv643 := RgF.at hI635.2.1 (p := 231) (b := 17) rfl
      rw [hv643] at rv643
      dsimp only at rv643
      have tv643 := congrArg Int32.toInt hv643
      have x644 := HI.eqI hI635 (p := 231) (b := 17) (hv643)
      obtain ⟨v645, hv645⟩ : ∃ v, gI g634 231 23 = v := ⟨_, rfl⟩
      have rv645 := RgF.at hI635.2.1 (p := 231) (b := 23) rfl
      rw [hv645] at rv645
      dsimp only at rv645
      have tv645 := congrArg Int32.toInt hv645
      have x646 := HI.eqI hI635 (p := 231) (b := 23) (hv645)
      have y647 : (gI _ 231 23).toInt ≤ (gI _ 231 23).toInt := hr638.1
      have y648 : (gI _ 231 17).toInt + (gI _ 231 23).toInt ≤ (gI _ 231 17).toInt + (gI _ 231 23).toInt := hr638.2.1
      have nsq649 := NSQ.cong (hP.2.2.1 (by decide) (by decide)) hI612 ((hF613.2.1 240 (by decide))) ((hF613.1 231 23 (by decide)))
      have pg650 := PG.cong (hP.2.1 (by decide)) hI612 ((hF613.2.1 238 (by decide))) ((hF613.2.1 239 (by decide))) ((hF613.2.1 240 (by decide))) ((hF613.2.1 241 (by decide))) ((hF613.1 231 17 (by decide))) ((hF613.1 231 23 (by decide)))
      have pg651 := hr638.2.2.1 _ _ _ pg650
      have nsq652 := NSQ.le nsq649 hI635 hr638.2.2.2.2.1 hr638.1
      refine At.enter rfl ?_
      refine r_aload_n rfl ?_
      refine r_iload_n rfl ?_
      refine r_ifs 40 rfl (fun c653 => ?_) (fun c653 => ?_)
      · have c653_ : v614.toInt = 0 := en_k_eq_t c653
        exfalso; omega
      · have c653_ : v614.toInt ≠ 0 := en_k_eq_f c653
        have i654 := W26.two hW isw625 (by omega) (by decide)
        refine At.enter rfl ?_
        refine r_bipush 28 rfl ?_
        refine r_goto ?_
        refine At.enter rfl ?_
        refine r_aload_n rfl ?_
        refine q_getI (Sh.int hI635.1 kx_231 rfl) v643 hv643 ?_
        have x655 := HI.eqI hI635 (p := 231) (b := 23) (hv645)
        have zv656 : (28 : Int32).toInt = 28 := rfl
        refine r_callV 54 rfl [.ref 231, .int 28, .int v643] [] (Nat.le_of_ble_eq_true rfl) rfl (T_X11_push_231 _ hI635 28 (by decide) v643 (by omega) (by omega)) ?_
        rintro _ _ ⟨g657, rfl, hI658, hF659, rfl, hr661⟩
        refine At.stn ?_
        have hF662 := Fr.tr hF639 hF659 rfl rfl
        have zv663 : (28 : Int32).toInt = 28 := rfl
        have x664 := HI.eqI hI635 (p := 231) (b := 17) (hv643)
        have x665 := HI.eqI hI635 (p := 231) (b := 23) (hv645)
        have x666 := HI.eqI hI658 (p := 231) (b := 17) (((hF659.1 231 17 (by decide)).trans hv643))
        obtain ⟨v667, hv667⟩ : ∃ v, gI g657 231 23 = v := ⟨_, rfl⟩
        have rv667 := RgF.at hI658.2.1 (p := 231) (b := 23) rfl
        rw [hv667] at rv667
        dsimp only at rv667
        have tv667 := congrArg Int32.toInt hv667
        have x668 := HI.eqI hI658 (p := 231) (b := 23) (hv667)
        have y669 : (gI _ 231 23).toInt = (gI _ 231 23).toInt + 1 := hr661.1
        have nsq671 := NSQ.push nsq652 hr661 (by omega)
        refine At.enter rfl ?_
        refine r_aload_n rfl ?_
        refine r_iload_n rfl ?_
        refine r_ifs 59 rfl (fun c672 => ?_) (fun c672 => ?_)
        · have c672_ : v614.toInt = 0 := en_k_eq_t c672
          exfalso; omega
        · have c672_ : v614.toInt ≠ 0 := en_k_eq_f c672
          have i673 := W26.two hW isw625 (by omega) (by decide)
          refine At.enter rfl ?_
          refine r_bipush 28 rfl ?_
          refine r_goto ?_
          refine At.enter rfl ?_
          refine r_iconst 0 rfl ?_
          have x674 := HI.eqI hI658 (p := 231) (b := 17) (((hF659.1 231 17 (by decide)).trans hv643))
          have zv675 : (28 : Int32).toInt = 28 := rfl
          have zv676 : (0 : Int32).toInt = 0 := rfl
          refine r_callV 70 rfl [.ref 231, .int 28, .int 0] [] (Nat.le_of_ble_eq_true rfl) rfl (T_X11_emit_231 _ hI658 28 0 (by omega)) ?_
          rintro _ _ ⟨g677, rfl, hI678, hF679, rfl, hr681⟩
          refine At.stn ?_
          have hF682 := Fr.tr hF662 hF679 rfl rfl
          have zv683 : (28 : Int32).toInt = 28 := rfl
          have zv684 : (0 : Int32).toInt = 0 := rfl
          have x685 := HI.eqI hI658 (p := 231) (b := 17) (((hF659.1 231 17 (by decide)).trans hv643))
          have x686 := HI.eqI hI658 (p := 231) (b := 23) (hv667)
          obtain ⟨v687, hv687⟩ : ∃ v, gI g677 231 17 = v := ⟨_, rfl⟩
          have rv687 := RgF.at hI678.2.1 (p := 231) (b := 17) rfl
          rw [hv687] at rv687
          dsimp only at rv687
          have tv687 := congrArg Int32.toInt hv687
          have x688 := HI.eqI hI678 (p := 231) (b := 17) (hv687)
          have y689 : (gI _ 231 17).toInt = (gI _ 231 17).toInt + 1 := hr681.1
          have pg690 := PG.andor pg651 hr661 (hF659.2.1 238 (by decide)) (hF659.2.1 239 (by decide)) (hF659.1 231 17 (by decide)) hr681 (hF679.2.1 240 (by decide)) (hF679.2.1 241 (by decide)) (hF679.1 231 23 (by decide)) ⟨by omega, by omega⟩ (by show _ = (gI _ 231 17).toInt; omega) nsq652 (by show 0 ≤ (gI _ 231 23).toInt; omega)
          have nsq691 := NSQ.cong nsq671 hI678 ((hF679.2.1 240 (by decide))) ((hF679.1 231 23 (by decide)))
          refine At.enter rfl ?_
          refine r_aload_n rfl ?_
          have x692 := HI.eqI hI678 (p := 231) (b := 8) ((((hF679.1 231 8 (by decide)).trans ((hF659.1 231 8 (by decide)).trans ((hF636.1 231 8 (by decide)).trans (hF613.1 231 8 (by decide))))).trans hv1))
          have x693 := HI.eqI hI678 (p := 231) (b := 10) ((((hF679.1 231 10 (by decide)).trans ((hF659.1 231 10 (by decide)).trans ((hF636.1 231 10 (by decide)).trans (hF613.1 231 10 (by decide))))).trans hv3))
          refine r_callV 74 rfl [.ref 231] [] (Nat.le_of_ble_eq_true rfl) rfl (T_X11_next_231 _ hI678 (by omega)) ?_
          rintro _ _ ⟨g694, rfl, hI695, hF696, rfl, hr698⟩
          refine At.stn ?_
          have hF699 := Fr.tr hF682 hF696 rfl rfl
          have x700 := HI.eqI hI678 (p := 231) (b := 8) ((((hF679.1 231 8 (by decide)).trans ((hF659.1 231 8 (by decide)).trans ((hF636.1 231 8 (by decide)).trans (hF613.1 231 8 (by decide))))).trans hv1))
          have x701 := HI.eqI hI678 (p := 231) (b := 10) ((((hF679.1 231 10 (by decide)).trans ((hF659.1 231 10 (by decide)).trans ((hF636.1 231 10 (by decide)).trans (hF613.1 231 10 (by decide))))).trans hv3))
          have x702 := HI.eqI hI695 (p := 231) (b := 8) ((((hF696.1 231 8 (by decide)).trans ((hF679.1 231 8 (by decide)).trans ((hF659.1 231 8 (by decide)).trans ((hF636.1 231 8 (by decide)).trans (hF613.1 231 8 (by decide)))))).trans hv1))
          obtain ⟨v703, hv703⟩ : ∃ v, gI g694 231 9 = v := ⟨_, rfl⟩
          have rv703 := RgF.at hI695.2.1 (p := 231) (b := 9) rfl
          rw [hv703] at rv703
          dsimp only at rv703
          have tv703 := congrArg Int32.toInt hv703
          have x704 := HI.eqI hI695 (p := 231) (b := 9) (hv703)
          obtain ⟨v705, hv705⟩ : ∃ v, gI g694 231 10 = v := ⟨_, rfl⟩
          have rv705 := RgF.at hI695.2.1 (p := 231) (b := 10) rfl
          rw [hv705] at rv705
          dsimp only at rv705
          have tv705 := congrArg Int32.toInt hv705
          have x706 := HI.eqI hI695 (p := 231) (b := 10) (hv705)
          obtain ⟨v707, hv707⟩ : ∃ v, gI g694 231 11 = v := ⟨_, rfl⟩
          have tv707 := congrArg Int32.toInt hv707
          have x708 := HI.eqI hI695 (p := 231) (b := 11) (hv707)
          obtain ⟨c709, c710, c711, c712, c713, c714⟩ := hr698
          refine At.enter rfl ?_
          refine r_iconst 0 rfl ?_
          refine r_ireti ?_
          have x715 := HI.eqI hI695 (p := 231) (b := 8) ((((hF696.1 231 8 (by decide)).trans ((hF679.1 231 8 (by decide)).trans ((hF659.1 231 8 (by decide)).trans ((hF636.1 231 8 (by decide)).trans (hF613.1 231 8 (by decide)))))).trans hv1))
          have x716 := HI.eqI hI695 (p := 231) (b := 9) (hv703)
          have x717 := HI.eqI hI695 (p := 231) (b := 10) (hv705)
          have x718 := HI.eqI hI695 (p := 231) (b := 11) (hv707)
          obtain ⟨v719, hv719⟩ : ∃ v, gJ g694 231 12 = v := ⟨_, rfl⟩
          have x720 := HI.eqJ hI695 (b := 12) (hv719)
          have x721 := HI.eqI hI695 (p := 231) (b := 14) ((((hF696.1 231 14 (by decide)).trans ((hF679.1 231 14 (by decide)).trans ((hF659.1 231 14 (by decide)).trans ((hF636.1 231 14 (by decide)).trans (hF613.1 231 14 (by decide)))))).trans hv6))
          have x722 := HI.eqI hI695 (p := 231) (b := 17) (((hF696.1 231 17 (by decide)).trans hv687))
          have x723 := HI.eqI hI695 (p := 231) (b := 23) ((((hF696.1 231 23 (by decide)).trans (hF679.1 231 23 (by decide))).trans hv667))
          have x724 := HI.eqI hI0 (p := 231) (b := 9) (hv2)
          have zv725 : (0 : Int32).toInt = 0 := rfl
          have pg726 := PG.cong pg690 hI695 ((hF696.2.1 238 (by decide))) ((hF696.2.1 239 (by decide))) ((hF696.2.1 240 (by decide))) ((hF696.2.1 241 (by decide))) ((hF696.1 231 17 (by decide))) ((hF696.1 231 23 (by decide)))
          have nsq727 := NSQ.cong nsq691 hI695 ((hF696.2.1 240 (by decide))) ((hF696.1 231 23 (by decide)))
          exact ⟨_, rfl, hI695, hF699, _, rfl, by decide, ⟨by omega, by omega, by omega, by omega, c714, by omega, by omega, (fun hbad => ⟨by omega, (PT.mk (fun _ => pg726) (fun h => False.elim (by omega)) (fun _ _ => nsq727) (fun h => False.elim (by omega)))⟩), (fun hbad => by omega)⟩⟩
  · have c627_ : v614.toInt = 0 := en_k_ne_f c627
    refine At.enter rfl ?_
    refine r_aload_n rfl ?_
    refine r_ldc2 498 rfl ?_
    have x728 := HI.eqI hI612 (p := 231) (b := 11) (((hF613.1 231 11 (by decide)).trans hv4))
    have zv729 : (498 : Int64).toInt = 498 := rfl
    refine r_callV 19 rfl [.ref 231, .long 498] [] (Nat.le_of_ble_eq_true rfl) rfl (T_X11_isWord_231 _ hI612 498 (by omega)) ?_
    rintro _ _ ⟨g730, rfl, hI731, hF732, v733, rfl, hr734⟩
    refine At.sti ?_
    have hF735 := Fr.tr hF616 hF732 rfl rfl
    have zv736 : (498 : Int64).toInt = 498 := rfl
    have x737 := HI.eqI hI612 (p := 231) (b := 9) (((hF613.1 231 9 (by decide)).trans hv2))
    have x738 := HI.eqI hI612 (p := 231) (b := 10) (((hF613.1 231 10 (by decide)).trans hv3))
    have x739 := HI.eqI hI612 (p := 231) (b := 11) (((hF613.1 231 11 (by decide)).trans hv4))
    have x740 := HI.eqI hI731 (p := 231) (b := 9) ((((hF732.1 231 9 (by decide)).trans (hF613.1 231 9 (by decide))).trans hv2))
    have x741 := HI.eqI hI731 (p := 231) (b := 10) ((((hF732.1 231 10 (by decide)).trans (hF613.1 231 10 (by decide))).trans hv3))
    have x742 := HI.eqI hI731 (p := 231) (b := 11) ((((hF732.1 231 11 (by decide)).trans (hF613.1 231 11 (by decide))).trans hv4))
    obtain ⟨c745, c743, isw744⟩ := hr734
    have w26746 := W26.cong hW hI612 ((hF613.1 231 9 (by decide))) ((hF613.1 231 10 (by decide))) ((hF613.1 231 11 (by decide))) ((hF613.2.2 231 12 (by decide)))
    refine At.enter rfl ?_
    refine r_ifs 22 rfl (fun c747 => ?_) (fun c747 => ?_)
    · have c747_ : v733.toInt = 0 := en_k_eq_t c747
      refine At.enter rfl ?_
      refine r_aload_n rfl ?_
      refine r_callV 80 rfl [.ref 231] [] (Nat.le_of_ble_eq_true rfl) rfl (T_X11_inner_231 _ hI731) ?_
      rintro _ _ ⟨g748, rfl, hI749, hF750, v751, rfl, hr752⟩
      refine At.sti ?_
      have hF753 := Fr.tr hF735 hF750 rfl rfl
      have inn754 := INN.cong hr752.2 hI749 (hF750.2.1 240 (by decide)) (hF750.1 231 23 (by decide))
      refine At.enter rfl ?_
      refine r_iconst (-1) rfl ?_
      refine r_ics 84 rfl (fun c755 => ?_) (fun c755 => ?_)
      · have c755_ : v751.toInt ≠ (-1) := en_i_ne_t c755
        refine At.enter rfl ?_
        refine r_aload_n rfl ?_
        refine r_aload_n rfl ?_
        refine r_bipush 41 rfl ?_
        have x756 := HI.eqI hI749 (p := 231) (b := 11) ((((hF750.1 231 11 (by decide)).trans ((hF732.1 231 11 (by decide)).trans (hF613.1 231 11 (by decide)))).trans hv4))
        have zv757 : (41 : Int32).toInt = 41 := rfl
        refine r_callV 93 rfl [.ref 231, .int 41] [.ref 231] (Nat.le_of_ble_eq_true rfl) rfl (T_X11_isSign_231 _ hI749 41 (by omega)) ?_
        rintro _ _ ⟨g758, rfl, hI759, hF760, v761, rfl, hr762⟩
        refine At.sti ?_
        have hF763 := Fr.tr hF753 hF760 rfl rfl
        have zv764 : (41 : Int32).toInt = 41 := rfl
        have x765 := HI.eqI hI749 (p := 231) (b := 11) ((((hF750.1 231 11 (by decide)).trans ((hF732.1 231 11 (by decide)).trans (hF613.1 231 11 (by decide)))).trans hv4))
        have x766 := HI.eqI hI759 (p := 231) (b := 11) ((((hF760.1 231 11 (by decide)).trans ((hF750.1 231 11 (by decide)).trans ((hF732.1 231 11 (by decide)).trans (hF613.1 231 11 (by decide))))).trans hv4))
        refine At.enter rfl ?_
        have x767 := HI.eqI hI759 (p := 231) (b := 8) ((((hF760.1 231 8 (by decide)).trans ((hF750.1 231 8 (by decide)).trans ((hF732.1 231 8 (by decide)).trans (hF613.1 231 8 (by decide))))).trans hv1))
        have x768 := HI.eqI hI759 (p := 231) (b := 9) ((((hF760.1 231 9 (by decide)).trans ((hF750.1 231 9 (by decide)).trans ((hF732.1 231 9 (by decide)).trans (hF613.1 231 9 (by decide))))).trans hv2))
        have x769 := HI.eqI hI759 (p := 231) (b := 10) ((((hF760.1 231 10 (by decide)).trans ((hF750.1 231 10 (by decide)).trans ((hF732.1 231 10 (by decide)).trans (hF613.1 231 10 (by decide))))).trans hv3))
        have x770 := HI.eqI hI759 (p := 231) (b := 11) ((((hF760.1 231 11 (by decide)).trans ((hF750.1 231 11 (by decide)).trans ((hF732.1 231 11 (by decide)).trans (hF613.1 231 11 (by decide))))).trans hv4))
        have w26771 := W26.cong hW hI759 (((hF760.1 231 9 (by decide)).trans ((hF750.1 231 9 (by decide)).trans ((hF732.1 231 9 (by decide)).trans (hF613.1 231 9 (by decide)))))) (((hF760.1 231 10 (by decide)).trans ((hF750.1 231 10 (by decide)).trans ((hF732.1 231 10 (by decide)).trans (hF613.1 231 10 (by decide)))))) (((hF760.1 231 11 (by decide)).trans ((hF750.1 231 11 (by decide)).trans ((hF732.1 231 11 (by decide)).trans (hF613.1 231 11 (by decide)))))) (((hF760.2.2 231 12 (by decide)).trans ((hF750.2.2 231 12 (by decide)).trans ((hF732.2.2 231 12 (by decide)).trans (hF613.2.2 231 12 (by decide))))))
        refine r_callV 96 rfl [.ref 231, .int v761] [] (Nat.le_of_ble_eq_true rfl) rfl (T_X11_must_231 _ hI759 v761 (by omega) (by refine ⟨?_, ?_, ?_, ?_⟩ <;> omega) w26771) ?_
        rintro _ _ ⟨g772, rfl, hI773, hF774, rfl, hr776⟩
        refine At.stn ?_
        have hF777 := Fr.tr hF763 hF774 rfl rfl
        have x778 := HI.eqI hI759 (p := 231) (b := 8) ((((hF760.1 231 8 (by decide)).trans ((hF750.1 231 8 (by decide)).trans ((hF732.1 231 8 (by decide)).trans (hF613.1 231 8 (by decide))))).trans hv1))
        have x779 := HI.eqI hI759 (p := 231) (b := 9) ((((hF760.1 231 9 (by decide)).trans ((hF750.1 231 9 (by decide)).trans ((hF732.1 231 9 (by decide)).trans (hF613.1 231 9 (by decide))))).trans hv2))
        have x780 := HI.eqI hI759 (p := 231) (b := 10) ((((hF760.1 231 10 (by decide)).trans ((hF750.1 231 10 (by decide)).trans ((hF732.1 231 10 (by decide)).trans (hF613.1 231 10 (by decide))))).trans hv3))
        have x781 := HI.eqI hI759 (p := 231) (b := 11) ((((hF760.1 231 11 (by decide)).trans ((hF750.1 231 11 (by decide)).trans ((hF732.1 231 11 (by decide)).trans (hF613.1 231 11 (by decide))))).trans hv4))
        have x782 := HI.eqI hI759 (p := 231) (b := 14) ((((hF760.1 231 14 (by decide)).trans ((hF750.1 231 14 (by decide)).trans ((hF732.1 231 14 (by decide)).trans (hF613.1 231 14 (by decide))))).trans hv6))
        have x783 := HI.eqI hI773 (p := 231) (b := 8) ((((hF774.1 231 8 (by decide)).trans ((hF760.1 231 8 (by decide)).trans ((hF750.1 231 8 (by decide)).trans ((hF732.1 231 8 (by decide)).trans (hF613.1 231 8 (by decide)))))).trans hv1))
        obtain ⟨v784, hv784⟩ : ∃ v, gI g772 231 9 = v := ⟨_, rfl⟩
        have rv784 := RgF.at hI773.2.1 (p := 231) (b := 9) rfl
        rw [hv784] at rv784
        dsimp only at rv784
        have tv784 := congrArg Int32.toInt hv784
        have x785 := HI.eqI hI773 (p := 231) (b := 9) (hv784)
        obtain ⟨v786, hv786⟩ : ∃ v, gI g772 231 10 = v := ⟨_, rfl⟩
        have rv786 := RgF.at hI773.2.1 (p := 231) (b := 10) rfl
        rw [hv786] at rv786
        dsimp only at rv786
        have tv786 := congrArg Int32.toInt hv786
        have x787 := HI.eqI hI773 (p := 231) (b := 10) (hv786)
        obtain ⟨v788, hv788⟩ : ∃ v, gI g772 231 11 = v := ⟨_, rfl⟩
        have tv788 := congrArg Int32.toInt hv788
        have x789 := HI.eqI hI773 (p := 231) (b := 11) (hv788)
        obtain ⟨v790, hv790⟩ : ∃ v, gI g772 231 14 = v := ⟨_, rfl⟩
        have tv790 := congrArg Int32.toInt hv790
        have x791 := HI.eqI hI773 (p := 231) (b := 14) (hv790)
        obtain ⟨c792, c793, c794, c795, c796, c797, c798⟩ := hr776
        refine At.enter rfl ?_
        refine r_aload_n rfl ?_
        refine q_getI (Sh.int hI773.1 kx_231 rfl) v790 hv790 ?_
        refine r_ifs 103 rfl (fun c799 => ?_) (fun c799 => ?_)
        · have c799_ : v790.toInt ≠ 0 := en_k_ne_t c799
          clear c798
          refine At.enter rfl ?_
          refine r_iconst 2 rfl ?_
          refine r_ireti ?_
          have x800 := HI.eqI hI773 (p := 231) (b := 8) ((((hF774.1 231 8 (by decide)).trans ((hF760.1 231 8 (by decide)).trans ((hF750.1 231 8 (by decide)).trans ((hF732.1 231 8 (by decide)).trans (hF613.1 231 8 (by decide)))))).trans hv1))
          have x801 := HI.eqI hI773 (p := 231) (b := 9) (hv784)
          have x802 := HI.eqI hI773 (p := 231) (b := 10) (hv786)
          have x803 := HI.eqI hI773 (p := 231) (b := 11) (hv788)
          obtain ⟨v804, hv804⟩ : ∃ v, gJ g772 231 12 = v := ⟨_, rfl⟩
          have x805 := HI.eqJ hI773 (b := 12) (hv804)
          have x806 := HI.eqI hI773 (p := 231) (b := 14) (hv790)
          have x807 := HI.eqI hI773 (p := 231) (b := 17) ((((hF774.1 231 17 (by decide)).trans ((hF760.1 231 17 (by decide)).trans ((hF750.1 231 17 (by decide)).trans ((hF732.1 231 17 (by decide)).trans (hF613.1 231 17 (by decide)))))).trans hv7))
          have x808 := HI.eqI hI773 (p := 231) (b := 23) ((((hF774.1 231 23 (by decide)).trans ((hF760.1 231 23 (by decide)).trans ((hF750.1 231 23 (by decide)).trans ((hF732.1 231 23 (by decide)).trans (hF613.1 231 23 (by decide)))))).trans hv8))
          have x809 := HI.eqI hI0 (p := 231) (b := 9) (hv2)
          have zv810 : (2 : Int32).toInt = 2 := rfl
          have pg811 := PG.cong (hP.2.1 (by decide)) hI773 (((hF774.2.1 238 (by decide)).trans ((hF760.2.1 238 (by decide)).trans ((hF750.2.1 238 (by decide)).trans ((hF732.2.1 238 (by decide)).trans (hF613.2.1 238 (by decide))))))) (((hF774.2.1 239 (by decide)).trans ((hF760.2.1 239 (by decide)).trans ((hF750.2.1 239 (by decide)).trans ((hF732.2.1 239 (by decide)).trans (hF613.2.1 239 (by decide))))))) (((hF774.2.1 240 (by decide)).trans ((hF760.2.1 240 (by decide)).trans ((hF750.2.1 240 (by decide)).trans ((hF732.2.1 240 (by decide)).trans (hF613.2.1 240 (by decide))))))) (((hF774.2.1 241 (by decide)).trans ((hF760.2.1 241 (by decide)).trans ((hF750.2.1 241 (by decide)).trans ((hF732.2.1 241 (by decide)).trans (hF613.2.1 241 (by decide))))))) (((hF774.1 231 17 (by decide)).trans ((hF760.1 231 17 (by decide)).trans ((hF750.1 231 17 (by decide)).trans ((hF732.1 231 17 (by decide)).trans (hF613.1 231 17 (by decide))))))) (((hF774.1 231 23 (by decide)).trans ((hF760.1 231 23 (by decide)).trans ((hF750.1 231 23 (by decide)).trans ((hF732.1 231 23 (by decide)).trans (hF613.1 231 23 (by decide)))))))
          have nsq812 := NSQ.cong (hP.2.2.1 (by decide) (by decide)) hI773 (((hF774.2.1 240 (by decide)).trans ((hF760.2.1 240 (by decide)).trans ((hF750.2.1 240 (by decide)).trans ((hF732.2.1 240 (by decide)).trans (hF613.2.1 240 (by decide))))))) (((hF774.1 231 23 (by decide)).trans ((hF760.1 231 23 (by decide)).trans ((hF750.1 231 23 (by decide)).trans ((hF732.1 231 23 (by decide)).trans (hF613.1 231 23 (by decide)))))))
          exact ⟨_, rfl, hI773, hF777, _, rfl, by decide, ⟨by omega, by omega, by omega, by omega, c797, by omega, by omega, (fun hbad => ⟨by omega, (PT.mk (fun h => False.elim (by omega)) (fun _ => pg811) (fun _ _ => nsq812) (fun h => False.elim (by omega)))⟩), (fun hbad => by omega)⟩⟩
        · have c799_ : v790.toInt = 0 := en_k_ne_f c799
          obtain ⟨i813, i814, i815⟩ := c798 (by omega)
          refine At.enter rfl ?_
          refine r_aload_n rfl ?_
          refine r_iconst 1 rfl ?_
          have x816 := HI.eqI hI773 (p := 231) (b := 17) ((((hF774.1 231 17 (by decide)).trans ((hF760.1 231 17 (by decide)).trans ((hF750.1 231 17 (by decide)).trans ((hF732.1 231 17 (by decide)).trans (hF613.1 231 17 (by decide)))))).trans hv7))
          have x817 := HI.eqI hI773 (p := 231) (b := 23) ((((hF774.1 231 23 (by decide)).trans ((hF760.1 231 23 (by decide)).trans ((hF750.1 231 23 (by decide)).trans ((hF732.1 231 23 (by decide)).trans (hF613.1 231 23 (by decide)))))).trans hv8))
          have zv818 : (1 : Int32).toInt = 1 := rfl
          refine r_callV 108 rfl [.ref 231, .int 1] [] (Nat.le_of_ble_eq_true rfl) rfl (T_X11_settle_231 _ hI773 1 (by decide) (by omega)) ?_
          rintro _ _ ⟨g819, rfl, hI820, hF821, rfl, hr823⟩
          refine At.stn ?_
          have hF824 := Fr.tr hF777 hF821 rfl rfl
          have zv825 : (1 : Int32).toInt = 1 := rfl
          have x826 := HI.eqI hI773 (p := 231) (b := 17) ((((hF774.1 231 17 (by decide)).trans ((hF760.1 231 17 (by decide)).trans ((hF750.1 231 17 (by decide)).trans ((hF732.1 231 17 (by decide)).trans (hF613.1 231 17 (by decide)))))).trans hv7))
          have x827 := HI.eqI hI773 (p := 231) (b := 23) ((((hF774.1 231 23 (by decide)).trans ((hF760.1 231 23 (by decide)).trans ((hF750.1 231 23 (by decide)).trans ((hF732.1 231 23 (by decide)).trans (hF613.1 231 23 (by decide)))))).trans hv8))
          obtain ⟨v828, hv828⟩ : ∃ v, gI g819 231 17 = v := ⟨_, rfl⟩
          have rv828 := RgF.at hI820.2.1 (p := 231) (b := 17) rfl
          rw [hv828] at rv828
          dsimp only at rv828
          have tv828 := congrArg Int32.toInt hv828
          have x829 := HI.eqI hI820 (p := 231) (b := 17) (hv828)
          obtain ⟨v830, hv830⟩ : ∃ v, gI g819 231 23 = v := ⟨_, rfl⟩
          have rv830 := RgF.at hI820.2.1 (p := 231) (b := 23) rfl
          rw [hv830] at rv830
          dsimp only at rv830
          have tv830 := congrArg Int32.toInt hv830
          have x831 := HI.eqI hI820 (p := 231) (b := 23) (hv830)
          have y832 : (gI _ 231 23).toInt ≤ (gI _ 231 23).toInt := hr823.1
          have y833 : (gI _ 231 17).toInt + (gI _ 231 23).toInt ≤ (gI _ 231 17).toInt + (gI _ 231 23).toInt := hr823.2.1
          have nsq834 := NSQ.cong (hP.2.2.1 (by decide) (by decide)) hI773 (((hF774.2.1 240 (by decide)).trans ((hF760.2.1 240 (by decide)).trans ((hF750.2.1 240 (by decide)).trans ((hF732.2.1 240 (by decide)).trans (hF613.2.1 240 (by decide))))))) (((hF774.1 231 23 (by decide)).trans ((hF760.1 231 23 (by decide)).trans ((hF750.1 231 23 (by decide)).trans ((hF732.1 231 23 (by decide)).trans (hF613.1 231 23 (by decide)))))))
          have pg835 := PG.cong (hP.2.1 (by decide)) hI773 (((hF774.2.1 238 (by decide)).trans ((hF760.2.1 238 (by decide)).trans ((hF750.2.1 238 (by decide)).trans ((hF732.2.1 238 (by decide)).trans (hF613.2.1 238 (by decide))))))) (((hF774.2.1 239 (by decide)).trans ((hF760.2.1 239 (by decide)).trans ((hF750.2.1 239 (by decide)).trans ((hF732.2.1 239 (by decide)).trans (hF613.2.1 239 (by decide))))))) (((hF774.2.1 240 (by decide)).trans ((hF760.2.1 240 (by decide)).trans ((hF750.2.1 240 (by decide)).trans ((hF732.2.1 240 (by decide)).trans (hF613.2.1 240 (by decide))))))) (((hF774.2.1 241 (by decide)).trans ((hF760.2.1 241 (by decide)).trans ((hF750.2.1 241 (by decide)).trans ((hF732.2.1 241 (by decide)).trans (hF613.2.1 241 (by decide))))))) (((hF774.1 231 17 (by decide)).trans ((hF760.1 231 17 (by decide)).trans ((hF750.1 231 17 (by decide)).trans ((hF732.1 231 17 (by decide)).trans (hF613.1 231 17 (by decide))))))) (((hF774.1 231 23 (by decide)).trans ((hF760.1 231 23 (by decide)).trans ((hF750.1 231 23 (by decide)).trans ((hF732.1 231 23 (by decide)).trans (hF613.1 231 23 (by decide)))))))
          have inn837 := INN.cong inn754 hI773 (((hF774.2.1 240 (by decide)).trans (hF760.2.1 240 (by decide)))) (((hF774.1 231 23 (by decide)).trans (hF760.1 231 23 (by decide))))
          have top838 := SETP.close1 hr823 (by omega) inn837 (by omega)
          have y839 : 1 ≤ (gI _ 231 23).toInt := top838.1
          have pg836 := hr823.2.2.1 _ _ _ pg835
          have nsq840 := NSQ.le nsq834 hI820 hr823.2.2.2.2.1 hr823.1
          refine At.enter rfl ?_
          refine r_aload_n rfl ?_
          refine r_dup rfl ?_
          refine q_getI (Sh.int hI820.1 kx_231 rfl) v830 hv830 ?_
          refine r_iconst 1 rfl ?_
          refine q_isub (v830.toInt - 1) rfl (by omega) (fun v841 hv841 => ?_)
          refine q_putI (Sh.int hI820.1 kx_231 rfl) rfl ?_
          have hI842 := HI.wI1 hI820 kx_231 rfl (p := 231) (b := 23) (v := v841) rfl (by dsimp only; omega)
          have hF843 := Fr.wI (p := 231) (b := 23) (v := v841) hF824 rfl
          refine r_aload_n rfl ?_
          refine r_dup rfl ?_
          obtain ⟨v844, hv844⟩ : ∃ v, gI g0 231 24 = v := ⟨_, rfl⟩
          refine q_getI (Sh.int hI842.1 kx_231 rfl) v844 (((gI_sI_ne (by decide)).trans ((hF821.1 231 24 (by decide)).trans ((hF774.1 231 24 (by decide)).trans ((hF760.1 231 24 (by decide)).trans ((hF750.1 231 24 (by decide)).trans ((hF732.1 231 24 (by decide)).trans (hF613.1 231 24 (by decide)))))))).trans hv844) ?_
          refine r_iconst 1 rfl ?_
          refine q_isubO (fun v845 _ => ?_)
          refine q_putI (Sh.int hI842.1 kx_231 rfl) rfl ?_
          have hI846 := HI.wI0 hI842 kx_231 rfl (p := 231) (b := 24) (v := v845) rfl
          have hF847 := Fr.wI (p := 231) (b := 24) (v := v845) hF843 rfl
          refine Ar.fall 128 rfl ?_
          refine At.enter rfl ?_
          refine r_iconst 2 rfl ?_
          refine r_ireti ?_
          have x848 := HI.eqI hI846 (p := 231) (b := 8) ((((gI_sI_ne (by decide)).trans ((gI_sI_ne (by decide)).trans ((hF821.1 231 8 (by decide)).trans ((hF774.1 231 8 (by decide)).trans ((hF760.1 231 8 (by decide)).trans ((hF750.1 231 8 (by decide)).trans ((hF732.1 231 8 (by decide)).trans (hF613.1 231 8 (by decide))))))))).trans hv1))
          have x849 := HI.eqI hI846 (p := 231) (b := 9) ((((gI_sI_ne (by decide)).trans ((gI_sI_ne (by decide)).trans (hF821.1 231 9 (by decide)))).trans hv784))
          have x850 := HI.eqI hI846 (p := 231) (b := 10) ((((gI_sI_ne (by decide)).trans ((gI_sI_ne (by decide)).trans (hF821.1 231 10 (by decide)))).trans hv786))
          have x851 := HI.eqI hI846 (p := 231) (b := 11) ((((gI_sI_ne (by decide)).trans ((gI_sI_ne (by decide)).trans (hF821.1 231 11 (by decide)))).trans hv788))
          obtain ⟨v852, hv852⟩ : ∃ v, gJ g772 231 12 = v := ⟨_, rfl⟩
          have x853 := HI.eqJ hI846 (b := 12) ((((gJ_sI_ne (by decide)).trans ((gJ_sI_ne (by decide)).trans (hF821.2.2 231 12 (by decide)))).trans hv852))
          have x854 := HI.eqI hI846 (p := 231) (b := 14) ((((gI_sI_ne (by decide)).trans ((gI_sI_ne (by decide)).trans (hF821.1 231 14 (by decide)))).trans hv790))
          have x855 := HI.eqI hI846 (p := 231) (b := 17) ((((gI_sI_ne (by decide)).trans (gI_sI_ne (by decide))).trans hv828))
          have x856 := HI.eqI hI846 (p := 231) (b := 23) (((gI_sI_ne (by decide)).trans (gI_sI_eq hI820.1 kx_231 rfl _)))
          have x857 := HI.eqI hI0 (p := 231) (b := 9) (hv2)
          have zv858 : (2 : Int32).toInt = 2 := rfl
          have x860 := HI.eqI hI846 (p := 231) (b := 23) (((gI_sI_ne (by decide)).trans (gI_sI_eq hI820.1 kx_231 rfl _)))
          have pg859 := PG.popB pg836 hI846 (((gA_sI).trans (gA_sI))) (((gA_sI).trans (gA_sI))) (((gA_sI).trans (gA_sI))) (((gA_sI).trans (gA_sI))) (((gI_sI_ne (by decide)).trans (gI_sI_ne (by decide)))) (by show (gI _ 231 23).toInt = (gI _ 231 23).toInt - 1; omega) top838.1 top838.2
          have x862 := HI.eqI hI846 (p := 231) (b := 23) (((gI_sI_ne (by decide)).trans (gI_sI_eq hI820.1 kx_231 rfl _)))
          have nsq861 := NSQ.le nsq840 hI846 (((gA_sI).trans (gA_sI))) (by show (gI _ 231 23).toInt ≤ (gI _ 231 23).toInt; omega)
          have w26863 := W26.cong c797 hI846 (((gI_sI_ne (by decide)).trans ((gI_sI_ne (by decide)).trans (hF821.1 231 9 (by decide))))) (((gI_sI_ne (by decide)).trans ((gI_sI_ne (by decide)).trans (hF821.1 231 10 (by decide))))) (((gI_sI_ne (by decide)).trans ((gI_sI_ne (by decide)).trans (hF821.1 231 11 (by decide))))) (((gJ_sI_ne (by decide)).trans ((gJ_sI_ne (by decide)).trans (hF821.2.2 231 12 (by decide)))))
          exact ⟨_, rfl, hI846, hF847, _, rfl, by decide, ⟨by omega, by omega, by omega, by omega, w26863, by omega, by omega, (fun hbad => ⟨by omega, (PT.mk (fun h => False.elim (by omega)) (fun _ => pg859) (fun _ _ => nsq861) (fun h => False.elim (by omega)))⟩), (fun hbad => by omega)⟩⟩
      · have c755_ : v751.toInt = (-1) := en_i_ne_f c755
        refine At.enter rfl ?_
        refine r_iconst 4 rfl ?_
        refine r_ireti ?_
        have x864 := HI.eqI hI749 (p := 231) (b := 8) ((((hF750.1 231 8 (by decide)).trans ((hF732.1 231 8 (by decide)).trans (hF613.1 231 8 (by decide)))).trans hv1))
        have x865 := HI.eqI hI749 (p := 231) (b := 9) ((((hF750.1 231 9 (by decide)).trans ((hF732.1 231 9 (by decide)).trans (hF613.1 231 9 (by decide)))).trans hv2))
        have x866 := HI.eqI hI749 (p := 231) (b := 10) ((((hF750.1 231 10 (by decide)).trans ((hF732.1 231 10 (by decide)).trans (hF613.1 231 10 (by decide)))).trans hv3))
        have x867 := HI.eqI hI749 (p := 231) (b := 11) ((((hF750.1 231 11 (by decide)).trans ((hF732.1 231 11 (by decide)).trans (hF613.1 231 11 (by decide)))).trans hv4))
        have x868 := HI.eqJ hI749 (b := 12) ((((hF750.2.2 231 12 (by decide)).trans ((hF732.2.2 231 12 (by decide)).trans (hF613.2.2 231 12 (by decide)))).trans hv5))
        have x869 := HI.eqI hI749 (p := 231) (b := 14) ((((hF750.1 231 14 (by decide)).trans ((hF732.1 231 14 (by decide)).trans (hF613.1 231 14 (by decide)))).trans hv6))
        have x870 := HI.eqI hI749 (p := 231) (b := 17) ((((hF750.1 231 17 (by decide)).trans ((hF732.1 231 17 (by decide)).trans (hF613.1 231 17 (by decide)))).trans hv7))
        have x871 := HI.eqI hI749 (p := 231) (b := 23) ((((hF750.1 231 23 (by decide)).trans ((hF732.1 231 23 (by decide)).trans (hF613.1 231 23 (by decide)))).trans hv8))
        have x872 := HI.eqI hI0 (p := 231) (b := 9) (hv2)
        have zv873 : (4 : Int32).toInt = 4 := rfl
        have pg874 := PG.cong (hP.2.1 (by decide)) hI749 (((hF750.2.1 238 (by decide)).trans ((hF732.2.1 238 (by decide)).trans (hF613.2.1 238 (by decide))))) (((hF750.2.1 239 (by decide)).trans ((hF732.2.1 239 (by decide)).trans (hF613.2.1 239 (by decide))))) (((hF750.2.1 240 (by decide)).trans ((hF732.2.1 240 (by decide)).trans (hF613.2.1 240 (by decide))))) (((hF750.2.1 241 (by decide)).trans ((hF732.2.1 241 (by decide)).trans (hF613.2.1 241 (by decide))))) (((hF750.1 231 17 (by decide)).trans ((hF732.1 231 17 (by decide)).trans (hF613.1 231 17 (by decide))))) (((hF750.1 231 23 (by decide)).trans ((hF732.1 231 23 (by decide)).trans (hF613.1 231 23 (by decide)))))
        have nsq875 := NSQ.cong (hP.2.2.1 (by decide) (by decide)) hI749 (((hF750.2.1 240 (by decide)).trans ((hF732.2.1 240 (by decide)).trans (hF613.2.1 240 (by decide))))) (((hF750.1 231 23 (by decide)).trans ((hF732.1 231 23 (by decide)).trans (hF613.1 231 23 (by decide)))))
        have w26876 := W26.cong hW hI749 (((hF750.1 231 9 (by decide)).trans ((hF732.1 231 9 (by decide)).trans (hF613.1 231 9 (by decide))))) (((hF750.1 231 10 (by decide)).trans ((hF732.1 231 10 (by decide)).trans (hF613.1 231 10 (by decide))))) (((hF750.1 231 11 (by decide)).trans ((hF732.1 231 11 (by decide)).trans (hF613.1 231 11 (by decide))))) (((hF750.2.2 231 12 (by decide)).trans ((hF732.2.2 231 12 (by decide)).trans (hF613.2.2 231 12 (by decide)))))
        exact ⟨_, rfl, hI749, hF753, _, rfl, by decide, ⟨by omega, by omega, by omega, by omega, w26876, by omega, by omega, (fun hbad => ⟨by omega, (PT.mk (fun h => False.elim (by omega)) (fun _ => pg874) (fun _ _ => nsq875) (fun _ => INN.nbr (INN.eq inn754 (by omega))))⟩), (fun hbad => by omega)⟩⟩
    · have c747_ : v733.toInt ≠ 0 := en_k_eq_f c747
      have i877 := W26.two w26746 isw744 (by omega) (by decide)
      refine At.enter rfl ?_
      refine r_aload_n rfl ?_
      refine r_iload_n rfl ?_
      refine r_ifs 27 rfl (fun c878 => ?_) (fun c878 => ?_)
      · have c878_ : v614.toInt = 0 := en_k_eq_t c878
        refine At.enter rfl ?_
        refine r_iconst 1 rfl ?_
        refine Ar.fall 32 rfl ?_
        refine At.enter rfl ?_
        have x879 := HI.eqI hI731 (p := 231) (b := 17) ((((hF732.1 231 17 (by decide)).trans (hF613.1 231 17 (by decide))).trans hv7))
        have x880 := HI.eqI hI731 (p := 231) (b := 23) ((((hF732.1 231 23 (by decide)).trans (hF613.1 231 23 (by decide))).trans hv8))
        have zv881 : (1 : Int32).toInt = 1 := rfl
        refine r_callV 35 rfl [.ref 231, .int 1] [] (Nat.le_of_ble_eq_true rfl) rfl (T_X11_settle_231 _ hI731 1 (by decide) (by omega)) ?_
        rintro _ _ ⟨g882, rfl, hI883, hF884, rfl, hr886⟩
        refine At.stn ?_
        have hF887 := Fr.tr hF735 hF884 rfl rfl
        have zv888 : (1 : Int32).toInt = 1 := rfl
        have x889 := HI.eqI hI731 (p := 231) (b := 17) ((((hF732.1 231 17 (by decide)).trans (hF613.1 231 17 (by decide))).trans hv7))
        have x890 := HI.eqI hI731 (p := 231) (b := 23) ((((hF732.1 231 23 (by decide)).trans (hF613.1 231 23 (by decide))).trans hv8))
        obtain ⟨v891, hv891⟩ : ∃ v, gI g882 231 17 = v := ⟨_, rfl⟩
        have rv891 := RgF.at hI883.2.1 (p := 231) (b := 17) rfl
        rw [hv891] at rv891
        dsimp only at rv891
        have tv891 := congrArg Int32.toInt hv891
        have x892 := HI.eqI hI883 (p := 231) (b := 17) (hv891)
        obtain ⟨v893, hv893⟩ : ∃ v, gI g882 231 23 = v := ⟨_, rfl⟩
        have rv893 := RgF.at hI883.2.1 (p := 231) (b := 23) rfl
        rw [hv893] at rv893
        dsimp only at rv893
        have tv893 := congrArg Int32.toInt hv893
        have x894 := HI.eqI hI883 (p := 231) (b := 23) (hv893)
        have y895 : (gI _ 231 23).toInt ≤ (gI _ 231 23).toInt := hr886.1
        have y896 : (gI _ 231 17).toInt + (gI _ 231 23).toInt ≤ (gI _ 231 17).toInt + (gI _ 231 23).toInt := hr886.2.1
        have nsq897 := NSQ.cong (hP.2.2.1 (by decide) (by decide)) hI731 (((hF732.2.1 240 (by decide)).trans (hF613.2.1 240 (by decide)))) (((hF732.1 231 23 (by decide)).trans (hF613.1 231 23 (by decide))))
        have pg898 := PG.cong (hP.2.1 (by decide)) hI731 (((hF732.2.1 238 (by decide)).trans (hF613.2.1 238 (by decide)))) (((hF732.2.1 239 (by decide)).trans (hF613.2.1 239 (by decide)))) (((hF732.2.1 240 (by decide)).trans (hF613.2.1 240 (by decide)))) (((hF732.2.1 241 (by decide)).trans (hF613.2.1 241 (by decide)))) (((hF732.1 231 17 (by decide)).trans (hF613.1 231 17 (by decide)))) (((hF732.1 231 23 (by decide)).trans (hF613.1 231 23 (by decide))))
        have pg899 := hr886.2.2.1 _ _ _ pg898
        have nsq900 := NSQ.le nsq897 hI883 hr886.2.2.2.2.1 hr886.1
        refine At.enter rfl ?_
        refine r_aload_n rfl ?_
        refine r_iload_n rfl ?_
        refine r_ifs 40 rfl (fun c901 => ?_) (fun c901 => ?_)
        · have c901_ : v614.toInt = 0 := en_k_eq_t c901
          refine At.enter rfl ?_
          refine r_bipush 29 rfl ?_
          refine Ar.fall 47 rfl ?_
          refine At.enter rfl ?_
          refine r_aload_n rfl ?_
          refine q_getI (Sh.int hI883.1 kx_231 rfl) v891 hv891 ?_
          have x902 := HI.eqI hI883 (p := 231) (b := 23) (hv893)
          have zv903 : (29 : Int32).toInt = 29 := rfl
          refine r_callV 54 rfl [.ref 231, .int 29, .int v891] [] (Nat.le_of_ble_eq_true rfl) rfl (T_X11_push_231 _ hI883 29 (by decide) v891 (by omega) (by omega)) ?_
          rintro _ _ ⟨g904, rfl, hI905, hF906, rfl, hr908⟩
          refine At.stn ?_
          have hF909 := Fr.tr hF887 hF906 rfl rfl
          have zv910 : (29 : Int32).toInt = 29 := rfl
          have x911 := HI.eqI hI883 (p := 231) (b := 17) (hv891)
          have x912 := HI.eqI hI883 (p := 231) (b := 23) (hv893)
          have x913 := HI.eqI hI905 (p := 231) (b := 17) (((hF906.1 231 17 (by decide)).trans hv891))
          obtain ⟨v914, hv914⟩ : ∃ v, gI g904 231 23 = v := ⟨_, rfl⟩
          have rv914 := RgF.at hI905.2.1 (p := 231) (b := 23) rfl
          rw [hv914] at rv914
          dsimp only at rv914
          have tv914 := congrArg Int32.toInt hv914
          have x915 := HI.eqI hI905 (p := 231) (b := 23) (hv914)
          have y916 : (gI _ 231 23).toInt = (gI _ 231 23).toInt + 1 := hr908.1
          have nsq918 := NSQ.push nsq900 hr908 (by omega)
          refine At.enter rfl ?_
          refine r_aload_n rfl ?_
          refine r_iload_n rfl ?_
          refine r_ifs 59 rfl (fun c919 => ?_) (fun c919 => ?_)
          · have c919_ : v614.toInt = 0 := en_k_eq_t c919
            refine At.enter rfl ?_
            refine r_bipush 29 rfl ?_
            refine Ar.fall 66 rfl ?_
            refine At.enter rfl ?_
            refine r_iconst 0 rfl ?_
            have x920 := HI.eqI hI905 (p := 231) (b := 17) (((hF906.1 231 17 (by decide)).trans hv891))
            have zv921 : (29 : Int32).toInt = 29 := rfl
            have zv922 : (0 : Int32).toInt = 0 := rfl
            refine r_callV 70 rfl [.ref 231, .int 29, .int 0] [] (Nat.le_of_ble_eq_true rfl) rfl (T_X11_emit_231 _ hI905 29 0 (by omega)) ?_
            rintro _ _ ⟨g923, rfl, hI924, hF925, rfl, hr927⟩
            refine At.stn ?_
            have hF928 := Fr.tr hF909 hF925 rfl rfl
            have zv929 : (29 : Int32).toInt = 29 := rfl
            have zv930 : (0 : Int32).toInt = 0 := rfl
            have x931 := HI.eqI hI905 (p := 231) (b := 17) (((hF906.1 231 17 (by decide)).trans hv891))
            have x932 := HI.eqI hI905 (p := 231) (b := 23) (hv914)
            obtain ⟨v933, hv933⟩ : ∃ v, gI g923 231 17 = v := ⟨_, rfl⟩
            have rv933 := RgF.at hI924.2.1 (p := 231) (b := 17) rfl
            rw [hv933] at rv933
            dsimp only at rv933
            have tv933 := congrArg Int32.toInt hv933
            have x934 := HI.eqI hI924 (p := 231) (b := 17) (hv933)
            have y935 : (gI _ 231 17).toInt = (gI _ 231 17).toInt + 1 := hr927.1
            have pg936 := PG.andor pg899 hr908 (hF906.2.1 238 (by decide)) (hF906.2.1 239 (by decide)) (hF906.1 231 17 (by decide)) hr927 (hF925.2.1 240 (by decide)) (hF925.2.1 241 (by decide)) (hF925.1 231 23 (by decide)) ⟨by omega, by omega⟩ (by show _ = (gI _ 231 17).toInt; omega) nsq900 (by show 0 ≤ (gI _ 231 23).toInt; omega)
            have nsq937 := NSQ.cong nsq918 hI924 ((hF925.2.1 240 (by decide))) ((hF925.1 231 23 (by decide)))
            refine At.enter rfl ?_
            refine r_aload_n rfl ?_
            have x938 := HI.eqI hI924 (p := 231) (b := 8) ((((hF925.1 231 8 (by decide)).trans ((hF906.1 231 8 (by decide)).trans ((hF884.1 231 8 (by decide)).trans ((hF732.1 231 8 (by decide)).trans (hF613.1 231 8 (by decide)))))).trans hv1))
            have x939 := HI.eqI hI924 (p := 231) (b := 10) ((((hF925.1 231 10 (by decide)).trans ((hF906.1 231 10 (by decide)).trans ((hF884.1 231 10 (by decide)).trans ((hF732.1 231 10 (by decide)).trans (hF613.1 231 10 (by decide)))))).trans hv3))
            refine r_callV 74 rfl [.ref 231] [] (Nat.le_of_ble_eq_true rfl) rfl (T_X11_next_231 _ hI924 (by omega)) ?_
            rintro _ _ ⟨g940, rfl, hI941, hF942, rfl, hr944⟩
            refine At.stn ?_
            have hF945 := Fr.tr hF928 hF942 rfl rfl
            have x946 := HI.eqI hI924 (p := 231) (b := 8) ((((hF925.1 231 8 (by decide)).trans ((hF906.1 231 8 (by decide)).trans ((hF884.1 231 8 (by decide)).trans ((hF732.1 231 8 (by decide)).trans (hF613.1 231 8 (by decide)))))).trans hv1))
            have x947 := HI.eqI hI924 (p := 231) (b := 10) ((((hF925.1 231 10 (by decide)).trans ((hF906.1 231 10 (by decide)).trans ((hF884.1 231 10 (by decide)).trans ((hF732.1 231 10 (by decide)).trans (hF613.1 231 10 (by decide)))))).trans hv3))
            have x948 := HI.eqI hI941 (p := 231) (b := 8) ((((hF942.1 231 8 (by decide)).trans ((hF925.1 231 8 (by decide)).trans ((hF906.1 231 8 (by decide)).trans ((hF884.1 231 8 (by decide)).trans ((hF732.1 231 8 (by decide)).trans (hF613.1 231 8 (by decide))))))).trans hv1))
            obtain ⟨v949, hv949⟩ : ∃ v, gI g940 231 9 = v := ⟨_, rfl⟩
            have rv949 := RgF.at hI941.2.1 (p := 231) (b := 9) rfl
            rw [hv949] at rv949
            dsimp only at rv949
            have tv949 := congrArg Int32.toInt hv949
            have x950 := HI.eqI hI941 (p := 231) (b := 9) (hv949)
            obtain ⟨v951, hv951⟩ : ∃ v, gI g940 231 10 = v := ⟨_, rfl⟩
            have rv951 := RgF.at hI941.2.1 (p := 231) (b := 10) rfl
            rw [hv951] at rv951
            dsimp only at rv951
            have tv951 := congrArg Int32.toInt hv951
            have x952 := HI.eqI hI941 (p := 231) (b := 10) (hv951)
            obtain ⟨v953, hv953⟩ : ∃ v, gI g940 231 11 = v := ⟨_, rfl⟩
            have tv953 := congrArg Int32.toInt hv953
            have x954 := HI.eqI hI941 (p := 231) (b := 11) (hv953)
            obtain ⟨c955, c956, c957, c958, c959, c960⟩ := hr944
            refine At.enter rfl ?_
            refine r_iconst 0 rfl ?_
            refine r_ireti ?_
            have x961 := HI.eqI hI941 (p := 231) (b := 8) ((((hF942.1 231 8 (by decide)).trans ((hF925.1 231 8 (by decide)).trans ((hF906.1 231 8 (by decide)).trans ((hF884.1 231 8 (by decide)).trans ((hF732.1 231 8 (by decide)).trans (hF613.1 231 8 (by decide))))))).trans hv1))
            have x962 := HI.eqI hI941 (p := 231) (b := 9) (hv949)
            have x963 := HI.eqI hI941 (p := 231) (b := 10) (hv951)
            have x964 := HI.eqI hI941 (p := 231) (b := 11) (hv953)
            obtain ⟨v965, hv965⟩ : ∃ v, gJ g940 231 12 = v := ⟨_, rfl⟩
            have x966 := HI.eqJ hI941 (b := 12) (hv965)
            have x967 := HI.eqI hI941 (p := 231) (b := 14) ((((hF942.1 231 14 (by decide)).trans ((hF925.1 231 14 (by decide)).trans ((hF906.1 231 14 (by decide)).trans ((hF884.1 231 14 (by decide)).trans ((hF732.1 231 14 (by decide)).trans (hF613.1 231 14 (by decide))))))).trans hv6))
            have x968 := HI.eqI hI941 (p := 231) (b := 17) (((hF942.1 231 17 (by decide)).trans hv933))
            have x969 := HI.eqI hI941 (p := 231) (b := 23) ((((hF942.1 231 23 (by decide)).trans (hF925.1 231 23 (by decide))).trans hv914))
            have x970 := HI.eqI hI0 (p := 231) (b := 9) (hv2)
            have zv971 : (0 : Int32).toInt = 0 := rfl
            have pg972 := PG.cong pg936 hI941 ((hF942.2.1 238 (by decide))) ((hF942.2.1 239 (by decide))) ((hF942.2.1 240 (by decide))) ((hF942.2.1 241 (by decide))) ((hF942.1 231 17 (by decide))) ((hF942.1 231 23 (by decide)))
            have nsq973 := NSQ.cong nsq937 hI941 ((hF942.2.1 240 (by decide))) ((hF942.1 231 23 (by decide)))
            exact ⟨_, rfl, hI941, hF945, _, rfl, by decide, ⟨by omega, by omega, by omega, by omega, c960, by omega, by omega, (fun hbad => ⟨by omega, (PT.mk (fun _ => pg972) (fun h => False.elim (by omega)) (fun _ _ => nsq973) (fun h => False.elim (by omega)))⟩), (fun hbad => by omega)⟩⟩
          · have c919_ : v614.toInt ≠ 0 := en_k_eq_f c919
            have i974 := W26.two hW isw625 (by omega) (by decide)
            exfalso; omega
        · have c901_ : v614.toInt ≠ 0 := en_k_eq_f c901
          have i975 := W26.two hW isw625 (by omega) (by decide)
          exfalso; omega
      · have c878_ : v614.toInt ≠ 0 := en_k_eq_f c878
        have i976 := W26.two hW isw625 (by omega) (by decide)
        exfalso; omega

def F_X11_readExpression_231 : List (Nat × Nat) := [(231, 9), (231, 10), (231, 11), (231, 12), (231, 13), (231, 14), (231, 17), (231, 20), (231, 23), (231, 24)]
def A_X11_readExpression_231 : List Nat := [238, 239, 240, 241]
set_option maxRecDepth 100000 in
set_option maxHeartbeats 4000000 in
theorem T_X11_readExpression_231 (d : Nat) {N : Nat} {g0 : List en_E} (hI0 : HI g0) (a1 : Int32) (h_a1 : 0 ≤ a1.toInt ∧ a1.toInt ≤ 1) (h1 : ((gI g0 231 9).toInt ≤ (gI g0 231 10).toInt ∧ (gI g0 231 10).toInt ≤ (gI g0 231 8).toInt ∧ 0 ≤ (gI g0 231 11).toInt ∧ (gI g0 231 11).toInt ≤ 3 * ((gI g0 231 10).toInt - (gI g0 231 9).toInt))) (h2 : (gI g0 231 14).toInt = 0) (h3 : (gI g0 231 17).toInt ≤ (gI g0 231 9).toInt) (hW : W26 g0) : Ev (d + 7) 208 [.ref 231, .int a1] (g0, N) (fun w h' => ∃ g', h' = (g', N) ∧ HI g' ∧ Fr F_X11_readExpression_231 A_X11_readExpression_231 g0 g' ∧ w = none ∧ ((gI g' 231 9).toInt ≤ (gI g' 231 10).toInt ∧ (gI g' 231 10).toInt ≤ (gI g' 231 8).toInt ∧ 0 ≤ (gI g' 231 11).toInt ∧ (gI g' 231 11).toInt ≤ 3 * ((gI g' 231 10).toInt - (gI g' 231 9).toInt) ∧ W26 g' ∧ (gI g0 231 9).toInt ≤ (gI g' 231 9).toInt ∧ XPR g0 g')) := by
  have hF0 : Fr F_X11_readExpression_231 A_X11_readExpression_231 g0 g0 := Fr.rf
  obtain ⟨v1, hv1⟩ : ∃ v, gI g0 231 8 = v := ⟨_, rfl⟩
  have rv1 := RgF.at hI0.2.1 (p := 231) (b := 8) rfl
  rw [hv1] at rv1
  dsimp only at rv1
  have tv1 := congrArg Int32.toInt hv1
  obtain ⟨v2, hv2⟩ : ∃ v, gI g0 231 9 = v := ⟨_, rfl⟩
  have rv2 := RgF.at hI0.2.1 (p := 231) (b := 9) rfl
  rw [hv2] at rv2
  dsimp only at rv2
  have tv2 := congrArg Int32.toInt hv2
  obtain ⟨v3, hv3⟩ : ∃ v, gI g0 231 10 = v := ⟨_, rfl⟩
  have rv3 := RgF.at hI0.2.1 (p := 231) (b := 10) rfl
  rw [hv3] at rv3
  dsimp only at rv3
  have tv3 := congrArg Int32.toInt hv3
  obtain ⟨v4, hv4⟩ : ∃ v, gI g0 231 11 = v := ⟨_, rfl⟩
  have tv4 := congrArg Int32.toInt hv4
  obtain ⟨v5, hv5⟩ : ∃ v, gJ g0 231 12 = v := ⟨_, rfl⟩
  have tv5 := congrArg Int64.toInt hv5
  obtain ⟨v6, hv6⟩ : ∃ v, gI g0 231 14 = v := ⟨_, rfl⟩
  have tv6 := congrArg Int32.toInt hv6
  obtain ⟨v7, hv7⟩ : ∃ v, gI g0 231 17 = v := ⟨_, rfl⟩
  have rv7 := RgF.at hI0.2.1 (p := 231) (b := 17) rfl
  rw [hv7] at rv7
  dsimp only at rv7
  have tv7 := congrArg Int32.toInt hv7
  obtain ⟨v8, hv8⟩ : ∃ v, gI g0 231 23 = v := ⟨_, rfl⟩
  have rv8 := RgF.at hI0.2.1 (p := 231) (b := 23) rfl
  rw [hv8] at rv8
  dsimp only at rv8
  have tv8 := congrArg Int32.toInt hv8
  refine Ev.mk rfl rfl ⟨Nat.le_of_ble_eq_true rfl, Or.inr (q_rc hI0.1 kx_231 rfl)⟩ ?_
  show At _ none _ _ (0, [(0, .ref 231), (1, .int a1)], [], (_, _)) _
  refine At.enter rfl ?_
  refine r_aload_n rfl ?_
  refine r_iconst 0 rfl ?_
  refine q_putI (Sh.int hI0.1 kx_231 rfl) rfl ?_
  have hI3811 := HI.wI1 hI0 kx_231 rfl (p := 231) (b := 23) (v := 0) rfl (by decide)
  have hF3812 := Fr.wI (p := 231) (b := 23) (v := 0) hF0 rfl
  refine r_aload_n rfl ?_
  refine r_iconst 0 rfl ?_
  refine q_putI (Sh.int hI3811.1 kx_231 rfl) rfl ?_
  have hI3813 := HI.wI0 hI3811 kx_231 rfl (p := 231) (b := 24) (v := 0) rfl
  have hF3814 := Fr.wI (p := 231) (b := 24) (v := 0) hF3812 rfl
  refine r_iload_n rfl ?_
  refine r_ifs 14 rfl (fun c3815 => ?_) (fun c3815 => ?_)
  · have c3815_ : a1.toInt = 0 := en_k_eq_t c3815
    refine At.enter rfl ?_
    refine r_iconst 1 rfl ?_
    refine Ar.fall 19 rfl ?_
    refine At.enter rfl ?_
    refine r_istore_n ([(2, .int 1), (0, .ref 231), (1, .int a1)]) rfl ?_
    refine Ar.fall 20 rfl ?_
    have z_4515 : (1 : Int32).toInt = 1 := rfl
    have x4516 := HI.eqI hI3813 (p := 231) (b := 8) ((((gI_sI_ne (by decide)).trans (gI_sI_ne (by decide))).trans hv1))
    have x4517 := HI.eqI hI3813 (p := 231) (b := 9) ((((gI_sI_ne (by decide)).trans (gI_sI_ne (by decide))).trans hv2))
    have x4518 := HI.eqI hI3813 (p := 231) (b := 10) ((((gI_sI_ne (by decide)).trans (gI_sI_ne (by decide))).trans hv3))
    have x4519 := HI.eqI hI3813 (p := 231) (b := 11) ((((gI_sI_ne (by decide)).trans (gI_sI_ne (by decide))).trans hv4))
    have x4520 := HI.eqJ hI3813 (b := 12) ((((gJ_sI_ne (by decide)).trans (gJ_sI_ne (by decide))).trans hv5))
    have x4521 := HI.eqI hI3813 (p := 231) (b := 14) ((((gI_sI_ne (by decide)).trans (gI_sI_ne (by decide))).trans hv6))
    have x4522 := HI.eqI hI3813 (p := 231) (b := 17) ((((gI_sI_ne (by decide)).trans (gI_sI_ne (by decide))).trans hv7))
    have x4523 := HI.eqI hI3813 (p := 231) (b := 23) (((gI_sI_ne (by decide)).trans (gI_sI_eq hI0.1 kx_231 rfl _)))
    have zv4524 : (0 : Int32).toInt = 0 := rfl
    refine w_loopI (fun n_ l_ g_ => ∃ x4491 : Int32, ∃ x4492 : Int32, ∃ x4493 : Int32, n_ = 5 * (400 - x4492.toInt) + tw (x4491.toInt) + 10 * bw (x4493.toInt) ∧ HI g_ ∧ Fr F_X11_readExpression_231 A_X11_readExpression_231 g0 g_ ∧ gI g_ 231 9 = x4492 ∧ gI g_ 231 14 = x4493 ∧ en_get 0 l_ = some (.ref 231) ∧ en_get 1 l_ = some (.int a1) ∧ en_get 2 l_ = some (.int x4491) ∧ (0 ≤ x4491.toInt ∧ x4491.toInt ≤ 4) ∧ (0 ≤ x4492.toInt ∧ x4492.toInt ≤ 400) ∧ ((gI g_ 231 9).toInt ≤ (gI g_ 231 10).toInt) ∧ ((gI g_ 231 10).toInt ≤ (gI g_ 231 8).toInt) ∧ (0 ≤ (gI g_ 231 11).toInt) ∧ ((gI g_ 231 11).toInt ≤ 3 * ((gI g_ 231 10).toInt - (gI g_ 231 9).toInt)) ∧ ((gI g_ 231 17).toInt + (gI g_ 231 23).toInt ≤ 400) ∧ ((gI g0 231 9).toInt ≤ (gI g_ 231 9).toInt) ∧ (W26 g_) ∧ (TURN g_ (gI g0 231 17).toInt x4491.toInt (pE g0 238) (pE g0 239))) ?_ (5 * (400 - v2.toInt) + tw (1) + 10 * bw (v6.toInt)) ⟨1, v2, v6, by first | rfl | omega, hI3813, hF3814, (((gI_sI_ne (by decide)).trans (gI_sI_ne (by decide))).trans hv2), (((gI_sI_ne (by decide)).trans (gI_sI_ne (by decide))).trans hv6), rfl, rfl, rfl, by decide, by omega, by omega, by omega, by omega, by omega, by omega, by omega, (W26.cong hW hI3813 (((gI_sI_ne (by decide)).trans (gI_sI_ne (by decide)))) (((gI_sI_ne (by decide)).trans (gI_sI_ne (by decide)))) (((gI_sI_ne (by decide)).trans (gI_sI_ne (by decide)))) (((gJ_sI_ne (by decide)).trans (gJ_sI_ne (by decide))))), (fun _ => ⟨by omega, PT.start hI3813 (((gA_sI).trans (gA_sI))) (((gA_sI).trans (gA_sI))) (((gI_sI_ne (by decide)).trans (gI_sI_ne (by decide)))) (by show (gI _ 231 23).toInt = 0; omega) (by show 0 ≤ (gI _ 231 17).toInt; omega) (by omega)⟩)⟩
    rintro n4498 l4497 g4494 ⟨x4491, x4492, x4493, hm4525, hI4495, hF4496, e4500, e4501, e4502, e4503, e4504, r4505, r4506, q4507, q4508, q4509, q4510, q4511, q4512, q4513, q4514⟩ ih4499
    have tv4526 := congrArg Int32.toInt e4500
    have tv4527 := congrArg Int32.toInt e4501
    have x4528 := HI.eqI hI4495 (p := 231) (b := 8) (((hF4496.1 231 8 (by decide)).trans hv1))
    have x4529 := HI.eqI hI4495 (p := 231) (b := 9) (e4500)
    obtain ⟨v4530, hv4530⟩ : ∃ v, gI g4494 231 10 = v := ⟨_, rfl⟩
    have rv4530 := RgF.at hI4495.2.1 (p := 231) (b := 10) rfl
    rw [hv4530] at rv4530
    dsimp only at rv4530
    have tv4530 := congrArg Int32.toInt hv4530
    have x4531 := HI.eqI hI4495 (p := 231) (b := 10) (hv4530)
    obtain ⟨v4532, hv4532⟩ : ∃ v, gI g4494 231 11 = v := ⟨_, rfl⟩
    have tv4532 := congrArg Int32.toInt hv4532
    have x4533 := HI.eqI hI4495 (p := 231) (b := 11) (hv4532)
    obtain ⟨v4534, hv4534⟩ : ∃ v, gJ g4494 231 12 = v := ⟨_, rfl⟩
    have x4535 := HI.eqJ hI4495 (b := 12) (hv4534)
    have x4536 := HI.eqI hI4495 (p := 231) (b := 14) (e4501)
    obtain ⟨v4537, hv4537⟩ : ∃ v, gI g4494 231 17 = v := ⟨_, rfl⟩
    have rv4537 := RgF.at hI4495.2.1 (p := 231) (b := 17) rfl
    rw [hv4537] at rv4537
    dsimp only at rv4537
    have tv4537 := congrArg Int32.toInt hv4537
    have x4538 := HI.eqI hI4495 (p := 231) (b := 17) (hv4537)
    obtain ⟨v4539, hv4539⟩ : ∃ v, gI g4494 231 23 = v := ⟨_, rfl⟩
    have rv4539 := RgF.at hI4495.2.1 (p := 231) (b := 23) rfl
    rw [hv4539] at rv4539
    dsimp only at rv4539
    have tv4539 := congrArg Int32.toInt hv4539
    have x4540 := HI.eqI hI4495 (p := 231) (b := 23) (hv4539)
    refine At.enter rfl ?_
    refine r_aload_n e4502 ?_
    refine q_getI (Sh.int hI4495.1 kx_231 rfl) x4493 e4501 ?_
    refine r_ifs 27 rfl (fun c4541 => ?_) (fun c4541 => ?_)
    · have c4541_ : x4493.toInt ≠ 0 := en_k_ne_t c4541
      refine At.enter rfl ?_
      refine r_aload_n e4502 ?_
      refine r_iconst 1 rfl ?_
      have x4542 := HI.eqI hI4495 (p := 231) (b := 17) (hv4537)
      have x4543 := HI.eqI hI4495 (p := 231) (b := 23) (hv4539)
      have zv4544 : (1 : Int32).toInt = 1 := rfl
      refine r_callV 81 rfl [.ref 231, .int 1] [] (Nat.le_of_ble_eq_true rfl) rfl (T_X11_settle_231 _ hI4495 1 (by decide) (by omega)) ?_
      rintro _ _ ⟨g4545, rfl, hI4546, hF4547, rfl, hr4549⟩
      refine At.stn ?_
      have hF4550 := Fr.tr hF4496 hF4547 rfl rfl
      have zv4551 : (1 : Int32).toInt = 1 := rfl
      have x4552 := HI.eqI hI4495 (p := 231) (b := 17) (hv4537)
      have x4553 := HI.eqI hI4495 (p := 231) (b := 23) (hv4539)
      obtain ⟨v4554, hv4554⟩ : ∃ v, gI g4545 231 17 = v := ⟨_, rfl⟩
      have rv4554 := RgF.at hI4546.2.1 (p := 231) (b := 17) rfl
      rw [hv4554] at rv4554
      dsimp only at rv4554
      have tv4554 := congrArg Int32.toInt hv4554
      have x4555 := HI.eqI hI4546 (p := 231) (b := 17) (hv4554)
      obtain ⟨v4556, hv4556⟩ : ∃ v, gI g4545 231 23 = v := ⟨_, rfl⟩
      have rv4556 := RgF.at hI4546.2.1 (p := 231) (b := 23) rfl
      rw [hv4556] at rv4556
      dsimp only at rv4556
      have tv4556 := congrArg Int32.toInt hv4556
      have x4557 := HI.eqI hI4546 (p := 231) (b := 23) (hv4556)
      have y4558 : (gI _ 231 23).toInt ≤ (gI _ 231 23).toInt := hr4549.1
      have y4559 : (gI _ 231 17).toInt + (gI _ 231 23).toInt ≤ (gI _ 231 17).toInt + (gI _ 231 23).toInt := hr4549.2.1
      refine At.enter rfl ?_
      refine r_vret ?_
      have x4560 := HI.eqI hI4546 (p := 231) (b := 8) ((((hF4547.1 231 8 (by decide)).trans (hF4496.1 231 8 (by decide))).trans hv1))
      have x4561 := HI.eqI hI4546 (p := 231) (b := 9) (((hF4547.1 231 9 (by decide)).trans e4500))
      have x4562 := HI.eqI hI4546 (p := 231) (b := 10) (((hF4547.1 231 10 (by decide)).trans hv4530))
      have x4563 := HI.eqI hI4546 (p := 231) (b := 11) (((hF4547.1 231 11 (by decide)).trans hv4532))
      have x4564 := HI.eqJ hI4546 (b := 12) (((hF4547.2.2 231 12 (by decide)).trans hv4534))
      have x4565 := HI.eqI hI4546 (p := 231) (b := 14) (((hF4547.1 231 14 (by decide)).trans e4501))
      have x4566 := HI.eqI hI4546 (p := 231) (b := 17) (hv4554)
      have x4567 := HI.eqI hI4546 (p := 231) (b := 23) (hv4556)
      have x4568 := HI.eqI hI0 (p := 231) (b := 9) (hv2)
      have x4569 := HI.eqI hI0 (p := 231) (b := 17) (hv7)
      have w264570 := W26.cong q4513 hI4546 ((hF4547.1 231 9 (by decide))) ((hF4547.1 231 10 (by decide))) ((hF4547.1 231 11 (by decide))) ((hF4547.2.2 231 12 (by decide)))
      exact ⟨_, rfl, hI4546, hF4550, rfl, ⟨by omega, by omega, by omega, by omega, w264570, by omega, (fun hbad => False.elim (by omega))⟩⟩
    · have c4541_ : x4493.toInt = 0 := en_k_ne_f c4541
      refine At.enter rfl ?_
      refine r_iload_n e4504 ?_
      refine r_iconst 4 rfl ?_
      refine r_ics 32 rfl (fun c4571 => ?_) (fun c4571 => ?_)
      · have c4571_ : x4491.toInt = 4 := en_i_eq_t c4571
        refine At.enter rfl ?_
        refine r_aload_n e4502 ?_
        refine r_iconst 1 rfl ?_
        have x4572 := HI.eqI hI4495 (p := 231) (b := 17) (hv4537)
        have x4573 := HI.eqI hI4495 (p := 231) (b := 23) (hv4539)
        have zv4574 : (1 : Int32).toInt = 1 := rfl
        refine r_callV 81 rfl [.ref 231, .int 1] [] (Nat.le_of_ble_eq_true rfl) rfl (T_X11_settle_231 _ hI4495 1 (by decide) (by omega)) ?_
        rintro _ _ ⟨g4575, rfl, hI4576, hF4577, rfl, hr4579⟩
        refine At.stn ?_
        have hF4580 := Fr.tr hF4496 hF4577 rfl rfl
        have zv4581 : (1 : Int32).toInt = 1 := rfl
        have x4582 := HI.eqI hI4495 (p := 231) (b := 17) (hv4537)
        have x4583 := HI.eqI hI4495 (p := 231) (b := 23) (hv4539)
        obtain ⟨v4584, hv4584⟩ : ∃ v, gI g4575 231 17 = v := ⟨_, rfl⟩
        have rv4584 := RgF.at hI4576.2.1 (p := 231) (b := 17) rfl
        rw [hv4584] at rv4584
        dsimp only at rv4584
        have tv4584 := congrArg Int32.toInt hv4584
        have x4585 := HI.eqI hI4576 (p := 231) (b := 17) (hv4584)
        obtain ⟨v4586, hv4586⟩ : ∃ v, gI g4575 231 23 = v := ⟨_, rfl⟩
        have rv4586 := RgF.at hI4576.2.1 (p := 231) (b := 23) rfl
        rw [hv4586] at rv4586
        dsimp only at rv4586
        have tv4586 := congrArg Int32.toInt hv4586
        have x4587 := HI.eqI hI4576 (p := 231) (b := 23) (hv4586)
        have y4588 : (gI _ 231 23).toInt ≤ (gI _ 231 23).toInt := hr4579.1
        have y4589 : (gI _ 231 17).toInt + (gI _ 231 23).toInt ≤ (gI _ 231 17).toInt + (gI _ 231 23).toInt := hr4579.2.1
        refine At.enter rfl ?_
        refine r_vret ?_
        have x4590 := HI.eqI hI4576 (p := 231) (b := 8) ((((hF4577.1 231 8 (by decide)).trans (hF4496.1 231 8 (by decide))).trans hv1))
        have x4591 := HI.eqI hI4576 (p := 231) (b := 9) (((hF4577.1 231 9 (by decide)).trans e4500))
        have x4592 := HI.eqI hI4576 (p := 231) (b := 10) (((hF4577.1 231 10 (by decide)).trans hv4530))
        have x4593 := HI.eqI hI4576 (p := 231) (b := 11) (((hF4577.1 231 11 (by decide)).trans hv4532))
        have x4594 := HI.eqJ hI4576 (b := 12) (((hF4577.2.2 231 12 (by decide)).trans hv4534))
        have x4595 := HI.eqI hI4576 (p := 231) (b := 14) (((hF4577.1 231 14 (by decide)).trans e4501))
        have x4596 := HI.eqI hI4576 (p := 231) (b := 17) (hv4584)
        have x4597 := HI.eqI hI4576 (p := 231) (b := 23) (hv4586)
        have x4598 := HI.eqI hI0 (p := 231) (b := 9) (hv2)
        have x4599 := HI.eqI hI0 (p := 231) (b := 17) (hv7)
        have w264600 := W26.cong q4513 hI4576 ((hF4577.1 231 9 (by decide))) ((hF4577.1 231 10 (by decide))) ((hF4577.1 231 11 (by decide))) ((hF4577.2.2 231 12 (by decide)))
        exact ⟨_, rfl, hI4576, hF4580, rfl, ⟨by omega, by omega, by omega, by omega, w264600, by omega, (fun hbad => ⟨by have y := (q4514 (by omega)).1; omega, (EXPR.of ((q4514 (by omega)).2.2.1 (by omega)) ((q4514 (by omega)).2.2.2.2 (by omega)) hr4579 (by omega) (by show 0 ≤ (gI _ 231 23).toInt; omega) (by show (gI _ 231 17).toInt ≤ 400; omega) rfl rfl rfl).2⟩)⟩⟩
      · have c4571_ : x4491.toInt ≠ 4 := en_i_eq_f c4571
        refine At.enter rfl ?_
        refine r_iload_n e4504 ?_
        refine r_ifs 36 rfl (fun c4601 => ?_) (fun c4601 => ?_)
        · have c4601_ : x4491.toInt ≠ 0 := en_k_ne_t c4601
          refine At.enter rfl ?_
          refine r_iload_n e4504 ?_
          refine r_iconst 1 rfl ?_
          refine r_ics 48 rfl (fun c4602 => ?_) (fun c4602 => ?_)
          · have c4602_ : x4491.toInt ≠ 1 := en_i_ne_t c4602
            refine At.enter rfl ?_
            refine r_iload_n e4504 ?_
            refine r_iconst 3 rfl ?_
            refine r_ics 60 rfl (fun c4603 => ?_) (fun c4603 => ?_)
            · have c4603_ : x4491.toInt ≠ 3 := en_i_ne_t c4603
              refine At.enter rfl ?_
              refine r_aload_n e4502 ?_
              have x4604 := HI.eqI hI4495 (p := 231) (b := 8) (((hF4496.1 231 8 (by decide)).trans hv1))
              have x4605 := HI.eqI hI4495 (p := 231) (b := 9) (e4500)
              have x4606 := HI.eqI hI4495 (p := 231) (b := 10) (hv4530)
              have x4607 := HI.eqI hI4495 (p := 231) (b := 11) (hv4532)
              have x4608 := HI.eqJ hI4495 (b := 12) (hv4534)
              have x4609 := HI.eqI hI4495 (p := 231) (b := 14) (e4501)
              have x4610 := HI.eqI hI4495 (p := 231) (b := 17) (hv4537)
              have x4611 := HI.eqI hI4495 (p := 231) (b := 23) (hv4539)
              have y4612 := (q4514 (by omega)).1
              refine r_callV 72 rfl [.ref 231] [] (Nat.le_of_ble_eq_true rfl) rfl (T_X11_behindTest_231 _ hI4495 (gI g0 231 17).toInt (pE g0 238) (pE g0 239) (by refine ⟨?_, ?_, ?_, ?_⟩ <;> omega) (by omega) (by omega) q4513 (PT.eq (q4514 (by omega)).2 (by omega))) ?_
              rintro _ _ ⟨g4613, rfl, hI4614, hF4615, v4616, rfl, hr4617⟩
              refine At.sti ?_
              have hF4618 := Fr.tr hF4496 hF4615 rfl rfl
              have x4619 := HI.eqI hI4495 (p := 231) (b := 9) (e4500)
              have x4620 := HI.eqI hI4614 (p := 231) (b := 8) ((((hF4615.1 231 8 (by decide)).trans (hF4496.1 231 8 (by decide))).trans hv1))
              obtain ⟨v4621, hv4621⟩ : ∃ v, gI g4613 231 9 = v := ⟨_, rfl⟩
              have rv4621 := RgF.at hI4614.2.1 (p := 231) (b := 9) rfl
              rw [hv4621] at rv4621
              dsimp only at rv4621
              have tv4621 := congrArg Int32.toInt hv4621
              have x4622 := HI.eqI hI4614 (p := 231) (b := 9) (hv4621)
              obtain ⟨v4623, hv4623⟩ : ∃ v, gI g4613 231 10 = v := ⟨_, rfl⟩
              have rv4623 := RgF.at hI4614.2.1 (p := 231) (b := 10) rfl
              rw [hv4623] at rv4623
              dsimp only at rv4623
              have tv4623 := congrArg Int32.toInt hv4623
              have x4624 := HI.eqI hI4614 (p := 231) (b := 10) (hv4623)
              obtain ⟨v4625, hv4625⟩ : ∃ v, gI g4613 231 11 = v := ⟨_, rfl⟩
              have tv4625 := congrArg Int32.toInt hv4625
              have x4626 := HI.eqI hI4614 (p := 231) (b := 11) (hv4625)
              obtain ⟨v4627, hv4627⟩ : ∃ v, gJ g4613 231 12 = v := ⟨_, rfl⟩
              have x4628 := HI.eqJ hI4614 (b := 12) (hv4627)
              obtain ⟨v4629, hv4629⟩ : ∃ v, gI g4613 231 14 = v := ⟨_, rfl⟩
              have tv4629 := congrArg Int32.toInt hv4629
              have x4630 := HI.eqI hI4614 (p := 231) (b := 14) (hv4629)
              obtain ⟨v4631, hv4631⟩ : ∃ v, gI g4613 231 17 = v := ⟨_, rfl⟩
              have rv4631 := RgF.at hI4614.2.1 (p := 231) (b := 17) rfl
              rw [hv4631] at rv4631
              dsimp only at rv4631
              have tv4631 := congrArg Int32.toInt hv4631
              have x4632 := HI.eqI hI4614 (p := 231) (b := 17) (hv4631)
              obtain ⟨v4633, hv4633⟩ : ∃ v, gI g4613 231 23 = v := ⟨_, rfl⟩
              have rv4633 := RgF.at hI4614.2.1 (p := 231) (b := 23) rfl
              rw [hv4633] at rv4633
              dsimp only at rv4633
              have tv4633 := congrArg Int32.toInt hv4633
              have x4634 := HI.eqI hI4614 (p := 231) (b := 23) (hv4633)
              obtain ⟨c4635, c4636, c4637, c4638, c4639, c4640, c4641, c4642, c4643⟩ := hr4617.2
              refine At.enter rfl ?_
              refine r_istore_n _ rfl ?_
              refine r_goto ?_
              have w4644 := tw_s x4491.toInt
              have w4645 := bw_s x4493.toInt
              have w4646 := tw_s v4616.toInt
              have w4647 := bw_s v4629.toInt
              have x4648 := HI.eqI hI4614 (p := 231) (b := 8) ((((hF4615.1 231 8 (by decide)).trans (hF4496.1 231 8 (by decide))).trans hv1))
              have x4649 := HI.eqI hI4614 (p := 231) (b := 9) (hv4621)
              have x4650 := HI.eqI hI4614 (p := 231) (b := 10) (hv4623)
              have x4651 := HI.eqI hI4614 (p := 231) (b := 11) (hv4625)
              have x4652 := HI.eqJ hI4614 (b := 12) (hv4627)
              have x4653 := HI.eqI hI4614 (p := 231) (b := 14) (hv4629)
              have x4654 := HI.eqI hI4614 (p := 231) (b := 17) (hv4631)
              have x4655 := HI.eqI hI4614 (p := 231) (b := 23) (hv4633)
              have y4656 := c4643
              unfold PRG at y4656
              have bv4657 := q_bnd v4629
              exact ih4499 (5 * (400 - v4621.toInt) + tw (v4616.toInt) + 10 * bw (v4629.toInt)) _ _ ⟨v4616, v4621, v4629, by first | rfl | omega, hI4614, hF4618, hv4621, hv4629, (w_p1 (by decide) (Or.inr rfl) e4502), (w_p1 (by decide) (Or.inr rfl) e4503), (w_e1 _ _ _), by omega, by omega, by omega, by omega, by omega, by omega, by omega, by omega, c4639, c4642⟩ ⟨by omega, by omega⟩
            · have c4603_ : x4491.toInt = 3 := en_i_ne_f c4603
              refine At.enter rfl ?_
              refine r_aload_n e4502 ?_
              refine r_iload_n e4503 ?_
              have x4658 := HI.eqI hI4495 (p := 231) (b := 8) (((hF4496.1 231 8 (by decide)).trans hv1))
              have x4659 := HI.eqI hI4495 (p := 231) (b := 9) (e4500)
              have x4660 := HI.eqI hI4495 (p := 231) (b := 10) (hv4530)
              have x4661 := HI.eqI hI4495 (p := 231) (b := 11) (hv4532)
              have x4662 := HI.eqJ hI4495 (b := 12) (hv4534)
              have x4663 := HI.eqI hI4495 (p := 231) (b := 14) (e4501)
              have x4664 := HI.eqI hI4495 (p := 231) (b := 17) (hv4537)
              have x4665 := HI.eqI hI4495 (p := 231) (b := 23) (hv4539)
              have y4666 := (q4514 (by omega)).1
              refine r_callV 65 rfl [.ref 231, .int a1] [] (Nat.le_of_ble_eq_true rfl) rfl (T_X11_behindSum_231 _ hI4495 a1 (by omega) (gI g0 231 17).toInt (pE g0 238) (pE g0 239) (by refine ⟨?_, ?_, ?_, ?_⟩ <;> omega) (by omega) (by omega) q4513 (PT.eq (q4514 (by omega)).2 (by omega))) ?_
              rintro _ _ ⟨g4667, rfl, hI4668, hF4669, v4670, rfl, hr4671⟩
              refine At.sti ?_
              have hF4672 := Fr.tr hF4496 hF4669 rfl rfl
              have x4673 := HI.eqI hI4495 (p := 231) (b := 9) (e4500)
              have x4674 := HI.eqI hI4668 (p := 231) (b := 8) ((((hF4669.1 231 8 (by decide)).trans (hF4496.1 231 8 (by decide))).trans hv1))
              obtain ⟨v4675, hv4675⟩ : ∃ v, gI g4667 231 9 = v := ⟨_, rfl⟩
              have rv4675 := RgF.at hI4668.2.1 (p := 231) (b := 9) rfl
              rw [hv4675] at rv4675
              dsimp only at rv4675
              have tv4675 := congrArg Int32.toInt hv4675
              have x4676 := HI.eqI hI4668 (p := 231) (b := 9) (hv4675)
              obtain ⟨v4677, hv4677⟩ : ∃ v, gI g4667 231 10 = v := ⟨_, rfl⟩
              have rv4677 := RgF.at hI4668.2.1 (p := 231) (b := 10) rfl
              rw [hv4677] at rv4677
              dsimp only at rv4677
              have tv4677 := congrArg Int32.toInt hv4677
              have x4678 := HI.eqI hI4668 (p := 231) (b := 10) (hv4677)
              obtain ⟨v4679, hv4679⟩ : ∃ v, gI g4667 231 11 = v := ⟨_, rfl⟩
              have tv4679 := congrArg Int32.toInt hv4679
              have x4680 := HI.eqI hI4668 (p := 231) (b := 11) (hv4679)
              obtain ⟨v4681, hv4681⟩ : ∃ v, gJ g4667 231 12 = v := ⟨_, rfl⟩
              have x4682 := HI.eqJ hI4668 (b := 12) (hv4681)
              obtain ⟨v4683, hv4683⟩ : ∃ v, gI g4667 231 14 = v := ⟨_, rfl⟩
              have tv4683 := congrArg Int32.toInt hv4683
              have x4684 := HI.eqI hI4668 (p := 231) (b := 14) (hv4683)
              obtain ⟨v4685, hv4685⟩ : ∃ v, gI g4667 231 17 = v := ⟨_, rfl⟩
              have rv4685 := RgF.at hI4668.2.1 (p := 231) (b := 17) rfl
              rw [hv4685] at rv4685
              dsimp only at rv4685
              have tv4685 := congrArg Int32.toInt hv4685
              have x4686 := HI.eqI hI4668 (p := 231) (b := 17) (hv4685)
              obtain ⟨v4687, hv4687⟩ : ∃ v, gI g4667 231 23 = v := ⟨_, rfl⟩
              have rv4687 := RgF.at hI4668.2.1 (p := 231) (b := 23) rfl
              rw [hv4687] at rv4687
              dsimp only at rv4687
              have tv4687 := congrArg Int32.toInt hv4687
              have x4688 := HI.eqI hI4668 (p := 231) (b := 23) (hv4687)
              obtain ⟨c4689, c4690, c4691, c4692, c4693, c4694, c4695, c4696, c4697⟩ := hr4671.2
              refine At.enter rfl ?_
              refine r_goto ?_
              refine At.enter rfl ?_
              refine r_istore_n _ rfl ?_
              refine r_goto ?_
              have w4698 := tw_s x4491.toInt
              have w4699 := bw_s x4493.toInt
              have w4700 := tw_s v4670.toInt
              have w4701 := bw_s v4683.toInt
              have x4702 := HI.eqI hI4668 (p := 231) (b := 8) ((((hF4669.1 231 8 (by decide)).trans (hF4496.1 231 8 (by decide))).trans hv1))
              have x4703 := HI.eqI hI4668 (p := 231) (b := 9) (hv4675)
              have x4704 := HI.eqI hI4668 (p := 231) (b := 10) (hv4677)
              have x4705 := HI.eqI hI4668 (p := 231) (b := 11) (hv4679)
              have x4706 := HI.eqJ hI4668 (b := 12) (hv4681)
              have x4707 := HI.eqI hI4668 (p := 231) (b := 14) (hv4683)
              have x4708 := HI.eqI hI4668 (p := 231) (b := 17) (hv4685)
              have x4709 := HI.eqI hI4668 (p := 231) (b := 23) (hv4687)
              have y4710 := c4697
              unfold PRG at y4710
              have bv4711 := q_bnd v4683
              exact ih4499 (5 * (400 - v4675.toInt) + tw (v4670.toInt) + 10 * bw (v4683.toInt)) _ _ ⟨v4670, v4675, v4683, by first | rfl | omega, hI4668, hF4672, hv4675, hv4683, (w_p1 (by decide) (Or.inr rfl) e4502), (w_p1 (by decide) (Or.inr rfl) e4503), (w_e1 _ _ _), by omega, by omega, by omega, by omega, by omega, by omega, by omega, by omega, c4693, c4696⟩ ⟨by omega, by omega⟩
          · have c4602_ : x4491.toInt = 1 := en_i_ne_f c4602
            refine At.enter rfl ?_
            refine r_aload_n e4502 ?_
            have x4712 := HI.eqI hI4495 (p := 231) (b := 8) (((hF4496.1 231 8 (by decide)).trans hv1))
            have x4713 := HI.eqI hI4495 (p := 231) (b := 9) (e4500)
            have x4714 := HI.eqI hI4495 (p := 231) (b := 10) (hv4530)
            have x4715 := HI.eqI hI4495 (p := 231) (b := 11) (hv4532)
            have x4716 := HI.eqJ hI4495 (b := 12) (hv4534)
            have x4717 := HI.eqI hI4495 (p := 231) (b := 14) (e4501)
            have x4718 := HI.eqI hI4495 (p := 231) (b := 17) (hv4537)
            have x4719 := HI.eqI hI4495 (p := 231) (b := 23) (hv4539)
            have y4720 := (q4514 (by omega)).1
            refine r_callV 52 rfl [.ref 231] [] (Nat.le_of_ble_eq_true rfl) rfl (T_X11_readPart_231 _ hI4495 (gI g0 231 17).toInt (pE g0 238) (pE g0 239) (by refine ⟨?_, ?_, ?_, ?_⟩ <;> omega) (by omega) (by omega) q4513 (PT.eq (q4514 (by omega)).2 (by omega))) ?_
            rintro _ _ ⟨g4721, rfl, hI4722, hF4723, v4724, rfl, hr4725⟩
            refine At.sti ?_
            have hF4726 := Fr.tr hF4496 hF4723 rfl rfl
            have x4727 := HI.eqI hI4495 (p := 231) (b := 9) (e4500)
            have x4728 := HI.eqI hI4722 (p := 231) (b := 8) ((((hF4723.1 231 8 (by decide)).trans (hF4496.1 231 8 (by decide))).trans hv1))
            obtain ⟨v4729, hv4729⟩ : ∃ v, gI g4721 231 9 = v := ⟨_, rfl⟩
            have rv4729 := RgF.at hI4722.2.1 (p := 231) (b := 9) rfl
            rw [hv4729] at rv4729
            dsimp only at rv4729
            have tv4729 := congrArg Int32.toInt hv4729
            have x4730 := HI.eqI hI4722 (p := 231) (b := 9) (hv4729)
            obtain ⟨v4731, hv4731⟩ : ∃ v, gI g4721 231 10 = v := ⟨_, rfl⟩
            have rv4731 := RgF.at hI4722.2.1 (p := 231) (b := 10) rfl
            rw [hv4731] at rv4731
            dsimp only at rv4731
            have tv4731 := congrArg Int32.toInt hv4731
            have x4732 := HI.eqI hI4722 (p := 231) (b := 10) (hv4731)
            obtain ⟨v4733, hv4733⟩ : ∃ v, gI g4721 231 11 = v := ⟨_, rfl⟩
            have tv4733 := congrArg Int32.toInt hv4733
            have x4734 := HI.eqI hI4722 (p := 231) (b := 11) (hv4733)
            obtain ⟨v4735, hv4735⟩ : ∃ v, gJ g4721 231 12 = v := ⟨_, rfl⟩
            have x4736 := HI.eqJ hI4722 (b := 12) (hv4735)
            obtain ⟨v4737, hv4737⟩ : ∃ v, gI g4721 231 14 = v := ⟨_, rfl⟩
            have tv4737 := congrArg Int32.toInt hv4737
            have x4738 := HI.eqI hI4722 (p := 231) (b := 14) (hv4737)
            obtain ⟨v4739, hv4739⟩ : ∃ v, gI g4721 231 17 = v := ⟨_, rfl⟩
            have rv4739 := RgF.at hI4722.2.1 (p := 231) (b := 17) rfl
            rw [hv4739] at rv4739
            dsimp only at rv4739
            have tv4739 := congrArg Int32.toInt hv4739
            have x4740 := HI.eqI hI4722 (p := 231) (b := 17) (hv4739)
            obtain ⟨v4741, hv4741⟩ : ∃ v, gI g4721 231 23 = v := ⟨_, rfl⟩
            have rv4741 := RgF.at hI4722.2.1 (p := 231) (b := 23) rfl
            rw [hv4741] at rv4741
            dsimp only at rv4741
            have tv4741 := congrArg Int32.toInt hv4741
            have x4742 := HI.eqI hI4722 (p := 231) (b := 23) (hv4741)
            obtain ⟨c4743, c4744, c4745, c4746, c4747, c4748, c4749, c4750, c4751⟩ := hr4725.2
            refine At.enter rfl ?_
            refine r_goto ?_
            refine At.enter rfl ?_
            refine r_istore_n _ rfl ?_
            refine r_goto ?_
            have w4752 := tw_s x4491.toInt
            have w4753 := bw_s x4493.toInt
            have w4754 := tw_s v4724.toInt
            have w4755 := bw_s v4737.toInt
            have x4756 := HI.eqI hI4722 (p := 231) (b := 8) ((((hF4723.1 231 8 (by decide)).trans (hF4496.1 231 8 (by decide))).trans hv1))
            have x4757 := HI.eqI hI4722 (p := 231) (b := 9) (hv4729)
            have x4758 := HI.eqI hI4722 (p := 231) (b := 10) (hv4731)
            have x4759 := HI.eqI hI4722 (p := 231) (b := 11) (hv4733)
            have x4760 := HI.eqJ hI4722 (b := 12) (hv4735)
            have x4761 := HI.eqI hI4722 (p := 231) (b := 14) (hv4737)
            have x4762 := HI.eqI hI4722 (p := 231) (b := 17) (hv4739)
            have x4763 := HI.eqI hI4722 (p := 231) (b := 23) (hv4741)
            have y4764 := c4751
            unfold PRG at y4764
            have bv4765 := q_bnd v4737
            exact ih4499 (5 * (400 - v4729.toInt) + tw (v4724.toInt) + 10 * bw (v4737.toInt)) _ _ ⟨v4724, v4729, v4737, by first | rfl | omega, hI4722, hF4726, hv4729, hv4737, (w_p1 (by decide) (Or.inr rfl) e4502), (w_p1 (by decide) (Or.inr rfl) e4503), (w_e1 _ _ _), by omega, by omega, by omega, by omega, by omega, by omega, by omega, by omega, c4747, c4750⟩ ⟨by omega, by omega⟩
        · have c4601_ : x4491.toInt = 0 := en_k_ne_f c4601
          refine At.enter rfl ?_
          refine r_aload_n e4502 ?_
          have x4766 := HI.eqI hI4495 (p := 231) (b := 8) (((hF4496.1 231 8 (by decide)).trans hv1))
          have x4767 := HI.eqI hI4495 (p := 231) (b := 9) (e4500)
          have x4768 := HI.eqI hI4495 (p := 231) (b := 10) (hv4530)
          have x4769 := HI.eqI hI4495 (p := 231) (b := 11) (hv4532)
          have x4770 := HI.eqJ hI4495 (b := 12) (hv4534)
          have x4771 := HI.eqI hI4495 (p := 231) (b := 14) (e4501)
          have x4772 := HI.eqI hI4495 (p := 231) (b := 17) (hv4537)
          have x4773 := HI.eqI hI4495 (p := 231) (b := 23) (hv4539)
          have y4774 := (q4514 (by omega)).1
          refine r_callV 40 rfl [.ref 231] [] (Nat.le_of_ble_eq_true rfl) rfl (T_X11_readPlain_231 _ hI4495 (gI g0 231 17).toInt (pE g0 238) (pE g0 239) (by refine ⟨?_, ?_, ?_, ?_⟩ <;> omega) (by omega) (by omega) q4513 (PT.eq (q4514 (by omega)).2 (by omega))) ?_
          rintro _ _ ⟨g4775, rfl, hI4776, hF4777, v4778, rfl, hr4779⟩
          refine At.sti ?_
          have hF4780 := Fr.tr hF4496 hF4777 rfl rfl
          have x4781 := HI.eqI hI4495 (p := 231) (b := 9) (e4500)
          have x4782 := HI.eqI hI4776 (p := 231) (b := 8) ((((hF4777.1 231 8 (by decide)).trans (hF4496.1 231 8 (by decide))).trans hv1))
          obtain ⟨v4783, hv4783⟩ : ∃ v, gI g4775 231 9 = v := ⟨_, rfl⟩
          have rv4783 := RgF.at hI4776.2.1 (p := 231) (b := 9) rfl
          rw [hv4783] at rv4783
          dsimp only at rv4783
          have tv4783 := congrArg Int32.toInt hv4783
          have x4784 := HI.eqI hI4776 (p := 231) (b := 9) (hv4783)
          obtain ⟨v4785, hv4785⟩ : ∃ v, gI g4775 231 10 = v := ⟨_, rfl⟩
          have rv4785 := RgF.at hI4776.2.1 (p := 231) (b := 10) rfl
          rw [hv4785] at rv4785
          dsimp only at rv4785
          have tv4785 := congrArg Int32.toInt hv4785
          have x4786 := HI.eqI hI4776 (p := 231) (b := 10) (hv4785)
          obtain ⟨v4787, hv4787⟩ : ∃ v, gI g4775 231 11 = v := ⟨_, rfl⟩
          have tv4787 := congrArg Int32.toInt hv4787
          have x4788 := HI.eqI hI4776 (p := 231) (b := 11) (hv4787)
          obtain ⟨v4789, hv4789⟩ : ∃ v, gJ g4775 231 12 = v := ⟨_, rfl⟩
          have x4790 := HI.eqJ hI4776 (b := 12) (hv4789)
          obtain ⟨v4791, hv4791⟩ : ∃ v, gI g4775 231 14 = v := ⟨_, rfl⟩
          have tv4791 := congrArg Int32.toInt hv4791
          have x4792 := HI.eqI hI4776 (p := 231) (b := 14) (hv4791)
          obtain ⟨v4793, hv4793⟩ : ∃ v, gI g4775 231 17 = v := ⟨_, rfl⟩
          have rv4793 := RgF.at hI4776.2.1 (p := 231) (b := 17) rfl
          rw [hv4793] at rv4793
          dsimp only at rv4793
          have tv4793 := congrArg Int32.toInt hv4793
          have x4794 := HI.eqI hI4776 (p := 231) (b := 17) (hv4793)
          obtain ⟨v4795, hv4795⟩ : ∃ v, gI g4775 231 23 = v := ⟨_, rfl⟩
          have rv4795 := RgF.at hI4776.2.1 (p := 231) (b := 23) rfl
          rw [hv4795] at rv4795
          dsimp only at rv4795
          have tv4795 := congrArg Int32.toInt hv4795
          have x4796 := HI.eqI hI4776 (p := 231) (b := 23) (hv4795)
          obtain ⟨c4797, c4798, c4799, c4800, c4801, c4802, c4803, c4804, c4805⟩ := hr4779.2
          refine At.enter rfl ?_
          refine r_goto ?_
          refine At.enter rfl ?_
          refine r_istore_n _ rfl ?_
          refine r_goto ?_
          have w4806 := tw_s x4491.toInt
          have w4807 := bw_s x4493.toInt
          have w4808 := tw_s v4778.toInt
          have w4809 := bw_s v4791.toInt
          have x4810 := HI.eqI hI4776 (p := 231) (b := 8) ((((hF4777.1 231 8 (by decide)).trans (hF4496.1 231 8 (by decide))).trans hv1))
          have x4811 := HI.eqI hI4776 (p := 231) (b := 9) (hv4783)
          have x4812 := HI.eqI hI4776 (p := 231) (b := 10) (hv4785)
          have x4813 := HI.eqI hI4776 (p := 231) (b := 11) (hv4787)
          have x4814 := HI.eqJ hI4776 (b := 12) (hv4789)
          have x4815 := HI.eqI hI4776 (p := 231) (b := 14) (hv4791)
          have x4816 := HI.eqI hI4776 (p := 231) (b := 17) (hv4793)
          have x4817 := HI.eqI hI4776 (p := 231) (b := 23) (hv4795)
          have y4818 := c4805
          unfold PRG at y4818
          have bv4819 := q_bnd v4791
          exact ih4499 (5 * (400 - v4783.toInt) + tw (v4778.toInt) + 10 * bw (v4791.toInt)) _ _ ⟨v4778, v4783, v4791, by first | rfl | omega, hI4776, hF4780, hv4783, hv4791, (w_p1 (by decide) (Or.inr rfl) e4502), (w_p1 (by decide) (Or.inr rfl) e4503), (w_e1 _ _ _), by omega, by omega, by omega, by omega, by omega, by omega, by omega, by omega, c4801, c4804⟩ ⟨by omega, by omega⟩
  · have c3815_ : a1.toInt ≠ 0 := en_k_eq_f c3815
    refine At.enter rfl ?_
    refine r_iconst 0 rfl ?_
    refine r_goto ?_
    refine At.enter rfl ?_
    refine r_istore_n ([(2, .int 0), (0, .ref 231), (1, .int a1)]) rfl ?_
    refine Ar.fall 20 rfl ?_
    have z_5558 : (0 : Int32).toInt = 0 := rfl
    have x5559 := HI.eqI hI3813 (p := 231) (b := 8) ((((gI_sI_ne (by decide)).trans (gI_sI_ne (by decide))).trans hv1))
    have x5560 := HI.eqI hI3813 (p := 231) (b := 9) ((((gI_sI_ne (by decide)).trans (gI_sI_ne (by decide))).trans hv2))
    have x5561 := HI.eqI hI3813 (p := 231) (b := 10) ((((gI_sI_ne (by decide)).trans (gI_sI_ne (by decide))).trans hv3))
    have x5562 := HI.eqI hI3813 (p := 231) (b := 11) ((((gI_sI_ne (by decide)).trans (gI_sI_ne (by decide))).trans hv4))
    have x5563 := HI.eqJ hI3813 (b := 12) ((((gJ_sI_ne (by decide)).trans (gJ_sI_ne (by decide))).trans hv5))
    have x5564 := HI.eqI hI3813 (p := 231) (b := 14) ((((gI_sI_ne (by decide)).trans (gI_sI_ne (by decide))).trans hv6))
    have x5565 := HI.eqI hI3813 (p := 231) (b := 17) ((((gI_sI_ne (by decide)).trans (gI_sI_ne (by decide))).trans hv7))
    have x5566 := HI.eqI hI3813 (p := 231) (b := 23) (((gI_sI_ne (by decide)).trans (gI_sI_eq hI0.1 kx_231 rfl _)))
    have zv5567 : (0 : Int32).toInt = 0 := rfl
    refine w_loopI (fun n_ l_ g_ => ∃ x5534 : Int32, ∃ x5535 : Int32, ∃ x5536 : Int32, n_ = 5 * (400 - x5535.toInt) + tw (x5534.toInt) + 10 * bw (x5536.toInt) ∧ HI g_ ∧ Fr F_X11_readExpression_231 A_X11_readExpression_231 g0 g_ ∧ gI g_ 231 9 = x5535 ∧ gI g_ 231 14 = x5536 ∧ en_get 0 l_ = some (.ref 231) ∧ en_get 1 l_ = some (.int a1) ∧ en_get 2 l_ = some (.int x5534) ∧ (0 ≤ x5534.toInt ∧ x5534.toInt ≤ 4) ∧ (0 ≤ x5535.toInt ∧ x5535.toInt ≤ 400) ∧ ((gI g_ 231 9).toInt ≤ (gI g_ 231 10).toInt) ∧ ((gI g_ 231 10).toInt ≤ (gI g_ 231 8).toInt) ∧ (0 ≤ (gI g_ 231 11).toInt) ∧ ((gI g_ 231 11).toInt ≤ 3 * ((gI g_ 231 10).toInt - (gI g_ 231 9).toInt)) ∧ ((gI g_ 231 17).toInt + (gI g_ 231 23).toInt ≤ 400) ∧ ((gI g0 231 9).toInt ≤ (gI g_ 231 9).toInt) ∧ (W26 g_) ∧ (TURN g_ (gI g0 231 17).toInt x5534.toInt (pE g0 238) (pE g0 239))) ?_ (5 * (400 - v2.toInt) + tw (0) + 10 * bw (v6.toInt)) ⟨0, v2, v6, by first | rfl | omega, hI3813, hF3814, (((gI_sI_ne (by decide)).trans (gI_sI_ne (by decide))).trans hv2), (((gI_sI_ne (by decide)).trans (gI_sI_ne (by decide))).trans hv6), rfl, rfl, rfl, by decide, by omega, by omega, by omega, by omega, by omega, by omega, by omega, (W26.cong hW hI3813 (((gI_sI_ne (by decide)).trans (gI_sI_ne (by decide)))) (((gI_sI_ne (by decide)).trans (gI_sI_ne (by decide)))) (((gI_sI_ne (by decide)).trans (gI_sI_ne (by decide)))) (((gJ_sI_ne (by decide)).trans (gJ_sI_ne (by decide))))), (fun _ => ⟨by omega, PT.start hI3813 (((gA_sI).trans (gA_sI))) (((gA_sI).trans (gA_sI))) (((gI_sI_ne (by decide)).trans (gI_sI_ne (by decide)))) (by show (gI _ 231 23).toInt = 0; omega) (by show 0 ≤ (gI _ 231 17).toInt; omega) (by omega)⟩)⟩
    rintro n5541 l5540 g5537 ⟨x5534, x5535, x5536, hm5568, hI5538, hF5539, e5543, e5544, e5545, e5546, e5547, r5548, r5549, q5550, q5551, q5552, q5553, q5554, q5555, q5556, q5557⟩ ih5542
    have tv5569 := congrArg Int32.toInt e5543
    have tv5570 := congrArg Int32.toInt e5544
    have x5571 := HI.eqI hI5538 (p := 231) (b := 8) (((hF5539.1 231 8 (by decide)).trans hv1))
    have x5572 := HI.eqI hI5538 (p := 231) (b := 9) (e5543)
    obtain ⟨v5573, hv5573⟩ : ∃ v, gI g5537 231 10 = v := ⟨_, rfl⟩
    have rv5573 := RgF.at hI5538.2.1 (p := 231) (b := 10) rfl
    rw [hv5573] at rv5573
    dsimp only at rv5573
    have tv5573 := congrArg Int32.toInt hv5573
    have x5574 := HI.eqI hI5538 (p := 231) (b := 10) (hv5573)
    obtain ⟨v5575, hv5575⟩ : ∃ v, gI g5537 231 11 = v := ⟨_, rfl⟩
    have tv5575 := congrArg Int32.toInt hv5575
    have x5576 := HI.eqI hI5538 (p := 231) (b := 11) (hv5575)
    obtain ⟨v5577, hv5577⟩ : ∃ v, gJ g5537 231 12 = v := ⟨_, rfl⟩
    have x5578 := HI.eqJ hI5538 (b := 12) (hv5577)
    have x5579 := HI.eqI hI5538 (p := 231) (b := 14) (e5544)
    obtain ⟨v5580, hv5580⟩ : ∃ v, gI g5537 231 17 = v := ⟨_, rfl⟩
    have rv5580 := RgF.at hI5538.2.1 (p := 231) (b := 17) rfl
    rw [hv5580] at rv5580
    dsimp only at rv5580
    have tv5580 := congrArg Int32.toInt hv5580
    have x5581 := HI.eqI hI5538 (p := 231) (b := 17) (hv5580)
    obtain ⟨v5582, hv5582⟩ : ∃ v, gI g5537 231 23 = v := ⟨_, rfl⟩
    have rv5582 := RgF.at hI5538.2.1 (p := 231) (b := 23) rfl
    rw [hv5582] at rv5582
    dsimp only at rv5582
    have tv5582 := congrArg Int32.toInt hv5582
    have x5583 := HI.eqI hI5538 (p := 231) (b := 23) (hv5582)
    refine At.enter rfl ?_
    refine r_aload_n e5545 ?_
    refine q_getI (Sh.int hI5538.1 kx_231 rfl) x5536 e5544 ?_
    refine r_ifs 27 rfl (fun c5584 => ?_) (fun c5584 => ?_)
    · have c5584_ : x5536.toInt ≠ 0 := en_k_ne_t c5584
      refine At.enter rfl ?_
      refine r_aload_n e5545 ?_
      refine r_iconst 1 rfl ?_
      have x5585 := HI.eqI hI5538 (p := 231) (b := 17) (hv5580)
      have x5586 := HI.eqI hI5538 (p := 231) (b := 23) (hv5582)
      have zv5587 : (1 : Int32).toInt = 1 := rfl
      refine r_callV 81 rfl [.ref 231, .int 1] [] (Nat.le_of_ble_eq_true rfl) rfl (T_X11_settle_231 _ hI5538 1 (by decide) (by omega)) ?_
      rintro _ _ ⟨g5588, rfl, hI5589, hF5590, rfl, hr5592⟩
      refine At.stn ?_
      have hF5593 := Fr.tr hF5539 hF5590 rfl rfl
      have zv5594 : (1 : Int32).toInt = 1 := rfl
      have x5595 := HI.eqI hI5538 (p := 231) (b := 17) (hv5580)
      have x5596 := HI.eqI hI5538 (p := 231) (b := 23) (hv5582)
      obtain ⟨v5597, hv5597⟩ : ∃ v, gI g5588 231 17 = v := ⟨_, rfl⟩
      have rv5597 := RgF.at hI5589.2.1 (p := 231) (b := 17) rfl
      rw [hv5597] at rv5597
      dsimp only at rv5597
      have tv5597 := congrArg Int32.toInt hv5597
      have x5598 := HI.eqI hI5589 (p := 231) (b := 17) (hv5597)
      obtain ⟨v5599, hv5599⟩ : ∃ v, gI g5588 231 23 = v := ⟨_, rfl⟩
      have rv5599 := RgF.at hI5589.2.1 (p := 231) (b := 23) rfl
      rw [hv5599] at rv5599
      dsimp only at rv5599
      have tv5599 := congrArg Int32.toInt hv5599
      have x5600 := HI.eqI hI5589 (p := 231) (b := 23) (hv5599)
      have y5601 : (gI _ 231 23).toInt ≤ (gI _ 231 23).toInt := hr5592.1
      have y5602 : (gI _ 231 17).toInt + (gI _ 231 23).toInt ≤ (gI _ 231 17).toInt + (gI _ 231 23).toInt := hr5592.2.1
      refine At.enter rfl ?_
      refine r_vret ?_
      have x5603 := HI.eqI hI5589 (p := 231) (b := 8) ((((hF5590.1 231 8 (by decide)).trans (hF5539.1 231 8 (by decide))).trans hv1))
      have x5604 := HI.eqI hI5589 (p := 231) (b := 9) (((hF5590.1 231 9 (by decide)).trans e5543))
      have x5605 := HI.eqI hI5589 (p := 231) (b := 10) (((hF5590.1 231 10 (by decide)).trans hv5573))
      have x5606 := HI.eqI hI5589 (p := 231) (b := 11) (((hF5590.1 231 11 (by decide)).trans hv5575))
      have x5607 := HI.eqJ hI5589 (b := 12) (((hF5590.2.2 231 12 (by decide)).trans hv5577))
      have x5608 := HI.eqI hI5589 (p := 231) (b := 14) (((hF5590.1 231 14 (by decide)).trans e5544))
      have x5609 := HI.eqI hI5589 (p := 231) (b := 17) (hv5597)
      have x5610 := HI.eqI hI5589 (p := 231) (b := 23) (hv5599)
      have x5611 := HI.eqI hI0 (p := 231) (b := 9) (hv2)
      have x5612 := HI.eqI hI0 (p := 231) (b := 17) (hv7)
      have w265613 := W26.cong q5556 hI5589 ((hF5590.1 231 9 (by decide))) ((hF5590.1 231 10 (by decide))) ((hF5590.1 231 11 (by decide))) ((hF5590.2.2 231 12 (by decide)))
      exact ⟨_, rfl, hI5589, hF5593, rfl, ⟨by omega, by omega, by omega, by omega, w265613, by omega, (fun hbad => False.elim (by omega))⟩⟩
    · have c5584_ : x5536.toInt = 0 := en_k_ne_f c5584
      refine At.enter rfl ?_
      refine r_iload_n e5547 ?_
      refine r_iconst 4 rfl ?_
      refine r_ics 32 rfl (fun c5614 => ?_) (fun c5614 => ?_)
      · have c5614_ : x5534.toInt = 4 := en_i_eq_t c5614
        refine At.enter rfl ?_
        refine r_aload_n e5545 ?_
        refine r_iconst 1 rfl ?_
        have x5615 := HI.eqI hI5538 (p := 231) (b := 17) (hv5580)
        have x5616 := HI.eqI hI5538 (p := 231) (b := 23) (hv5582)
        have zv5617 : (1 : Int32).toInt = 1 := rfl
        refine r_callV 81 rfl [.ref 231, .int 1] [] (Nat.le_of_ble_eq_true rfl) rfl (T_X11_settle_231 _ hI5538 1 (by decide) (by omega)) ?_
        rintro _ _ ⟨g5618, rfl, hI5619, hF5620, rfl, hr5622⟩
        refine At.stn ?_
        have hF5623 := Fr.tr hF5539 hF5620 rfl rfl
        have zv5624 : (1 : Int32).toInt = 1 := rfl
        have x5625 := HI.eqI hI5538 (p := 231) (b := 17) (hv5580)
        have x5626 := HI.eqI hI5538 (p := 231) (b := 23) (hv5582)
        obtain ⟨v5627, hv5627⟩ : ∃ v, gI g5618 231 17 = v := ⟨_, rfl⟩
        have rv5627 := RgF.at hI5619.2.1 (p := 231) (b := 17) rfl
        rw [hv5627] at rv5627
        dsimp only at rv5627
        have tv5627 := congrArg Int32.toInt hv5627
        have x5628 := HI.eqI hI5619 (p := 231) (b := 17) (hv5627)
        obtain ⟨v5629, hv5629⟩ : ∃ v, gI g5618 231 23 = v := ⟨_, rfl⟩
        have rv5629 := RgF.at hI5619.2.1 (p := 231) (b := 23) rfl
        rw [hv5629] at rv5629
        dsimp only at rv5629
        have tv5629 := congrArg Int32.toInt hv5629
        have x5630 := HI.eqI hI5619 (p := 231) (b := 23) (hv5629)
        have y5631 : (gI _ 231 23).toInt ≤ (gI _ 231 23).toInt := hr5622.1
        have y5632 : (gI _ 231 17).toInt + (gI _ 231 23).toInt ≤ (gI _ 231 17).toInt + (gI _ 231 23).toInt := hr5622.2.1
        refine At.enter rfl ?_
        refine r_vret ?_
        have x5633 := HI.eqI hI5619 (p := 231) (b := 8) ((((hF5620.1 231 8 (by decide)).trans (hF5539.1 231 8 (by decide))).trans hv1))
        have x5634 := HI.eqI hI5619 (p := 231) (b := 9) (((hF5620.1 231 9 (by decide)).trans e5543))
        have x5635 := HI.eqI hI5619 (p := 231) (b := 10) (((hF5620.1 231 10 (by decide)).trans hv5573))
        have x5636 := HI.eqI hI5619 (p := 231) (b := 11) (((hF5620.1 231 11 (by decide)).trans hv5575))
        have x5637 := HI.eqJ hI5619 (b := 12) (((hF5620.2.2 231 12 (by decide)).trans hv5577))
        have x5638 := HI.eqI hI5619 (p := 231) (b := 14) (((hF5620.1 231 14 (by decide)).trans e5544))
        have x5639 := HI.eqI hI5619 (p := 231) (b := 17) (hv5627)
        have x5640 := HI.eqI hI5619 (p := 231) (b := 23) (hv5629)
        have x5641 := HI.eqI hI0 (p := 231) (b := 9) (hv2)
        have x5642 := HI.eqI hI0 (p := 231) (b := 17) (hv7)
        have w265643 := W26.cong q5556 hI5619 ((hF5620.1 231 9 (by decide))) ((hF5620.1 231 10 (by decide))) ((hF5620.1 231 11 (by decide))) ((hF5620.2.2 231 12 (by decide)))
        exact ⟨_, rfl, hI5619, hF5623, rfl, ⟨by omega, by omega, by omega, by omega, w265643, by omega, (fun hbad => ⟨by have y := (q5557 (by omega)).1; omega, (EXPR.of ((q5557 (by omega)).2.2.1 (by omega)) ((q5557 (by omega)).2.2.2.2 (by omega)) hr5622 (by omega) (by show 0 ≤ (gI _ 231 23).toInt; omega) (by show (gI _ 231 17).toInt ≤ 400; omega) rfl rfl rfl).2⟩)⟩⟩
      · have c5614_ : x5534.toInt ≠ 4 := en_i_eq_f c5614
        refine At.enter rfl ?_
        refine r_iload_n e5547 ?_
        refine r_ifs 36 rfl (fun c5644 => ?_) (fun c5644 => ?_)
        · have c5644_ : x5534.toInt ≠ 0 := en_k_ne_t c5644
          refine At.enter rfl ?_
          refine r_iload_n e5547 ?_
          refine r_iconst 1 rfl ?_
          refine r_ics 48 rfl (fun c5645 => ?_) (fun c5645 => ?_)
          · have c5645_ : x5534.toInt ≠ 1 := en_i_ne_t c5645
            refine At.enter rfl ?_
            refine r_iload_n e5547 ?_
            refine r_iconst 3 rfl ?_
            refine r_ics 60 rfl (fun c5646 => ?_) (fun c5646 => ?_)
            · have c5646_ : x5534.toInt ≠ 3 := en_i_ne_t c5646
              refine At.enter rfl ?_
              refine r_aload_n e5545 ?_
              have x5647 := HI.eqI hI5538 (p := 231) (b := 8) (((hF5539.1 231 8 (by decide)).trans hv1))
              have x5648 := HI.eqI hI5538 (p := 231) (b := 9) (e5543)
              have x5649 := HI.eqI hI5538 (p := 231) (b := 10) (hv5573)
              have x5650 := HI.eqI hI5538 (p := 231) (b := 11) (hv5575)
              have x5651 := HI.eqJ hI5538 (b := 12) (hv5577)
              have x5652 := HI.eqI hI5538 (p := 231) (b := 14) (e5544)
              have x5653 := HI.eqI hI5538 (p := 231) (b := 17) (hv5580)
              have x5654 := HI.eqI hI5538 (p := 231) (b := 23) (hv5582)
              have y5655 := (q5557 (by omega)).1
              refine r_callV 72 rfl [.ref 231] [] (Nat.le_of_ble_eq_true rfl) rfl (T_X11_behindTest_231 _ hI5538 (gI g0 231 17).toInt (pE g0 238) (pE g0 239) (by refine ⟨?_, ?_, ?_, ?_⟩ <;> omega) (by omega) (by omega) q5556 (PT.eq (q5557 (by omega)).2 (by omega))) ?_
              rintro _ _ ⟨g5656, rfl, hI5657, hF5658, v5659, rfl, hr5660⟩
              refine At.sti ?_
              have hF5661 := Fr.tr hF5539 hF5658 rfl rfl
              have x5662 := HI.eqI hI5538 (p := 231) (b := 9) (e5543)
              have x5663 := HI.eqI hI5657 (p := 231) (b := 8) ((((hF5658.1 231 8 (by decide)).trans (hF5539.1 231 8 (by decide))).trans hv1))
              obtain ⟨v5664, hv5664⟩ : ∃ v, gI g5656 231 9 = v := ⟨_, rfl⟩
              have rv5664 := RgF.at hI5657.2.1 (p := 231) (b := 9) rfl
              rw [hv5664] at rv5664
              dsimp only at rv5664
              have tv5664 := congrArg Int32.toInt hv5664
              have x5665 := HI.eqI hI5657 (p := 231) (b := 9) (hv5664)
              obtain ⟨v5666, hv5666⟩ : ∃ v, gI g5656 231 10 = v := ⟨_, rfl⟩
              have rv5666 := RgF.at hI5657.2.1 (p := 231) (b := 10) rfl
              rw [hv5666] at rv5666
              dsimp only at rv5666
              have tv5666 := congrArg Int32.toInt hv5666
              have x5667 := HI.eqI hI5657 (p := 231) (b := 10) (hv5666)
              obtain ⟨v5668, hv5668⟩ : ∃ v, gI g5656 231 11 = v := ⟨_, rfl⟩
              have tv5668 := congrArg Int32.toInt hv5668
              have x5669 := HI.eqI hI5657 (p := 231) (b := 11) (hv5668)
              obtain ⟨v5670, hv5670⟩ : ∃ v, gJ g5656 231 12 = v := ⟨_, rfl⟩
              have x5671 := HI.eqJ hI5657 (b := 12) (hv5670)
              obtain ⟨v5672, hv5672⟩ : ∃ v, gI g5656 231 14 = v := ⟨_, rfl⟩
              have tv5672 := congrArg Int32.toInt hv5672
              have x5673 := HI.eqI hI5657 (p := 231) (b := 14) (hv5672)
              obtain ⟨v5674, hv5674⟩ : ∃ v, gI g5656 231 17 = v := ⟨_, rfl⟩
              have rv5674 := RgF.at hI5657.2.1 (p := 231) (b := 17) rfl
              rw [hv5674] at rv5674
              dsimp only at rv5674
              have tv5674 := congrArg Int32.toInt hv5674
              have x5675 := HI.eqI hI5657 (p := 231) (b := 17) (hv5674)
              obtain ⟨v5676, hv5676⟩ : ∃ v, gI g5656 231 23 = v := ⟨_, rfl⟩
              have rv5676 := RgF.at hI5657.2.1 (p := 231) (b := 23) rfl
              rw [hv5676] at rv5676
              dsimp only at rv5676
              have tv5676 := congrArg Int32.toInt hv5676
              have x5677 := HI.eqI hI5657 (p := 231) (b := 23) (hv5676)
              obtain ⟨c5678, c5679, c5680, c5681, c5682, c5683, c5684, c5685, c5686⟩ := hr5660.2
              refine At.enter rfl ?_
              refine r_istore_n _ rfl ?_
              refine r_goto ?_
              have w5687 := tw_s x5534.toInt
              have w5688 := bw_s x5536.toInt
              have w5689 := tw_s v5659.toInt
              have w5690 := bw_s v5672.toInt
              have x5691 := HI.eqI hI5657 (p := 231) (b := 8) ((((hF5658.1 231 8 (by decide)).trans (hF5539.1 231 8 (by decide))).trans hv1))
              have x5692 := HI.eqI hI5657 (p := 231) (b := 9) (hv5664)
              have x5693 := HI.eqI hI5657 (p := 231) (b := 10) (hv5666)
              have x5694 := HI.eqI hI5657 (p := 231) (b := 11) (hv5668)
              have x5695 := HI.eqJ hI5657 (b := 12) (hv5670)
              have x5696 := HI.eqI hI5657 (p := 231) (b := 14) (hv5672)
              have x5697 := HI.eqI hI5657 (p := 231) (b := 17) (hv5674)
              have x5698 := HI.eqI hI5657 (p := 231) (b := 23) (hv5676)
              have y5699 := c5686
              unfold PRG at y5699
              have bv5700 := q_bnd v5672
              exact ih5542 (5 * (400 - v5664.toInt) + tw (v5659.toInt) + 10 * bw (v5672.toInt)) _ _ ⟨v5659, v5664, v5672, by first | rfl | omega, hI5657, hF5661, hv5664, hv5672, (w_p1 (by decide) (Or.inr rfl) e5545), (w_p1 (by decide) (Or.inr rfl) e5546), (w_e1 _ _ _), by omega, by omega, by omega, by omega, by omega, by omega, by omega, by omega, c5682, c5685⟩ ⟨by omega, by omega⟩
            · have c5646_ : x5534.toInt = 3 := en_i_ne_f c5646
              refine At.enter rfl ?_
              refine r_aload_n e5545 ?_
              refine r_iload_n e5546 ?_
              have x5701 := HI.eqI hI5538 (p := 231) (b := 8) (((hF5539.1 231 8 (by decide)).trans hv1))
              have x5702 := HI.eqI hI5538 (p := 231) (b := 9) (e5543)
              have x5703 := HI.eqI hI5538 (p := 231) (b := 10) (hv5573)
              have x5704 := HI.eqI hI5538 (p := 231) (b := 11) (hv5575)
              have x5705 := HI.eqJ hI5538 (b := 12) (hv5577)
              have x5706 := HI.eqI hI5538 (p := 231) (b := 14) (e5544)
              have x5707 := HI.eqI hI5538 (p := 231) (b := 17) (hv5580)
              have x5708 := HI.eqI hI5538 (p := 231) (b := 23) (hv5582)
              have y5709 := (q5557 (by omega)).1
              refine r_callV 65 rfl [.ref 231, .int a1] [] (Nat.le_of_ble_eq_true rfl) rfl (T_X11_behindSum_231 _ hI5538 a1 (by omega) (gI g0 231 17).toInt (pE g0 238) (pE g0 239) (by refine ⟨?_, ?_, ?_, ?_⟩ <;> omega) (by omega) (by omega) q5556 (PT.eq (q5557 (by omega)).2 (by omega))) ?_
              rintro _ _ ⟨g5710, rfl, hI5711, hF5712, v5713, rfl, hr5714⟩
              refine At.sti ?_
              have hF5715 := Fr.tr hF5539 hF5712 rfl rfl
              have x5716 := HI.eqI hI5538 (p := 231) (b := 9) (e5543)
              have x5717 := HI.eqI hI5711 (p := 231) (b := 8) ((((hF5712.1 231 8 (by decide)).trans (hF5539.1 231 8 (by decide))).trans hv1))
              obtain ⟨v5718, hv5718⟩ : ∃ v, gI g5710 231 9 = v := ⟨_, rfl⟩
              have rv5718 := RgF.at hI5711.2.1 (p := 231) (b := 9) rfl
              rw [hv5718] at rv5718
              dsimp only at rv5718
              have tv5718 := congrArg Int32.toInt hv5718
              have x5719 := HI.eqI hI5711 (p := 231) (b := 9) (hv5718)
              obtain ⟨v5720, hv5720⟩ : ∃ v, gI g5710 231 10 = v := ⟨_, rfl⟩
              have rv5720 := RgF.at hI5711.2.1 (p := 231) (b := 10) rfl
              rw [hv5720] at rv5720
              dsimp only at rv5720
              have tv5720 := congrArg Int32.toInt hv5720
              have x5721 := HI.eqI hI5711 (p := 231) (b := 10) (hv5720)
              obtain ⟨v5722, hv5722⟩ : ∃ v, gI g5710 231 11 = v := ⟨_, rfl⟩
              have tv5722 := congrArg Int32.toInt hv5722
              have x5723 := HI.eqI hI5711 (p := 231) (b := 11) (hv5722)
              obtain ⟨v5724, hv5724⟩ : ∃ v, gJ g5710 231 12 = v := ⟨_, rfl⟩
              have x5725 := HI.eqJ hI5711 (b := 12) (hv5724)
              obtain ⟨v5726, hv5726⟩ : ∃ v, gI g5710 231 14 = v := ⟨_, rfl⟩
              have tv5726 := congrArg Int32.toInt hv5726
              have x5727 := HI.eqI hI5711 (p := 231) (b := 14) (hv5726)
              obtain ⟨v5728, hv5728⟩ : ∃ v, gI g5710 231 17 = v := ⟨_, rfl⟩
              have rv5728 := RgF.at hI5711.2.1 (p := 231) (b := 17) rfl
              rw [hv5728] at rv5728
              dsimp only at rv5728
              have tv5728 := congrArg Int32.toInt hv5728
              have x5729 := HI.eqI hI5711 (p := 231) (b := 17) (hv5728)
              obtain ⟨v5730, hv5730⟩ : ∃ v, gI g5710 231 23 = v := ⟨_, rfl⟩
              have rv5730 := RgF.at hI5711.2.1 (p := 231) (b := 23) rfl
              rw [hv5730] at rv5730
              dsimp only at rv5730
              have tv5730 := congrArg Int32.toInt hv5730
              have x5731 := HI.eqI hI5711 (p := 231) (b := 23) (hv5730)
              obtain ⟨c5732, c5733, c5734, c5735, c5736, c5737, c5738, c5739, c5740⟩ := hr5714.2
              refine At.enter rfl ?_
              refine r_goto ?_
              refine At.enter rfl ?_
              refine r_istore_n _ rfl ?_
              refine r_goto ?_
              have w5741 := tw_s x5534.toInt
              have w5742 := bw_s x5536.toInt
              have w5743 := tw_s v5713.toInt
              have w5744 := bw_s v5726.toInt
              have x5745 := HI.eqI hI5711 (p := 231) (b := 8) ((((hF5712.1 231 8 (by decide)).trans (hF5539.1 231 8 (by decide))).trans hv1))
              have x5746 := HI.eqI hI5711 (p := 231) (b := 9) (hv5718)
              have x5747 := HI.eqI hI5711 (p := 231) (b := 10) (hv5720)
              have x5748 := HI.eqI hI5711 (p := 231) (b := 11) (hv5722)
              have x5749 := HI.eqJ hI5711 (b := 12) (hv5724)
              have x5750 := HI.eqI hI5711 (p := 231) (b := 14) (hv5726)
              have x5751 := HI.eqI hI5711 (p := 231) (b := 17) (hv5728)
              have x5752 := HI.eqI hI5711 (p := 231) (b := 23) (hv5730)
              have y5753 := c5740
              unfold PRG at y5753
              have bv5754 := q_bnd v5726
              exact ih5542 (5 * (400 - v5718.toInt) + tw (v5713.toInt) + 10 * bw (v5726.toInt)) _ _ ⟨v5713, v5718, v5726, by first | rfl | omega, hI5711, hF5715, hv5718, hv5726, (w_p1 (by decide) (Or.inr rfl) e5545), (w_p1 (by decide) (Or.inr rfl) e5546), (w_e1 _ _ _), by omega, by omega, by omega, by omega, by omega, by omega, by omega, by omega, c5736, c5739⟩ ⟨by omega, by omega⟩
          · have c5645_ : x5534.toInt = 1 := en_i_ne_f c5645
            refine At.enter rfl ?_
            refine r_aload_n e5545 ?_
            have x5755 := HI.eqI hI5538 (p := 231) (b := 8) (((hF5539.1 231 8 (by decide)).trans hv1))
            have x5756 := HI.eqI hI5538 (p := 231) (b := 9) (e5543)
            have x5757 := HI.eqI hI5538 (p := 231) (b := 10) (hv5573)
            have x5758 := HI.eqI hI5538 (p := 231) (b := 11) (hv5575)
            have x5759 := HI.eqJ hI5538 (b := 12) (hv5577)
            have x5760 := HI.eqI hI5538 (p := 231) (b := 14) (e5544)
            have x5761 := HI.eqI hI5538 (p := 231) (b := 17) (hv5580)
            have x5762 := HI.eqI hI5538 (p := 231) (b := 23) (hv5582)
            have y5763 := (q5557 (by omega)).1
            refine r_callV 52 rfl [.ref 231] [] (Nat.le_of_ble_eq_true rfl) rfl (T_X11_readPart_231 _ hI5538 (gI g0 231 17).toInt (pE g0 238) (pE g0 239) (by refine ⟨?_, ?_, ?_, ?_⟩ <;> omega) (by omega) (by omega) q5556 (PT.eq (q5557 (by omega)).2 (by omega))) ?_
            rintro _ _ ⟨g5764, rfl, hI5765, hF5766, v5767, rfl, hr5768⟩
            refine At.sti ?_
            have hF5769 := Fr.tr hF5539 hF5766 rfl rfl
            have x5770 := HI.eqI hI5538 (p := 231) (b := 9) (e5543)
            have x5771 := HI.eqI hI5765 (p := 231) (b := 8) ((((hF5766.1 231 8 (by decide)).trans (hF5539.1 231 8 (by decide))).trans hv1))
            obtain ⟨v5772, hv5772⟩ : ∃ v, gI g5764 231 9 = v := ⟨_, rfl⟩
            have rv5772 := RgF.at hI5765.2.1 (p := 231) (b := 9) rfl
            rw [hv5772] at rv5772
            dsimp only at rv5772
            have tv5772 := congrArg Int32.toInt hv5772
            have x5773 := HI.eqI hI5765 (p := 231) (b := 9) (hv5772)
            obtain ⟨v5774, hv5774⟩ : ∃ v, gI g5764 231 10 = v := ⟨_, rfl⟩
            have rv5774 := RgF.at hI5765.2.1 (p := 231) (b := 10) rfl
            rw [hv5774] at rv5774
            dsimp only at rv5774
            have tv5774 := congrArg Int32.toInt hv5774
            have x5775 := HI.eqI hI5765 (p := 231) (b := 10) (hv5774)
            obtain ⟨v5776, hv5776⟩ : ∃ v, gI g5764 231 11 = v := ⟨_, rfl⟩
            have tv5776 := congrArg Int32.toInt hv5776
            have x5777 := HI.eqI hI5765 (p := 231) (b := 11) (hv5776)
            obtain ⟨v5778, hv5778⟩ : ∃ v, gJ g5764 231 12 = v := ⟨_, rfl⟩
            have x5779 := HI.eqJ hI5765 (b := 12) (hv5778)
            obtain ⟨v5780, hv5780⟩ : ∃ v, gI g5764 231 14 = v := ⟨_, rfl⟩
            have tv5780 := congrArg Int32.toInt hv5780
            have x5781 := HI.eqI hI5765 (p := 231) (b := 14) (hv5780)
            obtain ⟨v5782, hv5782⟩ : ∃ v, gI g5764 231 17 = v := ⟨_, rfl⟩
            have rv5782 := RgF.at hI5765.2.1 (p := 231) (b := 17) rfl
            rw [hv5782] at rv5782
            dsimp only at rv5782
            have tv5782 := congrArg Int32.toInt hv5782
            have x5783 := HI.eqI hI5765 (p := 231) (b := 17) (hv5782)
            obtain ⟨v5784, hv5784⟩ : ∃ v, gI g5764 231 23 = v := ⟨_, rfl⟩
            have rv5784 := RgF.at hI5765.2.1 (p := 231) (b := 23) rfl
            rw [hv5784] at rv5784
            dsimp only at rv5784
            have tv5784 := congrArg Int32.toInt hv5784
            have x5785 := HI.eqI hI5765 (p := 231) (b := 23) (hv5784)
            obtain ⟨c5786, c5787, c5788, c5789, c5790, c5791, c5792, c5793, c5794⟩ := hr5768.2
            refine At.enter rfl ?_
            refine r_goto ?_
            refine At.enter rfl ?_
            refine r_istore_n _ rfl ?_
            refine r_goto ?_
            have w5795 := tw_s x5534.toInt
            have w5796 := bw_s x5536.toInt
            have w5797 := tw_s v5767.toInt
            have w5798 := bw_s v5780.toInt
            have x5799 := HI.eqI hI5765 (p := 231) (b := 8) ((((hF5766.1 231 8 (by decide)).trans (hF5539.1 231 8 (by decide))).trans hv1))
            have x5800 := HI.eqI hI5765 (p := 231) (b := 9) (hv5772)
            have x5801 := HI.eqI hI5765 (p := 231) (b := 10) (hv5774)
            have x5802 := HI.eqI hI5765 (p := 231) (b := 11) (hv5776)
            have x5803 := HI.eqJ hI5765 (b := 12) (hv5778)
            have x5804 := HI.eqI hI5765 (p := 231) (b := 14) (hv5780)
            have x5805 := HI.eqI hI5765 (p := 231) (b := 17) (hv5782)
            have x5806 := HI.eqI hI5765 (p := 231) (b := 23) (hv5784)
            have y5807 := c5794
            unfold PRG at y5807
            have bv5808 := q_bnd v5780
            exact ih5542 (5 * (400 - v5772.toInt) + tw (v5767.toInt) + 10 * bw (v5780.toInt)) _ _ ⟨v5767, v5772, v5780, by first | rfl | omega, hI5765, hF5769, hv5772, hv5780, (w_p1 (by decide) (Or.inr rfl) e5545), (w_p1 (by decide) (Or.inr rfl) e5546), (w_e1 _ _ _), by omega, by omega, by omega, by omega, by omega, by omega, by omega, by omega, c5790, c5793⟩ ⟨by omega, by omega⟩
        · have c5644_ : x5534.toInt = 0 := en_k_ne_f c5644
          refine At.enter rfl ?_
          refine r_aload_n e5545 ?_
          have x5809 := HI.eqI hI5538 (p := 231) (b := 8) (((hF5539.1 231 8 (by decide)).trans hv1))
          have x5810 := HI.eqI hI5538 (p := 231) (b := 9) (e5543)
          have x5811 := HI.eqI hI5538 (p := 231) (b := 10) (hv5573)
          have x5812 := HI.eqI hI5538 (p := 231) (b := 11) (hv5575)
          have x5813 := HI.eqJ hI5538 (b := 12) (hv5577)
          have x5814 := HI.eqI hI5538 (p := 231) (b := 14) (e5544)
          have x5815 := HI.eqI hI5538 (p := 231) (b := 17) (hv5580)
          have x5816 := HI.eqI hI5538 (p := 231) (b := 23) (hv5582)
          have y5817 := (q5557 (by omega)).1
          refine r_callV 40 rfl [.ref 231] [] (Nat.le_of_ble_eq_true rfl) rfl (T_X11_readPlain_231 _ hI5538 (gI g0 231 17).toInt (pE g0 238) (pE g0 239) (by refine ⟨?_, ?_, ?_, ?_⟩ <;> omega) (by omega) (by omega) q5556 (PT.eq (q5557 (by omega)).2 (by omega))) ?_
          rintro _ _ ⟨g5818, rfl, hI5819, hF5820, v5821, rfl, hr5822⟩
          refine At.sti ?_
          have hF5823 := Fr.tr hF5539 hF5820 rfl rfl
          have x5824 := HI.eqI hI5538 (p := 231) (b := 9) (e5543)
          have x5825 := HI.eqI hI5819 (p := 231) (b := 8) ((((hF5820.1 231 8 (by decide)).trans (hF5539.1 231 8 (by decide))).trans hv1))
          obtain ⟨v5826, hv5826⟩ : ∃ v, gI g5818 231 9 = v := ⟨_, rfl⟩
          have rv5826 := RgF.at hI5819.2.1 (p := 231) (b := 9) rfl
          rw [hv5826] at rv5826
          dsimp only at rv5826
          have tv5826 := congrArg Int32.toInt hv5826
          have x5827 := HI.eqI hI5819 (p := 231) (b := 9) (hv5826)
          obtain ⟨v5828, hv5828⟩ : ∃ v, gI g5818 231 10 = v := ⟨_, rfl⟩
          have rv5828 := RgF.at hI5819.2.1 (p := 231) (b := 10) rfl
          rw [hv5828] at rv5828
          dsimp only at rv5828
          have tv5828 := congrArg Int32.toInt hv5828
          have x5829 := HI.eqI hI5819 (p := 231) (b := 10) (hv5828)
          obtain ⟨v5830, hv5830⟩ : ∃ v, gI g5818 231 11 = v := ⟨_, rfl⟩
          have tv5830 := congrArg Int32.toInt hv5830
          have x5831 := HI.eqI hI5819 (p := 231) (b := 11) (hv5830)
          obtain ⟨v5832, hv5832⟩ : ∃ v, gJ g5818 231 12 = v := ⟨_, rfl⟩
          have x5833 := HI.eqJ hI5819 (b := 12) (hv5832)
          obtain ⟨v5834, hv5834⟩ : ∃ v, gI g5818 231 14 = v := ⟨_, rfl⟩
          have tv5834 := congrArg Int32.toInt hv5834
          have x5835 := HI.eqI hI5819 (p := 231) (b := 14) (hv5834)
          obtain ⟨v5836, hv5836⟩ : ∃ v, gI g5818 231 17 = v := ⟨_, rfl⟩
          have rv5836 := RgF.at hI5819.2.1 (p := 231) (b := 17) rfl
          rw [hv5836] at rv5836
          dsimp only at rv5836
          have tv5836 := congrArg Int32.toInt hv5836
          have x5837 := HI.eqI hI5819 (p := 231) (b := 17) (hv5836)
          obtain ⟨v5838, hv5838⟩ : ∃ v, gI g5818 231 23 = v := ⟨_, rfl⟩
          have rv5838 := RgF.at hI5819.2.1 (p := 231) (b := 23) rfl
          rw [hv5838] at rv5838
          dsimp only at rv5838
          have tv5838 := congrArg Int32.toInt hv5838
          have x5839 := HI.eqI hI5819 (p := 231) (b := 23) (hv5838)
          obtain ⟨c5840, c5841, c5842, c5843, c5844, c5845, c5846, c5847, c5848⟩ := hr5822.2
          refine At.enter rfl ?_
          refine r_goto ?_
          refine At.enter rfl ?_
          refine r_istore_n _ rfl ?_
          refine r_goto ?_
          have w5849 := tw_s x5534.toInt
          have w5850 := bw_s x5536.toInt
          have w5851 := tw_s v5821.toInt
          have w5852 := bw_s v5834.toInt
          have x5853 := HI.eqI hI5819 (p := 231) (b := 8) ((((hF5820.1 231 8 (by decide)).trans (hF5539.1 231 8 (by decide))).trans hv1))
          have x5854 := HI.eqI hI5819 (p := 231) (b := 9) (hv5826)
          have x5855 := HI.eqI hI5819 (p := 231) (b := 10) (hv5828)
          have x5856 := HI.eqI hI5819 (p := 231) (b := 11) (hv5830)
          have x5857 := HI.eqJ hI5819 (b := 12) (hv5832)
          have x5858 := HI.eqI hI5819 (p := 231) (b := 14) (hv5834)
          have x5859 := HI.eqI hI5819 (p := 231) (b := 17) (hv5836)
          have x5860 := HI.eqI hI5819 (p := 231) (b := 23) (hv5838)
          have y5861 := c5848
          unfold PRG at y5861
          have bv5862 := q_bnd v5834
          exact ih5542 (5 * (400 - v5826.toInt) + tw (v5821.toInt) + 10 * bw (v5834.toInt)) _ _ ⟨v5821, v5826, v5834, by first | rfl | omega, hI5819, hF5823, hv5826, hv5834, (w_p1 (by decide) (Or.inr rfl) e5545), (w_p1 (by decide) (Or.inr rfl) e5546), (w_e1 _ _ _), by omega, by omega, by omega, by omega, by omega, by omega, by omega, by omega, c5844, c5847⟩ ⟨by omega, by omega⟩

def F_X11_readClause_231 : List (Nat × Nat) := [(231, 9), (231, 10), (231, 11), (231, 12), (231, 13), (231, 14), (231, 15), (231, 17), (231, 20), (231, 23), (231, 24)]
def A_X11_readClause_231 : List Nat := [237, 238, 239, 240, 241]
set_option maxRecDepth 100000 in
set_option maxHeartbeats 4000000 in
theorem T_X11_readClause_231 (d : Nat) {N : Nat} {g0 : List en_E} (hI0 : HI g0) (h1 : ((gI g0 231 9).toInt ≤ (gI g0 231 10).toInt ∧ (gI g0 231 10).toInt ≤ (gI g0 231 8).toInt ∧ 0 ≤ (gI g0 231 11).toInt ∧ (gI g0 231 11).toInt ≤ 3 * ((gI g0 231 10).toInt - (gI g0 231 9).toInt))) (h2 : (gI g0 231 14).toInt = 0) (h3 : (gI g0 231 17).toInt ≤ (gI g0 231 9).toInt) (hW : W26 g0) (hC : CLS g0 (gI g0 231 15).toInt (gI g0 231 17).toInt) : Ev (d + 8) 209 [.ref 231] (g0, N) (fun w h' => ∃ g', h' = (g', N) ∧ HI g' ∧ Fr F_X11_readClause_231 A_X11_readClause_231 g0 g' ∧ w = none ∧ ((gI g' 231 9).toInt ≤ (gI g' 231 10).toInt ∧ (gI g' 231 10).toInt ≤ (gI g' 231 8).toInt ∧ 0 ≤ (gI g' 231 11).toInt ∧ (gI g' 231 11).toInt ≤ 3 * ((gI g' 231 10).toInt - (gI g' 231 9).toInt) ∧ W26 g' ∧ (gI g0 231 9).toInt ≤ (gI g' 231 9).toInt ∧ CLZ g')) := by
  have hF0 : Fr F_X11_readClause_231 A_X11_readClause_231 g0 g0 := Fr.rf
  obtain ⟨v1, hv1⟩ : ∃ v, gI g0 231 8 = v := ⟨_, rfl⟩
  have rv1 := RgF.at hI0.2.1 (p := 231) (b := 8) rfl
  rw [hv1] at rv1
  dsimp only at rv1
  have tv1 := congrArg Int32.toInt hv1
  obtain ⟨v2, hv2⟩ : ∃ v, gI g0 231 9 = v := ⟨_, rfl⟩
  have rv2 := RgF.at hI0.2.1 (p := 231) (b := 9) rfl
  rw [hv2] at rv2
  dsimp only at rv2
  have tv2 := congrArg Int32.toInt hv2
  obtain ⟨v3, hv3⟩ : ∃ v, gI g0 231 10 = v := ⟨_, rfl⟩
  have rv3 := RgF.at hI0.2.1 (p := 231) (b := 10) rfl
  rw [hv3] at rv3
  dsimp only at rv3
  have tv3 := congrArg Int32.toInt hv3
  obtain ⟨v4, hv4⟩ : ∃ v, gI g0 231 11 = v := ⟨_, rfl⟩
  have tv4 := congrArg Int32.toInt hv4
  obtain ⟨v5, hv5⟩ : ∃ v, gI g0 231 14 = v := ⟨_, rfl⟩
  have tv5 := congrArg Int32.toInt hv5
  obtain ⟨v6, hv6⟩ : ∃ v, gI g0 231 15 = v := ⟨_, rfl⟩
  have rv6 := RgF.at hI0.2.1 (p := 231) (b := 15) rfl
  rw [hv6] at rv6
  dsimp only at rv6
  have tv6 := congrArg Int32.toInt hv6
  obtain ⟨v7, hv7⟩ : ∃ v, gI g0 231 17 = v := ⟨_, rfl⟩
  have rv7 := RgF.at hI0.2.1 (p := 231) (b := 17) rfl
  rw [hv7] at rv7
  dsimp only at rv7
  have tv7 := congrArg Int32.toInt hv7
  refine Ev.mk rfl rfl ⟨Nat.le_of_ble_eq_true rfl, Or.inr (q_rc hI0.1 kx_231 rfl)⟩ ?_
  show At _ none _ _ (0, [(0, .ref 231)], [], (_, _)) _
  refine At.enter rfl ?_
  refine r_iconst (-1) rfl ?_
  refine r_istore_n ([(1, .int (-1)), (0, .ref 231)]) rfl ?_
  refine r_iconst 0 rfl ?_
  refine r_istore_n ([(2, .int 0), (1, .int (-1)), (0, .ref 231)]) rfl ?_
  refine Ar.fall 4 rfl ?_
  have z_13746 : ((-1) : Int32).toInt = (-1) := rfl
  have z_13747 : (0 : Int32).toInt = 0 := rfl
  refine w_loopI (fun n_ l_ g_ => ∃ x13732 : Int32, ∃ x13733 : Int32, n_ = 3 - x13733.toInt ∧ HI g_ ∧ Fr F_X11_readClause_231 A_X11_readClause_231 g0 g_ ∧ en_get 0 l_ = some (.ref 231) ∧ en_get 1 l_ = some (.int x13732) ∧ en_get 2 l_ = some (.int x13733) ∧ ((-1) ≤ x13732.toInt ∧ x13732.toInt ≤ 2) ∧ (0 ≤ x13733.toInt ∧ x13733.toInt ≤ 3) ∧ (Fr [] [] g0 g_)) ?_ (3 - 0) ⟨(-1), 0, by first | rfl | omega, hI0, hF0, rfl, rfl, rfl, by decide, by decide, Fr.rf⟩
  rintro n13738 l13737 g13734 ⟨x13732, x13733, hm13748, hI13735, hF13736, e13740, e13741, e13742, r13743, r13744, q13745⟩ ih13739
  refine At.enter rfl ?_
  refine r_iload_n e13742 ?_
  refine r_iconst 3 rfl ?_
  refine r_ics 9 rfl (fun c13749 => ?_) (fun c13749 => ?_)
  · have c13749_ : x13733.toInt ≥ 3 := en_i_ge_t c13749
    refine At.enter rfl ?_
    refine r_aload_n e13740 ?_
    refine r_iload_n e13741 ?_
    refine r_iconst (-1) rfl ?_
    refine r_ics 40 rfl (fun c13750 => ?_) (fun c13750 => ?_)
    · have c13750_ : x13732.toInt = (-1) := en_i_eq_t c13750
      refine At.enter rfl ?_
      refine r_iconst 0 rfl ?_
      refine Ar.fall 54 rfl ?_
      refine At.enter rfl ?_
      have x13751 := HI.eqI hI13735 (p := 231) (b := 8) (((q13745.1 231 8 (by decide)).trans hv1))
      have x13752 := HI.eqI hI13735 (p := 231) (b := 9) (((q13745.1 231 9 (by decide)).trans hv2))
      have x13753 := HI.eqI hI13735 (p := 231) (b := 10) (((q13745.1 231 10 (by decide)).trans hv3))
      have x13754 := HI.eqI hI13735 (p := 231) (b := 11) (((q13745.1 231 11 (by decide)).trans hv4))
      have w2613755 := W26.cong hW hI13735 ((q13745.1 231 9 (by decide))) ((q13745.1 231 10 (by decide))) ((q13745.1 231 11 (by decide))) ((q13745.2.2 231 12 (by decide)))
      have zv13756 : (0 : Int32).toInt = 0 := rfl
      refine r_callV 57 rfl [.ref 231, .int 0] [] (Nat.le_of_ble_eq_true rfl) rfl (T_X11_must_231 _ hI13735 0 (by decide) (by refine ⟨?_, ?_, ?_, ?_⟩ <;> omega) w2613755) ?_
      rintro _ _ ⟨g13757, rfl, hI13758, hF13759, rfl, hr13761⟩
      refine At.stn ?_
      have hF13762 := Fr.tr hF13736 hF13759 rfl rfl
      have zv13763 : (0 : Int32).toInt = 0 := rfl
      have x13764 := HI.eqI hI13735 (p := 231) (b := 8) (((q13745.1 231 8 (by decide)).trans hv1))
      have x13765 := HI.eqI hI13735 (p := 231) (b := 9) (((q13745.1 231 9 (by decide)).trans hv2))
      have x13766 := HI.eqI hI13735 (p := 231) (b := 10) (((q13745.1 231 10 (by decide)).trans hv3))
      have x13767 := HI.eqI hI13735 (p := 231) (b := 11) (((q13745.1 231 11 (by decide)).trans hv4))
      have x13768 := HI.eqI hI13735 (p := 231) (b := 14) (((q13745.1 231 14 (by decide)).trans hv5))
      have x13769 := HI.eqI hI13758 (p := 231) (b := 8) ((((hF13759.1 231 8 (by decide)).trans (q13745.1 231 8 (by decide))).trans hv1))
      obtain ⟨v13770, hv13770⟩ : ∃ v, gI g13757 231 9 = v := ⟨_, rfl⟩
      have rv13770 := RgF.at hI13758.2.1 (p := 231) (b := 9) rfl
      rw [hv13770] at rv13770
      dsimp only at rv13770
      have tv13770 := congrArg Int32.toInt hv13770
      have x13771 := HI.eqI hI13758 (p := 231) (b := 9) (hv13770)
      obtain ⟨v13772, hv13772⟩ : ∃ v, gI g13757 231 10 = v := ⟨_, rfl⟩
      have rv13772 := RgF.at hI13758.2.1 (p := 231) (b := 10) rfl
      rw [hv13772] at rv13772
      dsimp only at rv13772
      have tv13772 := congrArg Int32.toInt hv13772
      have x13773 := HI.eqI hI13758 (p := 231) (b := 10) (hv13772)
      obtain ⟨v13774, hv13774⟩ : ∃ v, gI g13757 231 11 = v := ⟨_, rfl⟩
      have tv13774 := congrArg Int32.toInt hv13774
      have x13775 := HI.eqI hI13758 (p := 231) (b := 11) (hv13774)
      obtain ⟨v13776, hv13776⟩ : ∃ v, gI g13757 231 14 = v := ⟨_, rfl⟩
      have tv13776 := congrArg Int32.toInt hv13776
      have x13777 := HI.eqI hI13758 (p := 231) (b := 14) (hv13776)
      obtain ⟨c13778, c13779, c13780, c13781, c13782, c13783, c13784⟩ := hr13761
      refine At.enter rfl ?_
      refine r_aload_n e13740 ?_
      refine q_getI (Sh.int hI13758.1 kx_231 rfl) v13776 hv13776 ?_
      refine r_ifs 64 rfl (fun c13785 => ?_) (fun c13785 => ?_)
      · have c13785_ : v13776.toInt = 0 := en_k_eq_t c13785
        obtain ⟨i13786, i13787, i13788⟩ := c13784 (by omega)
        refine At.enter rfl ?_
        refine r_bipush 8 rfl ?_
        refine r_aload_n e13740 ?_
        refine q_getI (Sh.int hI13758.1 kx_231 rfl) v6 (((hF13759.1 231 15 (by decide)).trans (q13745.1 231 15 (by decide))).trans hv6) ?_
        refine q_imul (8 * v6.toInt) rfl (by omega) (fun v13789 hv13789 => ?_)
        refine r_istore_n _ rfl ?_
        refine r_iconst 0 rfl ?_
        refine r_istore_n _ rfl ?_
        refine Ar.fall 75 rfl ?_
        have z_14007 : (0 : Int32).toInt = 0 := rfl
        refine w_loopI (fun n_ l_ g_ => ∃ x13993 : Int32, n_ = 8 - x13993.toInt ∧ HI g_ ∧ Fr F_X11_readClause_231 A_X11_readClause_231 g0 g_ ∧ en_get 0 l_ = some (.ref 231) ∧ en_get 1 l_ = some (.int x13732) ∧ en_get 2 l_ = some (.int v13789) ∧ en_get 3 l_ = some (.int x13993) ∧ (0 ≤ x13993.toInt ∧ x13993.toInt ≤ 8) ∧ (Fr [] [237] g13757 g_) ∧ (∀ i : Int, 0 ≤ i → i < v13789.toInt → eA g_ 237 i = eA g13757 237 i)) ?_ (8 - 0) ⟨0, by first | rfl | omega, hI13758, hF13762, (w_p1 (by decide) (Or.inr rfl) (w_p1 (by decide) (Or.inr rfl) e13740)), (w_p1 (by decide) (Or.inr rfl) (w_p1 (by decide) (Or.inr rfl) e13741)), (w_p1 (by decide) (Or.inr rfl) (w_e1 _ _ _)), (w_e1 _ _ _), by decide, Fr.rf, (fun i i0 i1 => rfl)⟩
        rintro n13998 l13997 g13994 ⟨x13993, hm14008, hI13995, hF13996, e14000, e14001, e14002, e14003, r14004, q14005, q14006⟩ ih13999
        refine At.enter rfl ?_
        refine r_iload_n e14003 ?_
        refine r_bipush 8 rfl ?_
        refine r_ics 81 rfl (fun c14009 => ?_) (fun c14009 => ?_)
        · have c14009_ : x13993.toInt ≥ 8 := en_i_ge_t c14009
          refine At.enter rfl ?_
          refine r_aload_n e14000 ?_
          refine q_getR (Sh.ref hI13995.1 kx_231 rfl) ?_
          refine r_iload_n e14002 ?_
          refine r_iload_n e14001 ?_
          refine q_iast (Sh.arr hI13995.1 ka_237) ((8 * v6.toInt)) (by omega) (by omega) ?_
          have hI14010 := HI.wA0 hI13995 ka_237 (p := 237) rfl rfl ((8 * v6.toInt)) (x13732)
          have hF14011 := Fr.wA (p := 237) (j := (8 * v6.toInt)) (v := x13732) hF13996 rfl
          refine r_aload_n e14000 ?_
          refine r_dup rfl ?_
          refine q_getI (Sh.int hI14010.1 kx_231 rfl) v6 (((gI_sW).trans ((q14005.1 231 15 (by decide)).trans ((hF13759.1 231 15 (by decide)).trans (q13745.1 231 15 (by decide))))).trans hv6) ?_
          refine r_iconst 1 rfl ?_
          refine q_iadd (v6.toInt + 1) rfl (by omega) (fun v14012 hv14012 => ?_)
          refine q_putI (Sh.int hI14010.1 kx_231 rfl) rfl ?_
          have hI14013 := HI.wI1 hI14010 kx_231 rfl (p := 231) (b := 15) (v := v14012) rfl (by dsimp only; omega)
          have hF14014 := Fr.wI (p := 231) (b := 15) (v := v14012) hF14011 rfl
          refine r_aload_n e14000 ?_
          refine q_getR (Sh.ref hI14013.1 kx_231 rfl) ?_
          refine r_iload_n e14002 ?_
          refine r_iconst 3 rfl ?_
          refine q_iadd (v13789.toInt + 3) rfl (by omega) (fun v14015 hv14015 => ?_)
          refine r_aload_n e14000 ?_
          refine q_getI (Sh.int hI14013.1 kx_231 rfl) v7 (((gI_sI_ne (by decide)).trans ((gI_sW).trans ((q14005.1 231 17 (by decide)).trans ((hF13759.1 231 17 (by decide)).trans (q13745.1 231 17 (by decide)))))).trans hv7) ?_
          refine q_iast (Sh.arr hI14013.1 ka_237) ((8 * v6.toInt + 3)) (by omega) (by omega) ?_
          have hI14016 := HI.wA0 hI14013 ka_237 (p := 237) rfl rfl ((8 * v6.toInt + 3)) (v7)
          have hF14017 := Fr.wA (p := 237) (j := (8 * v6.toInt + 3)) (v := v7) hF14014 rfl
          refine r_iload_n e14001 ?_
          refine r_iconst 2 rfl ?_
          refine r_ics 130 rfl (fun c14018 => ?_) (fun c14018 => ?_)
          · have c14018_ : x13732.toInt ≥ 2 := en_i_ge_t c14018
            exfalso; omega
          · have c14018_ : x13732.toInt < 2 := en_i_ge_f c14018
            refine At.enter rfl ?_
            refine r_aload_n e14000 ?_
            refine r_iconst 0 rfl ?_
            have x14019 := HI.eqI hI14016 (p := 231) (b := 8) ((((gI_sW).trans ((gI_sI_ne (by decide)).trans ((gI_sW).trans ((q14005.1 231 8 (by decide)).trans ((hF13759.1 231 8 (by decide)).trans (q13745.1 231 8 (by decide))))))).trans hv1))
            have x14020 := HI.eqI hI14016 (p := 231) (b := 9) ((((gI_sW).trans ((gI_sI_ne (by decide)).trans ((gI_sW).trans (q14005.1 231 9 (by decide))))).trans hv13770))
            have x14021 := HI.eqI hI14016 (p := 231) (b := 10) ((((gI_sW).trans ((gI_sI_ne (by decide)).trans ((gI_sW).trans (q14005.1 231 10 (by decide))))).trans hv13772))
            have x14022 := HI.eqI hI14016 (p := 231) (b := 11) ((((gI_sW).trans ((gI_sI_ne (by decide)).trans ((gI_sW).trans (q14005.1 231 11 (by decide))))).trans hv13774))
            obtain ⟨v14023, hv14023⟩ : ∃ v, gJ g13757 231 12 = v := ⟨_, rfl⟩
            have x14024 := HI.eqJ hI14016 (b := 12) ((((gJ_sW).trans ((gJ_sI_ne (by decide)).trans ((gJ_sW).trans (q14005.2.2 231 12 (by decide))))).trans hv14023))
            have x14025 := HI.eqI hI14016 (p := 231) (b := 14) ((((gI_sW).trans ((gI_sI_ne (by decide)).trans ((gI_sW).trans (q14005.1 231 14 (by decide))))).trans hv13776))
            have x14026 := HI.eqI hI14016 (p := 231) (b := 17) ((((gI_sW).trans ((gI_sI_ne (by decide)).trans ((gI_sW).trans ((q14005.1 231 17 (by decide)).trans ((hF13759.1 231 17 (by decide)).trans (q13745.1 231 17 (by decide))))))).trans hv7))
            obtain ⟨v14027, hv14027⟩ : ∃ v, gI g0 231 23 = v := ⟨_, rfl⟩
            have rv14027 := RgF.at hI0.2.1 (p := 231) (b := 23) rfl
            rw [hv14027] at rv14027
            dsimp only at rv14027
            have tv14027 := congrArg Int32.toInt hv14027
            have x14028 := HI.eqI hI14016 (p := 231) (b := 23) ((((gI_sW).trans ((gI_sI_ne (by decide)).trans ((gI_sW).trans ((q14005.1 231 23 (by decide)).trans ((hF13759.1 231 23 (by decide)).trans (q13745.1 231 23 (by decide))))))).trans hv14027))
            have w2614029 := W26.cong c13783 hI14016 (((gI_sW).trans ((gI_sI_ne (by decide)).trans ((gI_sW).trans (q14005.1 231 9 (by decide)))))) (((gI_sW).trans ((gI_sI_ne (by decide)).trans ((gI_sW).trans (q14005.1 231 10 (by decide)))))) (((gI_sW).trans ((gI_sI_ne (by decide)).trans ((gI_sW).trans (q14005.1 231 11 (by decide)))))) (((gJ_sW).trans ((gJ_sI_ne (by decide)).trans ((gJ_sW).trans (q14005.2.2 231 12 (by decide))))))
            have zv14030 : (0 : Int32).toInt = 0 := rfl
            refine r_callV 135 rfl [.ref 231, .int 0] [] (Nat.le_of_ble_eq_true rfl) rfl (T_X11_readExpression_231 _ hI14016 0 (by decide) (by refine ⟨?_, ?_, ?_, ?_⟩ <;> omega) (by omega) (by omega) w2614029) ?_
            rintro _ _ ⟨g14031, rfl, hI14032, hF14033, rfl, hr14035⟩
            refine At.stn ?_
            have hF14036 := Fr.tr hF14017 hF14033 rfl rfl
            have zv14037 : (0 : Int32).toInt = 0 := rfl
            have x14038 := HI.eqI hI14016 (p := 231) (b := 9) ((((gI_sW).trans ((gI_sI_ne (by decide)).trans ((gI_sW).trans (q14005.1 231 9 (by decide))))).trans hv13770))
            have x14039 := HI.eqI hI14016 (p := 231) (b := 17) ((((gI_sW).trans ((gI_sI_ne (by decide)).trans ((gI_sW).trans ((q14005.1 231 17 (by decide)).trans ((hF13759.1 231 17 (by decide)).trans (q13745.1 231 17 (by decide))))))).trans hv7))
            have x14040 := HI.eqI hI14032 (p := 231) (b := 8) ((((hF14033.1 231 8 (by decide)).trans ((gI_sW).trans ((gI_sI_ne (by decide)).trans ((gI_sW).trans ((q14005.1 231 8 (by decide)).trans ((hF13759.1 231 8 (by decide)).trans (q13745.1 231 8 (by decide)))))))).trans hv1))
            obtain ⟨v14041, hv14041⟩ : ∃ v, gI g14031 231 9 = v := ⟨_, rfl⟩
            have rv14041 := RgF.at hI14032.2.1 (p := 231) (b := 9) rfl
            rw [hv14041] at rv14041
            dsimp only at rv14041
            have tv14041 := congrArg Int32.toInt hv14041
            have x14042 := HI.eqI hI14032 (p := 231) (b := 9) (hv14041)
            obtain ⟨v14043, hv14043⟩ : ∃ v, gI g14031 231 10 = v := ⟨_, rfl⟩
            have rv14043 := RgF.at hI14032.2.1 (p := 231) (b := 10) rfl
            rw [hv14043] at rv14043
            dsimp only at rv14043
            have tv14043 := congrArg Int32.toInt hv14043
            have x14044 := HI.eqI hI14032 (p := 231) (b := 10) (hv14043)
            obtain ⟨v14045, hv14045⟩ : ∃ v, gI g14031 231 11 = v := ⟨_, rfl⟩
            have tv14045 := congrArg Int32.toInt hv14045
            have x14046 := HI.eqI hI14032 (p := 231) (b := 11) (hv14045)
            obtain ⟨v14047, hv14047⟩ : ∃ v, gJ g14031 231 12 = v := ⟨_, rfl⟩
            have x14048 := HI.eqJ hI14032 (b := 12) (hv14047)
            obtain ⟨v14049, hv14049⟩ : ∃ v, gI g14031 231 14 = v := ⟨_, rfl⟩
            have tv14049 := congrArg Int32.toInt hv14049
            have x14050 := HI.eqI hI14032 (p := 231) (b := 14) (hv14049)
            obtain ⟨v14051, hv14051⟩ : ∃ v, gI g14031 231 17 = v := ⟨_, rfl⟩
            have rv14051 := RgF.at hI14032.2.1 (p := 231) (b := 17) rfl
            rw [hv14051] at rv14051
            dsimp only at rv14051
            have tv14051 := congrArg Int32.toInt hv14051
            have x14052 := HI.eqI hI14032 (p := 231) (b := 17) (hv14051)
            obtain ⟨v14053, hv14053⟩ : ∃ v, gI g14031 231 23 = v := ⟨_, rfl⟩
            have rv14053 := RgF.at hI14032.2.1 (p := 231) (b := 23) rfl
            rw [hv14053] at rv14053
            dsimp only at rv14053
            have tv14053 := congrArg Int32.toInt hv14053
            have x14054 := HI.eqI hI14032 (p := 231) (b := 23) (hv14053)
            obtain ⟨c14055, c14056, c14057, c14058, c14059, c14060, c14061⟩ := hr14035
            refine At.enter rfl ?_
            refine r_aload_n e14000 ?_
            refine q_getR (Sh.ref hI14032.1 kx_231 rfl) ?_
            refine r_iload_n e14002 ?_
            refine r_iconst 4 rfl ?_
            refine q_iadd (v13789.toInt + 4) rfl (by omega) (fun v14062 hv14062 => ?_)
            refine r_aload_n e14000 ?_
            refine q_getI (Sh.int hI14032.1 kx_231 rfl) v14051 hv14051 ?_
            refine q_iast (Sh.arr hI14032.1 ka_237) ((8 * v6.toInt + 4)) (by omega) (by omega) ?_
            have hI14063 := HI.wA0 hI14032 ka_237 (p := 237) rfl rfl ((8 * v6.toInt + 4)) (v14051)
            have hF14064 := Fr.wA (p := 237) (j := (8 * v6.toInt + 4)) (v := v14051) hF14036 rfl
            refine r_aload_n e14000 ?_
            refine q_getR (Sh.ref hI14063.1 kx_231 rfl) ?_
            refine r_iload_n e14002 ?_
            refine r_iconst 5 rfl ?_
            refine q_iadd (v13789.toInt + 5) rfl (by omega) (fun v14065 hv14065 => ?_)
            refine r_aload_n e14000 ?_
            refine q_getI (Sh.int hI14063.1 kx_231 rfl) v14051 ((gI_sW).trans hv14051) ?_
            refine q_iast (Sh.arr hI14063.1 ka_237) ((8 * v6.toInt + 5)) (by omega) (by omega) ?_
            have hI14066 := HI.wA0 hI14063 ka_237 (p := 237) rfl rfl ((8 * v6.toInt + 5)) (v14051)
            have hF14067 := Fr.wA (p := 237) (j := (8 * v6.toInt + 5)) (v := v14051) hF14064 rfl
            refine r_aload_n e14000 ?_
            refine q_getI (Sh.int hI14066.1 kx_231 rfl) v14049 (((gI_sW).trans (gI_sW)).trans hv14049) ?_
            refine r_ifs 166 rfl (fun c14068 => ?_) (fun c14068 => ?_)
            · have c14068_ : v14049.toInt ≠ 0 := en_k_ne_t c14068
              refine At.enter rfl ?_
              refine r_aload_n e14000 ?_
              refine q_getR (Sh.ref hI14066.1 kx_231 rfl) ?_
              refine r_iload_n e14002 ?_
              refine r_bipush 6 rfl ?_
              refine q_iadd (v13789.toInt + 6) rfl (by omega) (fun v14069 hv14069 => ?_)
              refine r_aload_n e14000 ?_
              refine q_getI (Sh.int hI14066.1 kx_231 rfl) v14051 (((gI_sW).trans (gI_sW)).trans hv14051) ?_
              refine q_iast (Sh.arr hI14066.1 ka_237) ((8 * v6.toInt + 6)) (by omega) (by omega) ?_
              have hI14070 := HI.wA0 hI14066 ka_237 (p := 237) rfl rfl ((8 * v6.toInt + 6)) (v14051)
              have hF14071 := Fr.wA (p := 237) (j := (8 * v6.toInt + 6)) (v := v14051) hF14067 rfl
              refine r_vret ?_
              have x14072 := HI.eqI hI14070 (p := 231) (b := 8) ((((gI_sW).trans ((gI_sW).trans ((gI_sW).trans ((hF14033.1 231 8 (by decide)).trans ((gI_sW).trans ((gI_sI_ne (by decide)).trans ((gI_sW).trans ((q14005.1 231 8 (by decide)).trans ((hF13759.1 231 8 (by decide)).trans (q13745.1 231 8 (by decide))))))))))).trans hv1))
              have x14073 := HI.eqI hI14070 (p := 231) (b := 9) ((((gI_sW).trans ((gI_sW).trans (gI_sW))).trans hv14041))
              have x14074 := HI.eqI hI14070 (p := 231) (b := 10) ((((gI_sW).trans ((gI_sW).trans (gI_sW))).trans hv14043))
              have x14075 := HI.eqI hI14070 (p := 231) (b := 11) ((((gI_sW).trans ((gI_sW).trans (gI_sW))).trans hv14045))
              have x14076 := HI.eqI hI14070 (p := 231) (b := 14) ((((gI_sW).trans ((gI_sW).trans (gI_sW))).trans hv14049))
              have x14077 := HI.eqI hI14070 (p := 231) (b := 15) (((gI_sW).trans ((gI_sW).trans ((gI_sW).trans ((hF14033.1 231 15 (by decide)).trans ((gI_sW).trans (gI_sI_eq hI14010.1 kx_231 rfl _)))))))
              have x14078 := HI.eqI hI14070 (p := 231) (b := 17) ((((gI_sW).trans ((gI_sW).trans (gI_sW))).trans hv14051))
              have x14079 := HI.eqI hI0 (p := 231) (b := 8) (hv1)
              have x14080 := HI.eqI hI0 (p := 231) (b := 9) (hv2)
              have x14081 := HI.eqI hI0 (p := 231) (b := 10) (hv3)
              have x14082 := HI.eqI hI0 (p := 231) (b := 11) (hv4)
              have x14083 := HI.eqI hI0 (p := 231) (b := 14) (hv5)
              have x14084 := HI.eqI hI0 (p := 231) (b := 15) (hv6)
              have x14085 := HI.eqI hI0 (p := 231) (b := 17) (hv7)
              have w2614086 := W26.cong c14059 hI14070 (((gI_sW).trans ((gI_sW).trans (gI_sW)))) (((gI_sW).trans ((gI_sW).trans (gI_sW)))) (((gI_sW).trans ((gI_sW).trans (gI_sW)))) (((gJ_sW).trans ((gJ_sW).trans (gJ_sW))))
              exact ⟨_, rfl, hI14070, hF14071, rfl, ⟨by omega, by omega, by omega, by omega, w2614086, by omega, (fun hbad => by have t0 := (c14061 (by omega)).1; have x0 := (c14061 (by omega)).2; have u0 : (gI _ 231 17).toInt ≤ (gI _ 231 17).toInt := x0.1; exact ⟨by omega, CLS.step (K := (gI g0 231 15).toInt) (n1 := (gI g0 231 17).toInt) (n2 := v14051.toInt) hC ⟨by omega, by omega⟩ ⟨by omega, by omega, by omega⟩ (fun i i0 i1 => ((eA_sA_ne (i := i) hI14066.1 ka_237 (by omega) (by omega) (by omega)).trans ((eA_sA_ne (i := i) hI14063.1 ka_237 (by omega) (by omega) (by omega)).trans ((eA_sA_ne (i := i) hI14032.1 ka_237 (by omega) (by omega) (by omega)).trans ((eA_c (hF14033.2.1 237 (by decide))).trans ((eA_sA_ne (i := i) hI14013.1 ka_237 (by omega) (by omega) (by omega)).trans ((eA_c gA_sI).trans ((eA_sA_ne (i := i) hI13995.1 ka_237 (by omega) (by omega) (by omega)).trans ((q14006 i i0 (by omega)).trans ((eA_c (hF13759.2.1 237 (by decide))).trans (eA_c (q13745.2.1 237 (by decide))))))))))))) (by show (eA _ 237 (8 * (gI g0 231 15).toInt + 3)).toInt = (gI g0 231 17).toInt; rw [show 8 * (gI g0 231 15).toInt + 3 = (8 * v6.toInt + 3) by omega]; exact (congrArg Int32.toInt (((eA_sA_ne hI14066.1 ka_237 (by first | decide | omega) (by first | decide | omega) (by first | decide | omega)).trans ((eA_sA_ne hI14063.1 ka_237 (by first | decide | omega) (by first | decide | omega) (by first | decide | omega)).trans ((eA_sA_ne hI14032.1 ka_237 (by first | decide | omega) (by first | decide | omega) (by first | decide | omega)).trans ((eA_c (hF14033.2.1 237 (by decide))).trans (eA_sA_eq hI14013.1 ka_237 (by first | rfl | omega) (by first | decide | omega) (by first | decide | omega)))))))).trans (by omega)) (by show (eA _ 237 (8 * (gI g0 231 15).toInt + 4)).toInt = v14051.toInt; rw [show 8 * (gI g0 231 15).toInt + 4 = (8 * v6.toInt + 4) by omega]; exact (congrArg Int32.toInt (((eA_sA_ne hI14066.1 ka_237 (by first | decide | omega) (by first | decide | omega) (by first | decide | omega)).trans ((eA_sA_ne hI14063.1 ka_237 (by first | decide | omega) (by first | decide | omega) (by first | decide | omega)).trans (eA_sA_eq hI14032.1 ka_237 (by first | rfl | omega) (by first | decide | omega) (by first | decide | omega)))))).trans (by omega)) (by show (eA _ 237 (8 * (gI g0 231 15).toInt + 5)).toInt = v14051.toInt; rw [show 8 * (gI g0 231 15).toInt + 5 = (8 * v6.toInt + 5) by omega]; exact (congrArg Int32.toInt (((eA_sA_ne hI14066.1 ka_237 (by first | decide | omega) (by first | decide | omega) (by first | decide | omega)).trans (eA_sA_eq hI14063.1 ka_237 (by first | rfl | omega) (by first | decide | omega) (by first | decide | omega))))).trans (by omega)) (by show (eA _ 237 (8 * (gI g0 231 15).toInt + 6)).toInt = (gI _ 231 17).toInt; rw [show 8 * (gI g0 231 15).toInt + 6 = (8 * v6.toInt + 6) by omega]; exact (congrArg Int32.toInt ((eA_sA_eq hI14066.1 ka_237 (by first | rfl | omega) (by first | decide | omega) (by first | decide | omega)))).trans (by omega)) (show SAME g0 _ (gI g0 231 17).toInt from (SAME.tr (SAME.tr (SAME.c hI14016 (((gA_sA_ne (by decide)).trans ((gA_sI).trans ((gA_sA_ne (by decide)).trans ((q14005.2.1 238 (by decide)).trans ((hF13759.2.1 238 (by decide)).trans (q13745.2.1 238 (by decide)))))))) (((gA_sA_ne (by decide)).trans ((gA_sI).trans ((gA_sA_ne (by decide)).trans ((q14005.2.1 239 (by decide)).trans ((hF13759.2.1 239 (by decide)).trans (q13745.2.1 239 (by decide))))))))) (EXPR.same x0) (by show _ ≤ (gI _ 231 17).toInt; omega)) (SAME.c hI14070 (((gA_sA_ne (by decide)).trans ((gA_sA_ne (by decide)).trans (gA_sA_ne (by decide))))) (((gA_sA_ne (by decide)).trans ((gA_sA_ne (by decide)).trans (gA_sA_ne (by decide)))))) (Int.le_refl _))) (EXPR.code x0 (show SAME g14031 _ (gI g14031 231 17).toInt from (SAME.c hI14070 (((gA_sA_ne (by decide)).trans ((gA_sA_ne (by decide)).trans (gA_sA_ne (by decide))))) (((gA_sA_ne (by decide)).trans ((gA_sA_ne (by decide)).trans (gA_sA_ne (by decide))))))) (by show _ = (gI _ 231 17).toInt; omega) (by show _ = (gI _ 231 17).toInt; omega) (by show 0 ≤ (gI _ 231 17).toInt; omega)) (WfCode.nil' (by omega) (by omega) (by omega))⟩)⟩⟩
            · have c14068_ : v14049.toInt = 0 := en_k_ne_f c14068
              refine At.enter rfl ?_
              refine r_aload_n e14000 ?_
              refine r_ldc2 294 rfl ?_
              have x14087 := HI.eqI hI14066 (p := 231) (b := 11) ((((gI_sW).trans (gI_sW)).trans hv14045))
              have zv14088 : (294 : Int64).toInt = 294 := rfl
              refine r_callV 173 rfl [.ref 231, .long 294] [] (Nat.le_of_ble_eq_true rfl) rfl (T_X11_isWord_231 _ hI14066 294 (by omega)) ?_
              rintro _ _ ⟨g14089, rfl, hI14090, hF14091, v14092, rfl, hr14093⟩
              refine At.sti ?_
              have hF14094 := Fr.tr hF14067 hF14091 rfl rfl
              have zv14095 : (294 : Int64).toInt = 294 := rfl
              have x14096 := HI.eqI hI14066 (p := 231) (b := 9) ((((gI_sW).trans (gI_sW)).trans hv14041))
              have x14097 := HI.eqI hI14066 (p := 231) (b := 10) ((((gI_sW).trans (gI_sW)).trans hv14043))
              have x14098 := HI.eqI hI14066 (p := 231) (b := 11) ((((gI_sW).trans (gI_sW)).trans hv14045))
              have x14099 := HI.eqI hI14090 (p := 231) (b := 9) ((((hF14091.1 231 9 (by decide)).trans ((gI_sW).trans (gI_sW))).trans hv14041))
              have x14100 := HI.eqI hI14090 (p := 231) (b := 10) ((((hF14091.1 231 10 (by decide)).trans ((gI_sW).trans (gI_sW))).trans hv14043))
              have x14101 := HI.eqI hI14090 (p := 231) (b := 11) ((((hF14091.1 231 11 (by decide)).trans ((gI_sW).trans (gI_sW))).trans hv14045))
              obtain ⟨c14104, c14102, isw14103⟩ := hr14093
              have w2614105 := W26.cong c14059 hI14066 (((gI_sW).trans (gI_sW))) (((gI_sW).trans (gI_sW))) (((gI_sW).trans (gI_sW))) (((gJ_sW).trans (gJ_sW)))
              refine At.enter rfl ?_
              refine r_ifs 176 rfl (fun c14106 => ?_) (fun c14106 => ?_)
              · have c14106_ : v14092.toInt = 0 := en_k_eq_t c14106
                refine At.enter rfl ?_
                refine r_aload_n e14000 ?_
                refine q_getR (Sh.ref hI14090.1 kx_231 rfl) ?_
                refine r_iload_n e14002 ?_
                refine r_bipush 6 rfl ?_
                refine q_iadd (v13789.toInt + 6) rfl (by omega) (fun v14107 hv14107 => ?_)
                refine r_aload_n e14000 ?_
                refine q_getI (Sh.int hI14090.1 kx_231 rfl) v14051 (((hF14091.1 231 17 (by decide)).trans ((gI_sW).trans (gI_sW))).trans hv14051) ?_
                refine q_iast (Sh.arr hI14090.1 ka_237) ((8 * v6.toInt + 6)) (by omega) (by omega) ?_
                have hI14108 := HI.wA0 hI14090 ka_237 (p := 237) rfl rfl ((8 * v6.toInt + 6)) (v14051)
                have hF14109 := Fr.wA (p := 237) (j := (8 * v6.toInt + 6)) (v := v14051) hF14094 rfl
                refine r_vret ?_
                have x14110 := HI.eqI hI14108 (p := 231) (b := 8) ((((gI_sW).trans ((hF14091.1 231 8 (by decide)).trans ((gI_sW).trans ((gI_sW).trans ((hF14033.1 231 8 (by decide)).trans ((gI_sW).trans ((gI_sI_ne (by decide)).trans ((gI_sW).trans ((q14005.1 231 8 (by decide)).trans ((hF13759.1 231 8 (by decide)).trans (q13745.1 231 8 (by decide)))))))))))).trans hv1))
                have x14111 := HI.eqI hI14108 (p := 231) (b := 9) ((((gI_sW).trans ((hF14091.1 231 9 (by decide)).trans ((gI_sW).trans (gI_sW)))).trans hv14041))
                have x14112 := HI.eqI hI14108 (p := 231) (b := 10) ((((gI_sW).trans ((hF14091.1 231 10 (by decide)).trans ((gI_sW).trans (gI_sW)))).trans hv14043))
                have x14113 := HI.eqI hI14108 (p := 231) (b := 11) ((((gI_sW).trans ((hF14091.1 231 11 (by decide)).trans ((gI_sW).trans (gI_sW)))).trans hv14045))
                have x14114 := HI.eqI hI14108 (p := 231) (b := 14) ((((gI_sW).trans ((hF14091.1 231 14 (by decide)).trans ((gI_sW).trans (gI_sW)))).trans hv14049))
                have x14115 := HI.eqI hI14108 (p := 231) (b := 15) (((gI_sW).trans ((hF14091.1 231 15 (by decide)).trans ((gI_sW).trans ((gI_sW).trans ((hF14033.1 231 15 (by decide)).trans ((gI_sW).trans (gI_sI_eq hI14010.1 kx_231 rfl _))))))))
                have x14116 := HI.eqI hI14108 (p := 231) (b := 17) ((((gI_sW).trans ((hF14091.1 231 17 (by decide)).trans ((gI_sW).trans (gI_sW)))).trans hv14051))
                have x14117 := HI.eqI hI0 (p := 231) (b := 8) (hv1)
                have x14118 := HI.eqI hI0 (p := 231) (b := 9) (hv2)
                have x14119 := HI.eqI hI0 (p := 231) (b := 10) (hv3)
                have x14120 := HI.eqI hI0 (p := 231) (b := 11) (hv4)
                have x14121 := HI.eqI hI0 (p := 231) (b := 14) (hv5)
                have x14122 := HI.eqI hI0 (p := 231) (b := 15) (hv6)
                have x14123 := HI.eqI hI0 (p := 231) (b := 17) (hv7)
                have w2614124 := W26.cong c14059 hI14108 (((gI_sW).trans ((hF14091.1 231 9 (by decide)).trans ((gI_sW).trans (gI_sW))))) (((gI_sW).trans ((hF14091.1 231 10 (by decide)).trans ((gI_sW).trans (gI_sW))))) (((gI_sW).trans ((hF14091.1 231 11 (by decide)).trans ((gI_sW).trans (gI_sW))))) (((gJ_sW).trans ((hF14091.2.2 231 12 (by decide)).trans ((gJ_sW).trans (gJ_sW)))))
                exact ⟨_, rfl, hI14108, hF14109, rfl, ⟨by omega, by omega, by omega, by omega, w2614124, by omega, (fun hbad => by have t0 := (c14061 (by omega)).1; have x0 := (c14061 (by omega)).2; have u0 : (gI _ 231 17).toInt ≤ (gI _ 231 17).toInt := x0.1; exact ⟨by omega, CLS.step (K := (gI g0 231 15).toInt) (n1 := (gI g0 231 17).toInt) (n2 := v14051.toInt) hC ⟨by omega, by omega⟩ ⟨by omega, by omega, by omega⟩ (fun i i0 i1 => ((eA_sA_ne (i := i) hI14090.1 ka_237 (by omega) (by omega) (by omega)).trans ((eA_c (hF14091.2.1 237 (by decide))).trans ((eA_sA_ne (i := i) hI14063.1 ka_237 (by omega) (by omega) (by omega)).trans ((eA_sA_ne (i := i) hI14032.1 ka_237 (by omega) (by omega) (by omega)).trans ((eA_c (hF14033.2.1 237 (by decide))).trans ((eA_sA_ne (i := i) hI14013.1 ka_237 (by omega) (by omega) (by omega)).trans ((eA_c gA_sI).trans ((eA_sA_ne (i := i) hI13995.1 ka_237 (by omega) (by omega) (by omega)).trans ((q14006 i i0 (by omega)).trans ((eA_c (hF13759.2.1 237 (by decide))).trans (eA_c (q13745.2.1 237 (by decide)))))))))))))) (by show (eA _ 237 (8 * (gI g0 231 15).toInt + 3)).toInt = (gI g0 231 17).toInt; rw [show 8 * (gI g0 231 15).toInt + 3 = (8 * v6.toInt + 3) by omega]; exact (congrArg Int32.toInt (((eA_sA_ne hI14090.1 ka_237 (by first | decide | omega) (by first | decide | omega) (by first | decide | omega)).trans ((eA_c (hF14091.2.1 237 (by decide))).trans ((eA_sA_ne hI14063.1 ka_237 (by first | decide | omega) (by first | decide | omega) (by first | decide | omega)).trans ((eA_sA_ne hI14032.1 ka_237 (by first | decide | omega) (by first | decide | omega) (by first | decide | omega)).trans ((eA_c (hF14033.2.1 237 (by decide))).trans (eA_sA_eq hI14013.1 ka_237 (by first | rfl | omega) (by first | decide | omega) (by first | decide | omega))))))))).trans (by omega)) (by show (eA _ 237 (8 * (gI g0 231 15).toInt + 4)).toInt = v14051.toInt; rw [show 8 * (gI g0 231 15).toInt + 4 = (8 * v6.toInt + 4) by omega]; exact (congrArg Int32.toInt (((eA_sA_ne hI14090.1 ka_237 (by first | decide | omega) (by first | decide | omega) (by first | decide | omega)).trans ((eA_c (hF14091.2.1 237 (by decide))).trans ((eA_sA_ne hI14063.1 ka_237 (by first | decide | omega) (by first | decide | omega) (by first | decide | omega)).trans (eA_sA_eq hI14032.1 ka_237 (by first | rfl | omega) (by first | decide | omega) (by first | decide | omega))))))).trans (by omega)) (by show (eA _ 237 (8 * (gI g0 231 15).toInt + 5)).toInt = v14051.toInt; rw [show 8 * (gI g0 231 15).toInt + 5 = (8 * v6.toInt + 5) by omega]; exact (congrArg Int32.toInt (((eA_sA_ne hI14090.1 ka_237 (by first | decide | omega) (by first | decide | omega) (by first | decide | omega)).trans ((eA_c (hF14091.2.1 237 (by decide))).trans (eA_sA_eq hI14063.1 ka_237 (by first | rfl | omega) (by first | decide | omega) (by first | decide | omega)))))).trans (by omega)) (by show (eA _ 237 (8 * (gI g0 231 15).toInt + 6)).toInt = (gI _ 231 17).toInt; rw [show 8 * (gI g0 231 15).toInt + 6 = (8 * v6.toInt + 6) by omega]; exact (congrArg Int32.toInt ((eA_sA_eq hI14090.1 ka_237 (by first | rfl | omega) (by first | decide | omega) (by first | decide | omega)))).trans (by omega)) (show SAME g0 _ (gI g0 231 17).toInt from (SAME.tr (SAME.tr (SAME.c hI14016 (((gA_sA_ne (by decide)).trans ((gA_sI).trans ((gA_sA_ne (by decide)).trans ((q14005.2.1 238 (by decide)).trans ((hF13759.2.1 238 (by decide)).trans (q13745.2.1 238 (by decide)))))))) (((gA_sA_ne (by decide)).trans ((gA_sI).trans ((gA_sA_ne (by decide)).trans ((q14005.2.1 239 (by decide)).trans ((hF13759.2.1 239 (by decide)).trans (q13745.2.1 239 (by decide))))))))) (EXPR.same x0) (by show _ ≤ (gI _ 231 17).toInt; omega)) (SAME.c hI14108 (((gA_sA_ne (by decide)).trans ((hF14091.2.1 238 (by decide)).trans ((gA_sA_ne (by decide)).trans (gA_sA_ne (by decide)))))) (((gA_sA_ne (by decide)).trans ((hF14091.2.1 239 (by decide)).trans ((gA_sA_ne (by decide)).trans (gA_sA_ne (by decide))))))) (Int.le_refl _))) (EXPR.code x0 (show SAME g14031 _ (gI g14031 231 17).toInt from (SAME.c hI14108 (((gA_sA_ne (by decide)).trans ((hF14091.2.1 238 (by decide)).trans ((gA_sA_ne (by decide)).trans (gA_sA_ne (by decide)))))) (((gA_sA_ne (by decide)).trans ((hF14091.2.1 239 (by decide)).trans ((gA_sA_ne (by decide)).trans (gA_sA_ne (by decide)))))))) (by show _ = (gI _ 231 17).toInt; omega) (by show _ = (gI _ 231 17).toInt; omega) (by show 0 ≤ (gI _ 231 17).toInt; omega)) (WfCode.nil' (by omega) (by omega) (by omega))⟩)⟩⟩
              · have c14106_ : v14092.toInt ≠ 0 := en_k_eq_f c14106
                have i14125 := W26.two w2614105 isw14103 (by omega) (by decide)
                refine At.enter rfl ?_
                refine r_aload_n e14000 ?_
                have x14126 := HI.eqI hI14090 (p := 231) (b := 8) ((((hF14091.1 231 8 (by decide)).trans ((gI_sW).trans ((gI_sW).trans ((hF14033.1 231 8 (by decide)).trans ((gI_sW).trans ((gI_sI_ne (by decide)).trans ((gI_sW).trans ((q14005.1 231 8 (by decide)).trans ((hF13759.1 231 8 (by decide)).trans (q13745.1 231 8 (by decide))))))))))).trans hv1))
                have x14127 := HI.eqI hI14090 (p := 231) (b := 10) ((((hF14091.1 231 10 (by decide)).trans ((gI_sW).trans (gI_sW))).trans hv14043))
                refine r_callV 180 rfl [.ref 231] [] (Nat.le_of_ble_eq_true rfl) rfl (T_X11_next_231 _ hI14090 (by omega)) ?_
                rintro _ _ ⟨g14128, rfl, hI14129, hF14130, rfl, hr14132⟩
                refine At.stn ?_
                have hF14133 := Fr.tr hF14094 hF14130 rfl rfl
                have x14134 := HI.eqI hI14090 (p := 231) (b := 8) ((((hF14091.1 231 8 (by decide)).trans ((gI_sW).trans ((gI_sW).trans ((hF14033.1 231 8 (by decide)).trans ((gI_sW).trans ((gI_sI_ne (by decide)).trans ((gI_sW).trans ((q14005.1 231 8 (by decide)).trans ((hF13759.1 231 8 (by decide)).trans (q13745.1 231 8 (by decide))))))))))).trans hv1))
                have x14135 := HI.eqI hI14090 (p := 231) (b := 10) ((((hF14091.1 231 10 (by decide)).trans ((gI_sW).trans (gI_sW))).trans hv14043))
                have x14136 := HI.eqI hI14129 (p := 231) (b := 8) ((((hF14130.1 231 8 (by decide)).trans ((hF14091.1 231 8 (by decide)).trans ((gI_sW).trans ((gI_sW).trans ((hF14033.1 231 8 (by decide)).trans ((gI_sW).trans ((gI_sI_ne (by decide)).trans ((gI_sW).trans ((q14005.1 231 8 (by decide)).trans ((hF13759.1 231 8 (by decide)).trans (q13745.1 231 8 (by decide)))))))))))).trans hv1))
                obtain ⟨v14137, hv14137⟩ : ∃ v, gI g14128 231 9 = v := ⟨_, rfl⟩
                have rv14137 := RgF.at hI14129.2.1 (p := 231) (b := 9) rfl
                rw [hv14137] at rv14137
                dsimp only at rv14137
                have tv14137 := congrArg Int32.toInt hv14137
                have x14138 := HI.eqI hI14129 (p := 231) (b := 9) (hv14137)
                obtain ⟨v14139, hv14139⟩ : ∃ v, gI g14128 231 10 = v := ⟨_, rfl⟩
                have rv14139 := RgF.at hI14129.2.1 (p := 231) (b := 10) rfl
                rw [hv14139] at rv14139
                dsimp only at rv14139
                have tv14139 := congrArg Int32.toInt hv14139
                have x14140 := HI.eqI hI14129 (p := 231) (b := 10) (hv14139)
                obtain ⟨v14141, hv14141⟩ : ∃ v, gI g14128 231 11 = v := ⟨_, rfl⟩
                have tv14141 := congrArg Int32.toInt hv14141
                have x14142 := HI.eqI hI14129 (p := 231) (b := 11) (hv14141)
                obtain ⟨c14143, c14144, c14145, c14146, c14147, c14148⟩ := hr14132
                refine At.enter rfl ?_
                refine r_aload_n e14000 ?_
                refine r_iconst 1 rfl ?_
                have x14149 := HI.eqI hI14129 (p := 231) (b := 8) ((((hF14130.1 231 8 (by decide)).trans ((hF14091.1 231 8 (by decide)).trans ((gI_sW).trans ((gI_sW).trans ((hF14033.1 231 8 (by decide)).trans ((gI_sW).trans ((gI_sI_ne (by decide)).trans ((gI_sW).trans ((q14005.1 231 8 (by decide)).trans ((hF13759.1 231 8 (by decide)).trans (q13745.1 231 8 (by decide)))))))))))).trans hv1))
                have x14150 := HI.eqI hI14129 (p := 231) (b := 9) (hv14137)
                have x14151 := HI.eqI hI14129 (p := 231) (b := 10) (hv14139)
                have x14152 := HI.eqI hI14129 (p := 231) (b := 11) (hv14141)
                obtain ⟨v14153, hv14153⟩ : ∃ v, gJ g14128 231 12 = v := ⟨_, rfl⟩
                have x14154 := HI.eqJ hI14129 (b := 12) (hv14153)
                have x14155 := HI.eqI hI14129 (p := 231) (b := 14) ((((hF14130.1 231 14 (by decide)).trans ((hF14091.1 231 14 (by decide)).trans ((gI_sW).trans (gI_sW)))).trans hv14049))
                have x14156 := HI.eqI hI14129 (p := 231) (b := 17) ((((hF14130.1 231 17 (by decide)).trans ((hF14091.1 231 17 (by decide)).trans ((gI_sW).trans (gI_sW)))).trans hv14051))
                have x14157 := HI.eqI hI14129 (p := 231) (b := 23) ((((hF14130.1 231 23 (by decide)).trans ((hF14091.1 231 23 (by decide)).trans ((gI_sW).trans (gI_sW)))).trans hv14053))
                have y14158 := (c14061 (by omega)).1
                have zv14159 : (1 : Int32).toInt = 1 := rfl
                refine r_callV 185 rfl [.ref 231, .int 1] [] (Nat.le_of_ble_eq_true rfl) rfl (T_X11_readExpression_231 _ hI14129 1 (by decide) (by refine ⟨?_, ?_, ?_, ?_⟩ <;> omega) (by omega) (by omega) c14148) ?_
                rintro _ _ ⟨g14160, rfl, hI14161, hF14162, rfl, hr14164⟩
                refine At.stn ?_
                have hF14165 := Fr.tr hF14133 hF14162 rfl rfl
                have zv14166 : (1 : Int32).toInt = 1 := rfl
                have x14167 := HI.eqI hI14129 (p := 231) (b := 9) (hv14137)
                have x14168 := HI.eqI hI14129 (p := 231) (b := 17) ((((hF14130.1 231 17 (by decide)).trans ((hF14091.1 231 17 (by decide)).trans ((gI_sW).trans (gI_sW)))).trans hv14051))
                have x14169 := HI.eqI hI14161 (p := 231) (b := 8) ((((hF14162.1 231 8 (by decide)).trans ((hF14130.1 231 8 (by decide)).trans ((hF14091.1 231 8 (by decide)).trans ((gI_sW).trans ((gI_sW).trans ((hF14033.1 231 8 (by decide)).trans ((gI_sW).trans ((gI_sI_ne (by decide)).trans ((gI_sW).trans ((q14005.1 231 8 (by decide)).trans ((hF13759.1 231 8 (by decide)).trans (q13745.1 231 8 (by decide))))))))))))).trans hv1))
                obtain ⟨v14170, hv14170⟩ : ∃ v, gI g14160 231 9 = v := ⟨_, rfl⟩
                have rv14170 := RgF.at hI14161.2.1 (p := 231) (b := 9) rfl
                rw [hv14170] at rv14170
                dsimp only at rv14170
                have tv14170 := congrArg Int32.toInt hv14170
                have x14171 := HI.eqI hI14161 (p := 231) (b := 9) (hv14170)
                obtain ⟨v14172, hv14172⟩ : ∃ v, gI g14160 231 10 = v := ⟨_, rfl⟩
                have rv14172 := RgF.at hI14161.2.1 (p := 231) (b := 10) rfl
                rw [hv14172] at rv14172
                dsimp only at rv14172
                have tv14172 := congrArg Int32.toInt hv14172
                have x14173 := HI.eqI hI14161 (p := 231) (b := 10) (hv14172)
                obtain ⟨v14174, hv14174⟩ : ∃ v, gI g14160 231 11 = v := ⟨_, rfl⟩
                have tv14174 := congrArg Int32.toInt hv14174
                have x14175 := HI.eqI hI14161 (p := 231) (b := 11) (hv14174)
                obtain ⟨v14176, hv14176⟩ : ∃ v, gJ g14160 231 12 = v := ⟨_, rfl⟩
                have x14177 := HI.eqJ hI14161 (b := 12) (hv14176)
                obtain ⟨v14178, hv14178⟩ : ∃ v, gI g14160 231 14 = v := ⟨_, rfl⟩
                have tv14178 := congrArg Int32.toInt hv14178
                have x14179 := HI.eqI hI14161 (p := 231) (b := 14) (hv14178)
                obtain ⟨v14180, hv14180⟩ : ∃ v, gI g14160 231 17 = v := ⟨_, rfl⟩
                have rv14180 := RgF.at hI14161.2.1 (p := 231) (b := 17) rfl
                rw [hv14180] at rv14180
                dsimp only at rv14180
                have tv14180 := congrArg Int32.toInt hv14180
                have x14181 := HI.eqI hI14161 (p := 231) (b := 17) (hv14180)
                obtain ⟨v14182, hv14182⟩ : ∃ v, gI g14160 231 23 = v := ⟨_, rfl⟩
                have rv14182 := RgF.at hI14161.2.1 (p := 231) (b := 23) rfl
                rw [hv14182] at rv14182
                dsimp only at rv14182
                have tv14182 := congrArg Int32.toInt hv14182
                have x14183 := HI.eqI hI14161 (p := 231) (b := 23) (hv14182)
                obtain ⟨c14184, c14185, c14186, c14187, c14188, c14189, c14190⟩ := hr14164
                refine At.enter rfl ?_
                refine r_aload_n e14000 ?_
                refine q_getR (Sh.ref hI14161.1 kx_231 rfl) ?_
                refine r_iload_n e14002 ?_
                refine r_bipush 6 rfl ?_
                refine q_iadd (v13789.toInt + 6) rfl (by omega) (fun v14191 hv14191 => ?_)
                refine r_aload_n e14000 ?_
                refine q_getI (Sh.int hI14161.1 kx_231 rfl) v14180 hv14180 ?_
                refine q_iast (Sh.arr hI14161.1 ka_237) ((8 * v6.toInt + 6)) (by omega) (by omega) ?_
                have hI14192 := HI.wA0 hI14161 ka_237 (p := 237) rfl rfl ((8 * v6.toInt + 6)) (v14180)
                have hF14193 := Fr.wA (p := 237) (j := (8 * v6.toInt + 6)) (v := v14180) hF14165 rfl
                refine r_vret ?_
                have x14194 := HI.eqI hI14192 (p := 231) (b := 8) ((((gI_sW).trans ((hF14162.1 231 8 (by decide)).trans ((hF14130.1 231 8 (by decide)).trans ((hF14091.1 231 8 (by decide)).trans ((gI_sW).trans ((gI_sW).trans ((hF14033.1 231 8 (by decide)).trans ((gI_sW).trans ((gI_sI_ne (by decide)).trans ((gI_sW).trans ((q14005.1 231 8 (by decide)).trans ((hF13759.1 231 8 (by decide)).trans (q13745.1 231 8 (by decide)))))))))))))).trans hv1))
                have x14195 := HI.eqI hI14192 (p := 231) (b := 9) (((gI_sW).trans hv14170))
                have x14196 := HI.eqI hI14192 (p := 231) (b := 10) (((gI_sW).trans hv14172))
                have x14197 := HI.eqI hI14192 (p := 231) (b := 11) (((gI_sW).trans hv14174))
                have x14198 := HI.eqI hI14192 (p := 231) (b := 14) (((gI_sW).trans hv14178))
                have x14199 := HI.eqI hI14192 (p := 231) (b := 15) (((gI_sW).trans ((hF14162.1 231 15 (by decide)).trans ((hF14130.1 231 15 (by decide)).trans ((hF14091.1 231 15 (by decide)).trans ((gI_sW).trans ((gI_sW).trans ((hF14033.1 231 15 (by decide)).trans ((gI_sW).trans (gI_sI_eq hI14010.1 kx_231 rfl _))))))))))
                have x14200 := HI.eqI hI14192 (p := 231) (b := 17) (((gI_sW).trans hv14180))
                have x14201 := HI.eqI hI0 (p := 231) (b := 8) (hv1)
                have x14202 := HI.eqI hI0 (p := 231) (b := 9) (hv2)
                have x14203 := HI.eqI hI0 (p := 231) (b := 10) (hv3)
                have x14204 := HI.eqI hI0 (p := 231) (b := 11) (hv4)
                have x14205 := HI.eqI hI0 (p := 231) (b := 14) (hv5)
                have x14206 := HI.eqI hI0 (p := 231) (b := 15) (hv6)
                have x14207 := HI.eqI hI0 (p := 231) (b := 17) (hv7)
                have w2614208 := W26.cong c14188 hI14192 ((gI_sW)) ((gI_sW)) ((gI_sW)) ((gJ_sW))
                exact ⟨_, rfl, hI14192, hF14193, rfl, ⟨by omega, by omega, by omega, by omega, w2614208, by omega, (fun hbad => by have t0 := (c14061 (by omega)).1; have x0 := (c14061 (by omega)).2; have u0 : (gI _ 231 17).toInt ≤ (gI _ 231 17).toInt := x0.1; have t1 := (c14190 (by omega)).1; have x1 := (c14190 (by omega)).2; have u1 : (gI _ 231 17).toInt ≤ (gI _ 231 17).toInt := x1.1; exact ⟨by omega, CLS.step (K := (gI g0 231 15).toInt) (n1 := (gI g0 231 17).toInt) (n2 := v14051.toInt) hC ⟨by omega, by omega⟩ ⟨by omega, by omega, by omega⟩ (fun i i0 i1 => ((eA_sA_ne (i := i) hI14161.1 ka_237 (by omega) (by omega) (by omega)).trans ((eA_c (hF14162.2.1 237 (by decide))).trans ((eA_c (hF14130.2.1 237 (by decide))).trans ((eA_c (hF14091.2.1 237 (by decide))).trans ((eA_sA_ne (i := i) hI14063.1 ka_237 (by omega) (by omega) (by omega)).trans ((eA_sA_ne (i := i) hI14032.1 ka_237 (by omega) (by omega) (by omega)).trans ((eA_c (hF14033.2.1 237 (by decide))).trans ((eA_sA_ne (i := i) hI14013.1 ka_237 (by omega) (by omega) (by omega)).trans ((eA_c gA_sI).trans ((eA_sA_ne (i := i) hI13995.1 ka_237 (by omega) (by omega) (by omega)).trans ((q14006 i i0 (by omega)).trans ((eA_c (hF13759.2.1 237 (by decide))).trans (eA_c (q13745.2.1 237 (by decide)))))))))))))))) (by show (eA _ 237 (8 * (gI g0 231 15).toInt + 3)).toInt = (gI g0 231 17).toInt; rw [show 8 * (gI g0 231 15).toInt + 3 = (8 * v6.toInt + 3) by omega]; exact (congrArg Int32.toInt (((eA_sA_ne hI14161.1 ka_237 (by first | decide | omega) (by first | decide | omega) (by first | decide | omega)).trans ((eA_c (hF14162.2.1 237 (by decide))).trans ((eA_c (hF14130.2.1 237 (by decide))).trans ((eA_c (hF14091.2.1 237 (by decide))).trans ((eA_sA_ne hI14063.1 ka_237 (by first | decide | omega) (by first | decide | omega) (by first | decide | omega)).trans ((eA_sA_ne hI14032.1 ka_237 (by first | decide | omega) (by first | decide | omega) (by first | decide | omega)).trans ((eA_c (hF14033.2.1 237 (by decide))).trans (eA_sA_eq hI14013.1 ka_237 (by first | rfl | omega) (by first | decide | omega) (by first | decide | omega))))))))))).trans (by omega)) (by show (eA _ 237 (8 * (gI g0 231 15).toInt + 4)).toInt = v14051.toInt; rw [show 8 * (gI g0 231 15).toInt + 4 = (8 * v6.toInt + 4) by omega]; exact (congrArg Int32.toInt (((eA_sA_ne hI14161.1 ka_237 (by first | decide | omega) (by first | decide | omega) (by first | decide | omega)).trans ((eA_c (hF14162.2.1 237 (by decide))).trans ((eA_c (hF14130.2.1 237 (by decide))).trans ((eA_c (hF14091.2.1 237 (by decide))).trans ((eA_sA_ne hI14063.1 ka_237 (by first | decide | omega) (by first | decide | omega) (by first | decide | omega)).trans (eA_sA_eq hI14032.1 ka_237 (by first | rfl | omega) (by first | decide | omega) (by first | decide | omega))))))))).trans (by omega)) (by show (eA _ 237 (8 * (gI g0 231 15).toInt + 5)).toInt = v14051.toInt; rw [show 8 * (gI g0 231 15).toInt + 5 = (8 * v6.toInt + 5) by omega]; exact (congrArg Int32.toInt (((eA_sA_ne hI14161.1 ka_237 (by first | decide | omega) (by first | decide | omega) (by first | decide | omega)).trans ((eA_c (hF14162.2.1 237 (by decide))).trans ((eA_c (hF14130.2.1 237 (by decide))).trans ((eA_c (hF14091.2.1 237 (by decide))).trans (eA_sA_eq hI14063.1 ka_237 (by first | rfl | omega) (by first | decide | omega) (by first | decide | omega)))))))).trans (by omega)) (by show (eA _ 237 (8 * (gI g0 231 15).toInt + 6)).toInt = (gI _ 231 17).toInt; rw [show 8 * (gI g0 231 15).toInt + 6 = (8 * v6.toInt + 6) by omega]; exact (congrArg Int32.toInt ((eA_sA_eq hI14161.1 ka_237 (by first | rfl | omega) (by first | decide | omega) (by first | decide | omega)))).trans (by omega)) (show SAME g0 _ (gI g0 231 17).toInt from (SAME.tr (SAME.tr (SAME.tr (SAME.tr (SAME.c hI14016 (((gA_sA_ne (by decide)).trans ((gA_sI).trans ((gA_sA_ne (by decide)).trans ((q14005.2.1 238 (by decide)).trans ((hF13759.2.1 238 (by decide)).trans (q13745.2.1 238 (by decide)))))))) (((gA_sA_ne (by decide)).trans ((gA_sI).trans ((gA_sA_ne (by decide)).trans ((q14005.2.1 239 (by decide)).trans ((hF13759.2.1 239 (by decide)).trans (q13745.2.1 239 (by decide))))))))) (EXPR.same x0) (by show _ ≤ (gI _ 231 17).toInt; omega)) (SAME.c hI14129 (((hF14130.2.1 238 (by decide)).trans ((hF14091.2.1 238 (by decide)).trans ((gA_sA_ne (by decide)).trans (gA_sA_ne (by decide)))))) (((hF14130.2.1 239 (by decide)).trans ((hF14091.2.1 239 (by decide)).trans ((gA_sA_ne (by decide)).trans (gA_sA_ne (by decide))))))) (by omega)) (EXPR.same x1) (by show _ ≤ (gI _ 231 17).toInt; omega)) (SAME.c hI14192 ((gA_sA_ne (by decide))) ((gA_sA_ne (by decide)))) (Int.le_refl _))) (EXPR.code x0 (show SAME g14031 _ (gI g14031 231 17).toInt from (SAME.tr (SAME.tr (SAME.c hI14129 (((hF14130.2.1 238 (by decide)).trans ((hF14091.2.1 238 (by decide)).trans ((gA_sA_ne (by decide)).trans (gA_sA_ne (by decide)))))) (((hF14130.2.1 239 (by decide)).trans ((hF14091.2.1 239 (by decide)).trans ((gA_sA_ne (by decide)).trans (gA_sA_ne (by decide))))))) (EXPR.same x1) (by show _ ≤ (gI _ 231 17).toInt; omega)) (SAME.c hI14192 ((gA_sA_ne (by decide))) ((gA_sA_ne (by decide)))) (Int.le_refl _))) (by show _ = (gI _ 231 17).toInt; omega) (by show _ = (gI _ 231 17).toInt; omega) (by show 0 ≤ (gI _ 231 17).toInt; omega)) (EXPR.code x1 (show SAME g14160 _ (gI g14160 231 17).toInt from (SAME.c hI14192 ((gA_sA_ne (by decide))) ((gA_sA_ne (by decide))))) (by show _ = (gI _ 231 17).toInt; omega) (by show _ = (gI _ 231 17).toInt; omega) (by show 0 ≤ (gI _ 231 17).toInt; omega))⟩)⟩⟩
        · have c14009_ : x13993.toInt < 8 := en_i_ge_f c14009
          refine At.enter rfl ?_
          refine r_aload_n e14000 ?_
          refine q_getR (Sh.ref hI13995.1 kx_231 rfl) ?_
          refine r_iload_n e14002 ?_
          refine r_iload_n e14003 ?_
          refine q_iadd (v13789.toInt + x13993.toInt) rfl (by omega) (fun v14209 hv14209 => ?_)
          refine r_iconst 0 rfl ?_
          refine q_iast (Sh.arr hI13995.1 ka_237) ((8 * v6.toInt + x13993.toInt)) (by omega) (by omega) ?_
          have hI14210 := HI.wA0 hI13995 ka_237 (p := 237) rfl rfl ((8 * v6.toInt + x13993.toInt)) (0)
          have hF14211 := Fr.wA (p := 237) (j := (8 * v6.toInt + x13993.toInt)) (v := 0) hF13996 rfl
          refine q_iinc e14003 (x13993.toInt + 1) rfl (by omega) (fun v14212 hv14212 => ?_)
          refine r_goto ?_
          exact ih13999 (8 - v14212.toInt) _ _ ⟨v14212, by first | rfl | omega, hI14210, hF14211, (w_p1 (by decide) (Or.inr rfl) e14000), (w_p1 (by decide) (Or.inr rfl) e14001), (w_p1 (by decide) (Or.inr rfl) e14002), (w_e1 _ _ _), by omega, (Fr.wA (p := 237) q14005 rfl), (fun i i0 i1 => (eA_sA_ne (i := i) hI13995.1 ka_237 (by omega) (by omega) (by omega)).trans (q14006 i i0 i1))⟩ ⟨by omega, by omega⟩
      · have c13785_ : v13776.toInt ≠ 0 := en_k_eq_f c13785
        clear c13784
        refine At.enter rfl ?_
        refine r_vret ?_
        have x14213 := HI.eqI hI13758 (p := 231) (b := 8) ((((hF13759.1 231 8 (by decide)).trans (q13745.1 231 8 (by decide))).trans hv1))
        have x14214 := HI.eqI hI13758 (p := 231) (b := 9) (hv13770)
        have x14215 := HI.eqI hI13758 (p := 231) (b := 10) (hv13772)
        have x14216 := HI.eqI hI13758 (p := 231) (b := 11) (hv13774)
        have x14217 := HI.eqI hI13758 (p := 231) (b := 14) (hv13776)
        have x14218 := HI.eqI hI13758 (p := 231) (b := 15) ((((hF13759.1 231 15 (by decide)).trans (q13745.1 231 15 (by decide))).trans hv6))
        have x14219 := HI.eqI hI13758 (p := 231) (b := 17) ((((hF13759.1 231 17 (by decide)).trans (q13745.1 231 17 (by decide))).trans hv7))
        have x14220 := HI.eqI hI0 (p := 231) (b := 8) (hv1)
        have x14221 := HI.eqI hI0 (p := 231) (b := 9) (hv2)
        have x14222 := HI.eqI hI0 (p := 231) (b := 10) (hv3)
        have x14223 := HI.eqI hI0 (p := 231) (b := 11) (hv4)
        have x14224 := HI.eqI hI0 (p := 231) (b := 14) (hv5)
        have x14225 := HI.eqI hI0 (p := 231) (b := 15) (hv6)
        have x14226 := HI.eqI hI0 (p := 231) (b := 17) (hv7)
        exact ⟨_, rfl, hI13758, hF13762, rfl, ⟨by omega, by omega, by omega, by omega, c13783, by omega, (fun hbad => False.elim (by omega))⟩⟩
    · have c13750_ : x13732.toInt ≠ (-1) := en_i_eq_f c13750
      refine At.enter rfl ?_
      refine r_aload_n e13740 ?_
      refine q_getI (Sh.int hI13735.1 kx_231 rfl) v6 ((q13745.1 231 15 (by decide)).trans hv6) ?_
      refine r_bipush 12 rfl ?_
      refine r_ics 49 rfl (fun c14227 => ?_) (fun c14227 => ?_)
      · have c14227_ : v6.toInt ≥ 12 := en_i_ge_t c14227
        refine At.enter rfl ?_
        refine r_iconst 0 rfl ?_
        refine Ar.fall 54 rfl ?_
        refine At.enter rfl ?_
        have x14228 := HI.eqI hI13735 (p := 231) (b := 8) (((q13745.1 231 8 (by decide)).trans hv1))
        have x14229 := HI.eqI hI13735 (p := 231) (b := 9) (((q13745.1 231 9 (by decide)).trans hv2))
        have x14230 := HI.eqI hI13735 (p := 231) (b := 10) (((q13745.1 231 10 (by decide)).trans hv3))
        have x14231 := HI.eqI hI13735 (p := 231) (b := 11) (((q13745.1 231 11 (by decide)).trans hv4))
        have w2614232 := W26.cong hW hI13735 ((q13745.1 231 9 (by decide))) ((q13745.1 231 10 (by decide))) ((q13745.1 231 11 (by decide))) ((q13745.2.2 231 12 (by decide)))
        have zv14233 : (0 : Int32).toInt = 0 := rfl
        refine r_callV 57 rfl [.ref 231, .int 0] [] (Nat.le_of_ble_eq_true rfl) rfl (T_X11_must_231 _ hI13735 0 (by decide) (by refine ⟨?_, ?_, ?_, ?_⟩ <;> omega) w2614232) ?_
        rintro _ _ ⟨g14234, rfl, hI14235, hF14236, rfl, hr14238⟩
        refine At.stn ?_
        have hF14239 := Fr.tr hF13736 hF14236 rfl rfl
        have zv14240 : (0 : Int32).toInt = 0 := rfl
        have x14241 := HI.eqI hI13735 (p := 231) (b := 8) (((q13745.1 231 8 (by decide)).trans hv1))
        have x14242 := HI.eqI hI13735 (p := 231) (b := 9) (((q13745.1 231 9 (by decide)).trans hv2))
        have x14243 := HI.eqI hI13735 (p := 231) (b := 10) (((q13745.1 231 10 (by decide)).trans hv3))
        have x14244 := HI.eqI hI13735 (p := 231) (b := 11) (((q13745.1 231 11 (by decide)).trans hv4))
        have x14245 := HI.eqI hI13735 (p := 231) (b := 14) (((q13745.1 231 14 (by decide)).trans hv5))
        have x14246 := HI.eqI hI14235 (p := 231) (b := 8) ((((hF14236.1 231 8 (by decide)).trans (q13745.1 231 8 (by decide))).trans hv1))
        obtain ⟨v14247, hv14247⟩ : ∃ v, gI g14234 231 9 = v := ⟨_, rfl⟩
        have rv14247 := RgF.at hI14235.2.1 (p := 231) (b := 9) rfl
        rw [hv14247] at rv14247
        dsimp only at rv14247
        have tv14247 := congrArg Int32.toInt hv14247
        have x14248 := HI.eqI hI14235 (p := 231) (b := 9) (hv14247)
        obtain ⟨v14249, hv14249⟩ : ∃ v, gI g14234 231 10 = v := ⟨_, rfl⟩
        have rv14249 := RgF.at hI14235.2.1 (p := 231) (b := 10) rfl
        rw [hv14249] at rv14249
        dsimp only at rv14249
        have tv14249 := congrArg Int32.toInt hv14249
        have x14250 := HI.eqI hI14235 (p := 231) (b := 10) (hv14249)
        obtain ⟨v14251, hv14251⟩ : ∃ v, gI g14234 231 11 = v := ⟨_, rfl⟩
        have tv14251 := congrArg Int32.toInt hv14251
        have x14252 := HI.eqI hI14235 (p := 231) (b := 11) (hv14251)
        obtain ⟨v14253, hv14253⟩ : ∃ v, gI g14234 231 14 = v := ⟨_, rfl⟩
        have tv14253 := congrArg Int32.toInt hv14253
        have x14254 := HI.eqI hI14235 (p := 231) (b := 14) (hv14253)
        obtain ⟨c14255, c14256, c14257, c14258, c14259, c14260, c14261⟩ := hr14238
        refine At.enter rfl ?_
        refine r_aload_n e13740 ?_
        refine q_getI (Sh.int hI14235.1 kx_231 rfl) v14253 hv14253 ?_
        refine r_ifs 64 rfl (fun c14262 => ?_) (fun c14262 => ?_)
        · have c14262_ : v14253.toInt = 0 := en_k_eq_t c14262
          obtain ⟨i14263, i14264, i14265⟩ := c14261 (by omega)
          refine At.enter rfl ?_
          refine r_bipush 8 rfl ?_
          refine r_aload_n e13740 ?_
          refine q_getI (Sh.int hI14235.1 kx_231 rfl) v6 (((hF14236.1 231 15 (by decide)).trans (q13745.1 231 15 (by decide))).trans hv6) ?_
          refine q_imul (8 * v6.toInt) rfl (by omega) (fun v14266 hv14266 => ?_)
          refine r_istore_n _ rfl ?_
          refine r_iconst 0 rfl ?_
          refine r_istore_n _ rfl ?_
          refine Ar.fall 75 rfl ?_
          have z_14586 : (0 : Int32).toInt = 0 := rfl
          refine w_loopI (fun n_ l_ g_ => ∃ x14572 : Int32, n_ = 8 - x14572.toInt ∧ HI g_ ∧ Fr F_X11_readClause_231 A_X11_readClause_231 g0 g_ ∧ en_get 0 l_ = some (.ref 231) ∧ en_get 1 l_ = some (.int x13732) ∧ en_get 2 l_ = some (.int v14266) ∧ en_get 3 l_ = some (.int x14572) ∧ (0 ≤ x14572.toInt ∧ x14572.toInt ≤ 8) ∧ (Fr [] [237] g14234 g_) ∧ (∀ i : Int, 0 ≤ i → i < v14266.toInt → eA g_ 237 i = eA g14234 237 i)) ?_ (8 - 0) ⟨0, by first | rfl | omega, hI14235, hF14239, (w_p1 (by decide) (Or.inr rfl) (w_p1 (by decide) (Or.inr rfl) e13740)), (w_p1 (by decide) (Or.inr rfl) (w_p1 (by decide) (Or.inr rfl) e13741)), (w_p1 (by decide) (Or.inr rfl) (w_e1 _ _ _)), (w_e1 _ _ _), by decide, Fr.rf, (fun i i0 i1 => rfl)⟩
          rintro n14577 l14576 g14573 ⟨x14572, hm14587, hI14574, hF14575, e14579, e14580, e14581, e14582, r14583, q14584, q14585⟩ ih14578
          refine At.enter rfl ?_
          refine r_iload_n e14582 ?_
          refine r_bipush 8 rfl ?_
          refine r_ics 81 rfl (fun c14588 => ?_) (fun c14588 => ?_)
          · have c14588_ : x14572.toInt ≥ 8 := en_i_ge_t c14588
            refine At.enter rfl ?_
            refine r_aload_n e14579 ?_
            refine q_getR (Sh.ref hI14574.1 kx_231 rfl) ?_
            refine r_iload_n e14581 ?_
            refine r_iload_n e14580 ?_
            refine q_iast (Sh.arr hI14574.1 ka_237) ((8 * v6.toInt)) (by omega) (by omega) ?_
            have hI14589 := HI.wA0 hI14574 ka_237 (p := 237) rfl rfl ((8 * v6.toInt)) (x13732)
            have hF14590 := Fr.wA (p := 237) (j := (8 * v6.toInt)) (v := x13732) hF14575 rfl
            refine r_aload_n e14579 ?_
            refine r_dup rfl ?_
            refine q_getI (Sh.int hI14589.1 kx_231 rfl) v6 (((gI_sW).trans ((q14584.1 231 15 (by decide)).trans ((hF14236.1 231 15 (by decide)).trans (q13745.1 231 15 (by decide))))).trans hv6) ?_
            refine r_iconst 1 rfl ?_
            refine q_iadd (v6.toInt + 1) rfl (by omega) (fun v14591 hv14591 => ?_)
            refine q_putI (Sh.int hI14589.1 kx_231 rfl) rfl ?_
            have hI14592 := HI.wI1 hI14589 kx_231 rfl (p := 231) (b := 15) (v := v14591) rfl (by dsimp only; omega)
            have hF14593 := Fr.wI (p := 231) (b := 15) (v := v14591) hF14590 rfl
            refine r_aload_n e14579 ?_
            refine q_getR (Sh.ref hI14592.1 kx_231 rfl) ?_
            refine r_iload_n e14581 ?_
            refine r_iconst 3 rfl ?_
            refine q_iadd (v14266.toInt + 3) rfl (by omega) (fun v14594 hv14594 => ?_)
            refine r_aload_n e14579 ?_
            refine q_getI (Sh.int hI14592.1 kx_231 rfl) v7 (((gI_sI_ne (by decide)).trans ((gI_sW).trans ((q14584.1 231 17 (by decide)).trans ((hF14236.1 231 17 (by decide)).trans (q13745.1 231 17 (by decide)))))).trans hv7) ?_
            refine q_iast (Sh.arr hI14592.1 ka_237) ((8 * v6.toInt + 3)) (by omega) (by omega) ?_
            have hI14595 := HI.wA0 hI14592 ka_237 (p := 237) rfl rfl ((8 * v6.toInt + 3)) (v7)
            have hF14596 := Fr.wA (p := 237) (j := (8 * v6.toInt + 3)) (v := v7) hF14593 rfl
            refine r_iload_n e14580 ?_
            refine r_iconst 2 rfl ?_
            refine r_ics 130 rfl (fun c14597 => ?_) (fun c14597 => ?_)
            · have c14597_ : x13732.toInt ≥ 2 := en_i_ge_t c14597
              refine At.enter rfl ?_
              refine r_aload_n e14579 ?_
              refine q_getR (Sh.ref hI14595.1 kx_231 rfl) ?_
              refine r_iload_n e14581 ?_
              refine r_iconst 4 rfl ?_
              refine q_iadd (v14266.toInt + 4) rfl (by omega) (fun v14598 hv14598 => ?_)
              refine r_aload_n e14579 ?_
              refine q_getI (Sh.int hI14595.1 kx_231 rfl) v7 (((gI_sW).trans ((gI_sI_ne (by decide)).trans ((gI_sW).trans ((q14584.1 231 17 (by decide)).trans ((hF14236.1 231 17 (by decide)).trans (q13745.1 231 17 (by decide))))))).trans hv7) ?_
              refine q_iast (Sh.arr hI14595.1 ka_237) ((8 * v6.toInt + 4)) (by omega) (by omega) ?_
              have hI14599 := HI.wA0 hI14595 ka_237 (p := 237) rfl rfl ((8 * v6.toInt + 4)) (v7)
              have hF14600 := Fr.wA (p := 237) (j := (8 * v6.toInt + 4)) (v := v7) hF14596 rfl
              refine r_aload_n e14579 ?_
              refine q_getR (Sh.ref hI14599.1 kx_231 rfl) ?_
              refine r_iload_n e14581 ?_
              refine r_iconst 5 rfl ?_
              refine q_iadd (v14266.toInt + 5) rfl (by omega) (fun v14601 hv14601 => ?_)
              refine r_aload_n e14579 ?_
              refine q_getI (Sh.int hI14599.1 kx_231 rfl) v7 (((gI_sW).trans ((gI_sW).trans ((gI_sI_ne (by decide)).trans ((gI_sW).trans ((q14584.1 231 17 (by decide)).trans ((hF14236.1 231 17 (by decide)).trans (q13745.1 231 17 (by decide)))))))).trans hv7) ?_
              refine q_iast (Sh.arr hI14599.1 ka_237) ((8 * v6.toInt + 5)) (by omega) (by omega) ?_
              have hI14602 := HI.wA0 hI14599 ka_237 (p := 237) rfl rfl ((8 * v6.toInt + 5)) (v7)
              have hF14603 := Fr.wA (p := 237) (j := (8 * v6.toInt + 5)) (v := v7) hF14600 rfl
              refine r_aload_n e14579 ?_
              refine q_getI (Sh.int hI14602.1 kx_231 rfl) v14253 (((gI_sW).trans ((gI_sW).trans ((gI_sW).trans ((gI_sI_ne (by decide)).trans ((gI_sW).trans (q14584.1 231 14 (by decide))))))).trans hv14253) ?_
              refine r_ifs 166 rfl (fun c14604 => ?_) (fun c14604 => ?_)
              · have c14604_ : v14253.toInt ≠ 0 := en_k_ne_t c14604
                clear c14261
                exfalso; omega
              · have c14604_ : v14253.toInt = 0 := en_k_ne_f c14604
                obtain ⟨i14605, i14606, i14607⟩ := c14261 (by omega)
                refine At.enter rfl ?_
                refine r_aload_n e14579 ?_
                refine r_ldc2 294 rfl ?_
                have x14608 := HI.eqI hI14602 (p := 231) (b := 11) ((((gI_sW).trans ((gI_sW).trans ((gI_sW).trans ((gI_sI_ne (by decide)).trans ((gI_sW).trans (q14584.1 231 11 (by decide))))))).trans hv14251))
                have zv14609 : (294 : Int64).toInt = 294 := rfl
                refine r_callV 173 rfl [.ref 231, .long 294] [] (Nat.le_of_ble_eq_true rfl) rfl (T_X11_isWord_231 _ hI14602 294 (by omega)) ?_
                rintro _ _ ⟨g14610, rfl, hI14611, hF14612, v14613, rfl, hr14614⟩
                refine At.sti ?_
                have hF14615 := Fr.tr hF14603 hF14612 rfl rfl
                have zv14616 : (294 : Int64).toInt = 294 := rfl
                have x14617 := HI.eqI hI14602 (p := 231) (b := 9) ((((gI_sW).trans ((gI_sW).trans ((gI_sW).trans ((gI_sI_ne (by decide)).trans ((gI_sW).trans (q14584.1 231 9 (by decide))))))).trans hv14247))
                have x14618 := HI.eqI hI14602 (p := 231) (b := 10) ((((gI_sW).trans ((gI_sW).trans ((gI_sW).trans ((gI_sI_ne (by decide)).trans ((gI_sW).trans (q14584.1 231 10 (by decide))))))).trans hv14249))
                have x14619 := HI.eqI hI14602 (p := 231) (b := 11) ((((gI_sW).trans ((gI_sW).trans ((gI_sW).trans ((gI_sI_ne (by decide)).trans ((gI_sW).trans (q14584.1 231 11 (by decide))))))).trans hv14251))
                have x14620 := HI.eqI hI14611 (p := 231) (b := 9) ((((hF14612.1 231 9 (by decide)).trans ((gI_sW).trans ((gI_sW).trans ((gI_sW).trans ((gI_sI_ne (by decide)).trans ((gI_sW).trans (q14584.1 231 9 (by decide)))))))).trans hv14247))
                have x14621 := HI.eqI hI14611 (p := 231) (b := 10) ((((hF14612.1 231 10 (by decide)).trans ((gI_sW).trans ((gI_sW).trans ((gI_sW).trans ((gI_sI_ne (by decide)).trans ((gI_sW).trans (q14584.1 231 10 (by decide)))))))).trans hv14249))
                have x14622 := HI.eqI hI14611 (p := 231) (b := 11) ((((hF14612.1 231 11 (by decide)).trans ((gI_sW).trans ((gI_sW).trans ((gI_sW).trans ((gI_sI_ne (by decide)).trans ((gI_sW).trans (q14584.1 231 11 (by decide)))))))).trans hv14251))
                obtain ⟨c14625, c14623, isw14624⟩ := hr14614
                have w2614626 := W26.cong c14260 hI14602 (((gI_sW).trans ((gI_sW).trans ((gI_sW).trans ((gI_sI_ne (by decide)).trans ((gI_sW).trans (q14584.1 231 9 (by decide)))))))) (((gI_sW).trans ((gI_sW).trans ((gI_sW).trans ((gI_sI_ne (by decide)).trans ((gI_sW).trans (q14584.1 231 10 (by decide)))))))) (((gI_sW).trans ((gI_sW).trans ((gI_sW).trans ((gI_sI_ne (by decide)).trans ((gI_sW).trans (q14584.1 231 11 (by decide)))))))) (((gJ_sW).trans ((gJ_sW).trans ((gJ_sW).trans ((gJ_sI_ne (by decide)).trans ((gJ_sW).trans (q14584.2.2 231 12 (by decide))))))))
                refine At.enter rfl ?_
                refine r_ifs 176 rfl (fun c14627 => ?_) (fun c14627 => ?_)
                · have c14627_ : v14613.toInt = 0 := en_k_eq_t c14627
                  refine At.enter rfl ?_
                  refine r_aload_n e14579 ?_
                  refine q_getR (Sh.ref hI14611.1 kx_231 rfl) ?_
                  refine r_iload_n e14581 ?_
                  refine r_bipush 6 rfl ?_
                  refine q_iadd (v14266.toInt + 6) rfl (by omega) (fun v14628 hv14628 => ?_)
                  refine r_aload_n e14579 ?_
                  refine q_getI (Sh.int hI14611.1 kx_231 rfl) v7 (((hF14612.1 231 17 (by decide)).trans ((gI_sW).trans ((gI_sW).trans ((gI_sW).trans ((gI_sI_ne (by decide)).trans ((gI_sW).trans ((q14584.1 231 17 (by decide)).trans ((hF14236.1 231 17 (by decide)).trans (q13745.1 231 17 (by decide)))))))))).trans hv7) ?_
                  refine q_iast (Sh.arr hI14611.1 ka_237) ((8 * v6.toInt + 6)) (by omega) (by omega) ?_
                  have hI14629 := HI.wA0 hI14611 ka_237 (p := 237) rfl rfl ((8 * v6.toInt + 6)) (v7)
                  have hF14630 := Fr.wA (p := 237) (j := (8 * v6.toInt + 6)) (v := v7) hF14615 rfl
                  refine r_vret ?_
                  have x14631 := HI.eqI hI14629 (p := 231) (b := 8) ((((gI_sW).trans ((hF14612.1 231 8 (by decide)).trans ((gI_sW).trans ((gI_sW).trans ((gI_sW).trans ((gI_sI_ne (by decide)).trans ((gI_sW).trans ((q14584.1 231 8 (by decide)).trans ((hF14236.1 231 8 (by decide)).trans (q13745.1 231 8 (by decide))))))))))).trans hv1))
                  have x14632 := HI.eqI hI14629 (p := 231) (b := 9) ((((gI_sW).trans ((hF14612.1 231 9 (by decide)).trans ((gI_sW).trans ((gI_sW).trans ((gI_sW).trans ((gI_sI_ne (by decide)).trans ((gI_sW).trans (q14584.1 231 9 (by decide))))))))).trans hv14247))
                  have x14633 := HI.eqI hI14629 (p := 231) (b := 10) ((((gI_sW).trans ((hF14612.1 231 10 (by decide)).trans ((gI_sW).trans ((gI_sW).trans ((gI_sW).trans ((gI_sI_ne (by decide)).trans ((gI_sW).trans (q14584.1 231 10 (by decide))))))))).trans hv14249))
                  have x14634 := HI.eqI hI14629 (p := 231) (b := 11) ((((gI_sW).trans ((hF14612.1 231 11 (by decide)).trans ((gI_sW).trans ((gI_sW).trans ((gI_sW).trans ((gI_sI_ne (by decide)).trans ((gI_sW).trans (q14584.1 231 11 (by decide))))))))).trans hv14251))
                  have x14635 := HI.eqI hI14629 (p := 231) (b := 14) ((((gI_sW).trans ((hF14612.1 231 14 (by decide)).trans ((gI_sW).trans ((gI_sW).trans ((gI_sW).trans ((gI_sI_ne (by decide)).trans ((gI_sW).trans (q14584.1 231 14 (by decide))))))))).trans hv14253))
                  have x14636 := HI.eqI hI14629 (p := 231) (b := 15) (((gI_sW).trans ((hF14612.1 231 15 (by decide)).trans ((gI_sW).trans ((gI_sW).trans ((gI_sW).trans (gI_sI_eq hI14589.1 kx_231 rfl _)))))))
                  have x14637 := HI.eqI hI14629 (p := 231) (b := 17) ((((gI_sW).trans ((hF14612.1 231 17 (by decide)).trans ((gI_sW).trans ((gI_sW).trans ((gI_sW).trans ((gI_sI_ne (by decide)).trans ((gI_sW).trans ((q14584.1 231 17 (by decide)).trans ((hF14236.1 231 17 (by decide)).trans (q13745.1 231 17 (by decide))))))))))).trans hv7))
                  have x14638 := HI.eqI hI0 (p := 231) (b := 8) (hv1)
                  have x14639 := HI.eqI hI0 (p := 231) (b := 9) (hv2)
                  have x14640 := HI.eqI hI0 (p := 231) (b := 10) (hv3)
                  have x14641 := HI.eqI hI0 (p := 231) (b := 11) (hv4)
                  have x14642 := HI.eqI hI0 (p := 231) (b := 14) (hv5)
                  have x14643 := HI.eqI hI0 (p := 231) (b := 15) (hv6)
                  have x14644 := HI.eqI hI0 (p := 231) (b := 17) (hv7)
                  have w2614645 := W26.cong c14260 hI14629 (((gI_sW).trans ((hF14612.1 231 9 (by decide)).trans ((gI_sW).trans ((gI_sW).trans ((gI_sW).trans ((gI_sI_ne (by decide)).trans ((gI_sW).trans (q14584.1 231 9 (by decide)))))))))) (((gI_sW).trans ((hF14612.1 231 10 (by decide)).trans ((gI_sW).trans ((gI_sW).trans ((gI_sW).trans ((gI_sI_ne (by decide)).trans ((gI_sW).trans (q14584.1 231 10 (by decide)))))))))) (((gI_sW).trans ((hF14612.1 231 11 (by decide)).trans ((gI_sW).trans ((gI_sW).trans ((gI_sW).trans ((gI_sI_ne (by decide)).trans ((gI_sW).trans (q14584.1 231 11 (by decide)))))))))) (((gJ_sW).trans ((hF14612.2.2 231 12 (by decide)).trans ((gJ_sW).trans ((gJ_sW).trans ((gJ_sW).trans ((gJ_sI_ne (by decide)).trans ((gJ_sW).trans (q14584.2.2 231 12 (by decide))))))))))
                  exact ⟨_, rfl, hI14629, hF14630, rfl, ⟨by omega, by omega, by omega, by omega, w2614645, by omega, (fun hbad => by exact ⟨by omega, CLS.step (K := (gI g0 231 15).toInt) (n1 := (gI g0 231 17).toInt) (n2 := v7.toInt) hC ⟨by omega, by omega⟩ ⟨by omega, by omega, by omega⟩ (fun i i0 i1 => ((eA_sA_ne (i := i) hI14611.1 ka_237 (by omega) (by omega) (by omega)).trans ((eA_c (hF14612.2.1 237 (by decide))).trans ((eA_sA_ne (i := i) hI14599.1 ka_237 (by omega) (by omega) (by omega)).trans ((eA_sA_ne (i := i) hI14595.1 ka_237 (by omega) (by omega) (by omega)).trans ((eA_sA_ne (i := i) hI14592.1 ka_237 (by omega) (by omega) (by omega)).trans ((eA_c gA_sI).trans ((eA_sA_ne (i := i) hI14574.1 ka_237 (by omega) (by omega) (by omega)).trans ((q14585 i i0 (by omega)).trans ((eA_c (hF14236.2.1 237 (by decide))).trans (eA_c (q13745.2.1 237 (by decide))))))))))))) (by show (eA _ 237 (8 * (gI g0 231 15).toInt + 3)).toInt = (gI g0 231 17).toInt; rw [show 8 * (gI g0 231 15).toInt + 3 = (8 * v6.toInt + 3) by omega]; exact (congrArg Int32.toInt (((eA_sA_ne hI14611.1 ka_237 (by first | decide | omega) (by first | decide | omega) (by first | decide | omega)).trans ((eA_c (hF14612.2.1 237 (by decide))).trans ((eA_sA_ne hI14599.1 ka_237 (by first | decide | omega) (by first | decide | omega) (by first | decide | omega)).trans ((eA_sA_ne hI14595.1 ka_237 (by first | decide | omega) (by first | decide | omega) (by first | decide | omega)).trans (eA_sA_eq hI14592.1 ka_237 (by first | rfl | omega) (by first | decide | omega) (by first | decide | omega)))))))).trans (by omega)) (by show (eA _ 237 (8 * (gI g0 231 15).toInt + 4)).toInt = v7.toInt; rw [show 8 * (gI g0 231 15).toInt + 4 = (8 * v6.toInt + 4) by omega]; exact (congrArg Int32.toInt (((eA_sA_ne hI14611.1 ka_237 (by first | decide | omega) (by first | decide | omega) (by first | decide | omega)).trans ((eA_c (hF14612.2.1 237 (by decide))).trans ((eA_sA_ne hI14599.1 ka_237 (by first | decide | omega) (by first | decide | omega) (by first | decide | omega)).trans (eA_sA_eq hI14595.1 ka_237 (by first | rfl | omega) (by first | decide | omega) (by first | decide | omega))))))).trans (by omega)) (by show (eA _ 237 (8 * (gI g0 231 15).toInt + 5)).toInt = v7.toInt; rw [show 8 * (gI g0 231 15).toInt + 5 = (8 * v6.toInt + 5) by omega]; exact (congrArg Int32.toInt (((eA_sA_ne hI14611.1 ka_237 (by first | decide | omega) (by first | decide | omega) (by first | decide | omega)).trans ((eA_c (hF14612.2.1 237 (by decide))).trans (eA_sA_eq hI14599.1 ka_237 (by first | rfl | omega) (by first | decide | omega) (by first | decide | omega)))))).trans (by omega)) (by show (eA _ 237 (8 * (gI g0 231 15).toInt + 6)).toInt = (gI _ 231 17).toInt; rw [show 8 * (gI g0 231 15).toInt + 6 = (8 * v6.toInt + 6) by omega]; exact (congrArg Int32.toInt ((eA_sA_eq hI14611.1 ka_237 (by first | rfl | omega) (by first | decide | omega) (by first | decide | omega)))).trans (by omega)) (show SAME g0 _ (gI g0 231 17).toInt from (SAME.c hI14629 (((gA_sA_ne (by decide)).trans ((hF14612.2.1 238 (by decide)).trans ((gA_sA_ne (by decide)).trans ((gA_sA_ne (by decide)).trans ((gA_sA_ne (by decide)).trans ((gA_sI).trans ((gA_sA_ne (by decide)).trans ((q14584.2.1 238 (by decide)).trans ((hF14236.2.1 238 (by decide)).trans (q13745.2.1 238 (by decide)))))))))))) (((gA_sA_ne (by decide)).trans ((hF14612.2.1 239 (by decide)).trans ((gA_sA_ne (by decide)).trans ((gA_sA_ne (by decide)).trans ((gA_sA_ne (by decide)).trans ((gA_sI).trans ((gA_sA_ne (by decide)).trans ((q14584.2.1 239 (by decide)).trans ((hF14236.2.1 239 (by decide)).trans (q13745.2.1 239 (by decide)))))))))))))) (WfCode.nil' (by omega) (by omega) (by omega)) (WfCode.nil' (by omega) (by omega) (by omega))⟩)⟩⟩
                · have c14627_ : v14613.toInt ≠ 0 := en_k_eq_f c14627
                  have i14646 := W26.two w2614626 isw14624 (by omega) (by decide)
                  refine At.enter rfl ?_
                  refine r_aload_n e14579 ?_
                  have x14647 := HI.eqI hI14611 (p := 231) (b := 8) ((((hF14612.1 231 8 (by decide)).trans ((gI_sW).trans ((gI_sW).trans ((gI_sW).trans ((gI_sI_ne (by decide)).trans ((gI_sW).trans ((q14584.1 231 8 (by decide)).trans ((hF14236.1 231 8 (by decide)).trans (q13745.1 231 8 (by decide)))))))))).trans hv1))
                  have x14648 := HI.eqI hI14611 (p := 231) (b := 10) ((((hF14612.1 231 10 (by decide)).trans ((gI_sW).trans ((gI_sW).trans ((gI_sW).trans ((gI_sI_ne (by decide)).trans ((gI_sW).trans (q14584.1 231 10 (by decide)))))))).trans hv14249))
                  refine r_callV 180 rfl [.ref 231] [] (Nat.le_of_ble_eq_true rfl) rfl (T_X11_next_231 _ hI14611 (by omega)) ?_
                  rintro _ _ ⟨g14649, rfl, hI14650, hF14651, rfl, hr14653⟩
                  refine At.stn ?_
                  have hF14654 := Fr.tr hF14615 hF14651 rfl rfl
                  have x14655 := HI.eqI hI14611 (p := 231) (b := 8) ((((hF14612.1 231 8 (by decide)).trans ((gI_sW).trans ((gI_sW).trans ((gI_sW).trans ((gI_sI_ne (by decide)).trans ((gI_sW).trans ((q14584.1 231 8 (by decide)).trans ((hF14236.1 231 8 (by decide)).trans (q13745.1 231 8 (by decide)))))))))).trans hv1))
                  have x14656 := HI.eqI hI14611 (p := 231) (b := 10) ((((hF14612.1 231 10 (by decide)).trans ((gI_sW).trans ((gI_sW).trans ((gI_sW).trans ((gI_sI_ne (by decide)).trans ((gI_sW).trans (q14584.1 231 10 (by decide)))))))).trans hv14249))
                  have x14657 := HI.eqI hI14650 (p := 231) (b := 8) ((((hF14651.1 231 8 (by decide)).trans ((hF14612.1 231 8 (by decide)).trans ((gI_sW).trans ((gI_sW).trans ((gI_sW).trans ((gI_sI_ne (by decide)).trans ((gI_sW).trans ((q14584.1 231 8 (by decide)).trans ((hF14236.1 231 8 (by decide)).trans (q13745.1 231 8 (by decide))))))))))).trans hv1))
                  obtain ⟨v14658, hv14658⟩ : ∃ v, gI g14649 231 9 = v := ⟨_, rfl⟩
                  have rv14658 := RgF.at hI14650.2.1 (p := 231) (b := 9) rfl
                  rw [hv14658] at rv14658
                  dsimp only at rv14658
                  have tv14658 := congrArg Int32.toInt hv14658
                  have x14659 := HI.eqI hI14650 (p := 231) (b := 9) (hv14658)
                  obtain ⟨v14660, hv14660⟩ : ∃ v, gI g14649 231 10 = v := ⟨_, rfl⟩
                  have rv14660 := RgF.at hI14650.2.1 (p := 231) (b := 10) rfl
                  rw [hv14660] at rv14660
                  dsimp only at rv14660
                  have tv14660 := congrArg Int32.toInt hv14660
                  have x14661 := HI.eqI hI14650 (p := 231) (b := 10) (hv14660)
                  obtain ⟨v14662, hv14662⟩ : ∃ v, gI g14649 231 11 = v := ⟨_, rfl⟩
                  have tv14662 := congrArg Int32.toInt hv14662
                  have x14663 := HI.eqI hI14650 (p := 231) (b := 11) (hv14662)
                  obtain ⟨c14664, c14665, c14666, c14667, c14668, c14669⟩ := hr14653
                  refine At.enter rfl ?_
                  refine r_aload_n e14579 ?_
                  refine r_iconst 1 rfl ?_
                  have x14670 := HI.eqI hI14650 (p := 231) (b := 8) ((((hF14651.1 231 8 (by decide)).trans ((hF14612.1 231 8 (by decide)).trans ((gI_sW).trans ((gI_sW).trans ((gI_sW).trans ((gI_sI_ne (by decide)).trans ((gI_sW).trans ((q14584.1 231 8 (by decide)).trans ((hF14236.1 231 8 (by decide)).trans (q13745.1 231 8 (by decide))))))))))).trans hv1))
                  have x14671 := HI.eqI hI14650 (p := 231) (b := 9) (hv14658)
                  have x14672 := HI.eqI hI14650 (p := 231) (b := 10) (hv14660)
                  have x14673 := HI.eqI hI14650 (p := 231) (b := 11) (hv14662)
                  obtain ⟨v14674, hv14674⟩ : ∃ v, gJ g14649 231 12 = v := ⟨_, rfl⟩
                  have x14675 := HI.eqJ hI14650 (b := 12) (hv14674)
                  have x14676 := HI.eqI hI14650 (p := 231) (b := 14) ((((hF14651.1 231 14 (by decide)).trans ((hF14612.1 231 14 (by decide)).trans ((gI_sW).trans ((gI_sW).trans ((gI_sW).trans ((gI_sI_ne (by decide)).trans ((gI_sW).trans (q14584.1 231 14 (by decide))))))))).trans hv14253))
                  have x14677 := HI.eqI hI14650 (p := 231) (b := 17) ((((hF14651.1 231 17 (by decide)).trans ((hF14612.1 231 17 (by decide)).trans ((gI_sW).trans ((gI_sW).trans ((gI_sW).trans ((gI_sI_ne (by decide)).trans ((gI_sW).trans ((q14584.1 231 17 (by decide)).trans ((hF14236.1 231 17 (by decide)).trans (q13745.1 231 17 (by decide))))))))))).trans hv7))
                  obtain ⟨v14678, hv14678⟩ : ∃ v, gI g0 231 23 = v := ⟨_, rfl⟩
                  have rv14678 := RgF.at hI0.2.1 (p := 231) (b := 23) rfl
                  rw [hv14678] at rv14678
                  dsimp only at rv14678
                  have tv14678 := congrArg Int32.toInt hv14678
                  have x14679 := HI.eqI hI14650 (p := 231) (b := 23) ((((hF14651.1 231 23 (by decide)).trans ((hF14612.1 231 23 (by decide)).trans ((gI_sW).trans ((gI_sW).trans ((gI_sW).trans ((gI_sI_ne (by decide)).trans ((gI_sW).trans ((q14584.1 231 23 (by decide)).trans ((hF14236.1 231 23 (by decide)).trans (q13745.1 231 23 (by decide))))))))))).trans hv14678))
                  have zv14680 : (1 : Int32).toInt = 1 := rfl
                  refine r_callV 185 rfl [.ref 231, .int 1] [] (Nat.le_of_ble_eq_true rfl) rfl (T_X11_readExpression_231 _ hI14650 1 (by decide) (by refine ⟨?_, ?_, ?_, ?_⟩ <;> omega) (by omega) (by omega) c14669) ?_
                  rintro _ _ ⟨g14681, rfl, hI14682, hF14683, rfl, hr14685⟩
                  refine At.stn ?_
                  have hF14686 := Fr.tr hF14654 hF14683 rfl rfl
                  have zv14687 : (1 : Int32).toInt = 1 := rfl
                  have x14688 := HI.eqI hI14650 (p := 231) (b := 9) (hv14658)
                  have x14689 := HI.eqI hI14650 (p := 231) (b := 17) ((((hF14651.1 231 17 (by decide)).trans ((hF14612.1 231 17 (by decide)).trans ((gI_sW).trans ((gI_sW).trans ((gI_sW).trans ((gI_sI_ne (by decide)).trans ((gI_sW).trans ((q14584.1 231 17 (by decide)).trans ((hF14236.1 231 17 (by decide)).trans (q13745.1 231 17 (by decide))))))))))).trans hv7))
                  have x14690 := HI.eqI hI14682 (p := 231) (b := 8) ((((hF14683.1 231 8 (by decide)).trans ((hF14651.1 231 8 (by decide)).trans ((hF14612.1 231 8 (by decide)).trans ((gI_sW).trans ((gI_sW).trans ((gI_sW).trans ((gI_sI_ne (by decide)).trans ((gI_sW).trans ((q14584.1 231 8 (by decide)).trans ((hF14236.1 231 8 (by decide)).trans (q13745.1 231 8 (by decide)))))))))))).trans hv1))
                  obtain ⟨v14691, hv14691⟩ : ∃ v, gI g14681 231 9 = v := ⟨_, rfl⟩
                  have rv14691 := RgF.at hI14682.2.1 (p := 231) (b := 9) rfl
                  rw [hv14691] at rv14691
                  dsimp only at rv14691
                  have tv14691 := congrArg Int32.toInt hv14691
                  have x14692 := HI.eqI hI14682 (p := 231) (b := 9) (hv14691)
                  obtain ⟨v14693, hv14693⟩ : ∃ v, gI g14681 231 10 = v := ⟨_, rfl⟩
                  have rv14693 := RgF.at hI14682.2.1 (p := 231) (b := 10) rfl
                  rw [hv14693] at rv14693
                  dsimp only at rv14693
                  have tv14693 := congrArg Int32.toInt hv14693
                  have x14694 := HI.eqI hI14682 (p := 231) (b := 10) (hv14693)
                  obtain ⟨v14695, hv14695⟩ : ∃ v, gI g14681 231 11 = v := ⟨_, rfl⟩
                  have tv14695 := congrArg Int32.toInt hv14695
                  have x14696 := HI.eqI hI14682 (p := 231) (b := 11) (hv14695)
                  obtain ⟨v14697, hv14697⟩ : ∃ v, gJ g14681 231 12 = v := ⟨_, rfl⟩
                  have x14698 := HI.eqJ hI14682 (b := 12) (hv14697)
                  obtain ⟨v14699, hv14699⟩ : ∃ v, gI g14681 231 14 = v := ⟨_, rfl⟩
                  have tv14699 := congrArg Int32.toInt hv14699
                  have x14700 := HI.eqI hI14682 (p := 231) (b := 14) (hv14699)
                  obtain ⟨v14701, hv14701⟩ : ∃ v, gI g14681 231 17 = v := ⟨_, rfl⟩
                  have rv14701 := RgF.at hI14682.2.1 (p := 231) (b := 17) rfl
                  rw [hv14701] at rv14701
                  dsimp only at rv14701
                  have tv14701 := congrArg Int32.toInt hv14701
                  have x14702 := HI.eqI hI14682 (p := 231) (b := 17) (hv14701)
                  obtain ⟨v14703, hv14703⟩ : ∃ v, gI g14681 231 23 = v := ⟨_, rfl⟩
                  have rv14703 := RgF.at hI14682.2.1 (p := 231) (b := 23) rfl
                  rw [hv14703] at rv14703
                  dsimp only at rv14703
                  have tv14703 := congrArg Int32.toInt hv14703
                  have x14704 := HI.eqI hI14682 (p := 231) (b := 23) (hv14703)
                  obtain ⟨c14705, c14706, c14707, c14708, c14709, c14710, c14711⟩ := hr14685
                  refine At.enter rfl ?_
                  refine r_aload_n e14579 ?_
                  refine q_getR (Sh.ref hI14682.1 kx_231 rfl) ?_
                  refine r_iload_n e14581 ?_
                  refine r_bipush 6 rfl ?_
                  refine q_iadd (v14266.toInt + 6) rfl (by omega) (fun v14712 hv14712 => ?_)
                  refine r_aload_n e14579 ?_
                  refine q_getI (Sh.int hI14682.1 kx_231 rfl) v14701 hv14701 ?_
                  refine q_iast (Sh.arr hI14682.1 ka_237) ((8 * v6.toInt + 6)) (by omega) (by omega) ?_
                  have hI14713 := HI.wA0 hI14682 ka_237 (p := 237) rfl rfl ((8 * v6.toInt + 6)) (v14701)
                  have hF14714 := Fr.wA (p := 237) (j := (8 * v6.toInt + 6)) (v := v14701) hF14686 rfl
                  refine r_vret ?_
                  have x14715 := HI.eqI hI14713 (p := 231) (b := 8) ((((gI_sW).trans ((hF14683.1 231 8 (by decide)).trans ((hF14651.1 231 8 (by decide)).trans ((hF14612.1 231 8 (by decide)).trans ((gI_sW).trans ((gI_sW).trans ((gI_sW).trans ((gI_sI_ne (by decide)).trans ((gI_sW).trans ((q14584.1 231 8 (by decide)).trans ((hF14236.1 231 8 (by decide)).trans (q13745.1 231 8 (by decide))))))))))))).trans hv1))
                  have x14716 := HI.eqI hI14713 (p := 231) (b := 9) (((gI_sW).trans hv14691))
                  have x14717 := HI.eqI hI14713 (p := 231) (b := 10) (((gI_sW).trans hv14693))
                  have x14718 := HI.eqI hI14713 (p := 231) (b := 11) (((gI_sW).trans hv14695))
                  have x14719 := HI.eqI hI14713 (p := 231) (b := 14) (((gI_sW).trans hv14699))
                  have x14720 := HI.eqI hI14713 (p := 231) (b := 15) (((gI_sW).trans ((hF14683.1 231 15 (by decide)).trans ((hF14651.1 231 15 (by decide)).trans ((hF14612.1 231 15 (by decide)).trans ((gI_sW).trans ((gI_sW).trans ((gI_sW).trans (gI_sI_eq hI14589.1 kx_231 rfl _)))))))))
                  have x14721 := HI.eqI hI14713 (p := 231) (b := 17) (((gI_sW).trans hv14701))
                  have x14722 := HI.eqI hI0 (p := 231) (b := 8) (hv1)
                  have x14723 := HI.eqI hI0 (p := 231) (b := 9) (hv2)
                  have x14724 := HI.eqI hI0 (p := 231) (b := 10) (hv3)
                  have x14725 := HI.eqI hI0 (p := 231) (b := 11) (hv4)
                  have x14726 := HI.eqI hI0 (p := 231) (b := 14) (hv5)
                  have x14727 := HI.eqI hI0 (p := 231) (b := 15) (hv6)
                  have x14728 := HI.eqI hI0 (p := 231) (b := 17) (hv7)
                  have w2614729 := W26.cong c14709 hI14713 ((gI_sW)) ((gI_sW)) ((gI_sW)) ((gJ_sW))
                  exact ⟨_, rfl, hI14713, hF14714, rfl, ⟨by omega, by omega, by omega, by omega, w2614729, by omega, (fun hbad => by have t0 := (c14711 (by omega)).1; have x0 := (c14711 (by omega)).2; have u0 : (gI _ 231 17).toInt ≤ (gI _ 231 17).toInt := x0.1; exact ⟨by omega, CLS.step (K := (gI g0 231 15).toInt) (n1 := (gI g0 231 17).toInt) (n2 := v7.toInt) hC ⟨by omega, by omega⟩ ⟨by omega, by omega, by omega⟩ (fun i i0 i1 => ((eA_sA_ne (i := i) hI14682.1 ka_237 (by omega) (by omega) (by omega)).trans ((eA_c (hF14683.2.1 237 (by decide))).trans ((eA_c (hF14651.2.1 237 (by decide))).trans ((eA_c (hF14612.2.1 237 (by decide))).trans ((eA_sA_ne (i := i) hI14599.1 ka_237 (by omega) (by omega) (by omega)).trans ((eA_sA_ne (i := i) hI14595.1 ka_237 (by omega) (by omega) (by omega)).trans ((eA_sA_ne (i := i) hI14592.1 ka_237 (by omega) (by omega) (by omega)).trans ((eA_c gA_sI).trans ((eA_sA_ne (i := i) hI14574.1 ka_237 (by omega) (by omega) (by omega)).trans ((q14585 i i0 (by omega)).trans ((eA_c (hF14236.2.1 237 (by decide))).trans (eA_c (q13745.2.1 237 (by decide))))))))))))))) (by show (eA _ 237 (8 * (gI g0 231 15).toInt + 3)).toInt = (gI g0 231 17).toInt; rw [show 8 * (gI g0 231 15).toInt + 3 = (8 * v6.toInt + 3) by omega]; exact (congrArg Int32.toInt (((eA_sA_ne hI14682.1 ka_237 (by first | decide | omega) (by first | decide | omega) (by first | decide | omega)).trans ((eA_c (hF14683.2.1 237 (by decide))).trans ((eA_c (hF14651.2.1 237 (by decide))).trans ((eA_c (hF14612.2.1 237 (by decide))).trans ((eA_sA_ne hI14599.1 ka_237 (by first | decide | omega) (by first | decide | omega) (by first | decide | omega)).trans ((eA_sA_ne hI14595.1 ka_237 (by first | decide | omega) (by first | decide | omega) (by first | decide | omega)).trans (eA_sA_eq hI14592.1 ka_237 (by first | rfl | omega) (by first | decide | omega) (by first | decide | omega)))))))))).trans (by omega)) (by show (eA _ 237 (8 * (gI g0 231 15).toInt + 4)).toInt = v7.toInt; rw [show 8 * (gI g0 231 15).toInt + 4 = (8 * v6.toInt + 4) by omega]; exact (congrArg Int32.toInt (((eA_sA_ne hI14682.1 ka_237 (by first | decide | omega) (by first | decide | omega) (by first | decide | omega)).trans ((eA_c (hF14683.2.1 237 (by decide))).trans ((eA_c (hF14651.2.1 237 (by decide))).trans ((eA_c (hF14612.2.1 237 (by decide))).trans ((eA_sA_ne hI14599.1 ka_237 (by first | decide | omega) (by first | decide | omega) (by first | decide | omega)).trans (eA_sA_eq hI14595.1 ka_237 (by first | rfl | omega) (by first | decide | omega) (by first | decide | omega))))))))).trans (by omega)) (by show (eA _ 237 (8 * (gI g0 231 15).toInt + 5)).toInt = v7.toInt; rw [show 8 * (gI g0 231 15).toInt + 5 = (8 * v6.toInt + 5) by omega]; exact (congrArg Int32.toInt (((eA_sA_ne hI14682.1 ka_237 (by first | decide | omega) (by first | decide | omega) (by first | decide | omega)).trans ((eA_c (hF14683.2.1 237 (by decide))).trans ((eA_c (hF14651.2.1 237 (by decide))).trans ((eA_c (hF14612.2.1 237 (by decide))).trans (eA_sA_eq hI14599.1 ka_237 (by first | rfl | omega) (by first | decide | omega) (by first | decide | omega)))))))).trans (by omega)) (by show (eA _ 237 (8 * (gI g0 231 15).toInt + 6)).toInt = (gI _ 231 17).toInt; rw [show 8 * (gI g0 231 15).toInt + 6 = (8 * v6.toInt + 6) by omega]; exact (congrArg Int32.toInt ((eA_sA_eq hI14682.1 ka_237 (by first | rfl | omega) (by first | decide | omega) (by first | decide | omega)))).trans (by omega)) (show SAME g0 _ (gI g0 231 17).toInt from (SAME.tr (SAME.tr (SAME.c hI14650 (((hF14651.2.1 238 (by decide)).trans ((hF14612.2.1 238 (by decide)).trans ((gA_sA_ne (by decide)).trans ((gA_sA_ne (by decide)).trans ((gA_sA_ne (by decide)).trans ((gA_sI).trans ((gA_sA_ne (by decide)).trans ((q14584.2.1 238 (by decide)).trans ((hF14236.2.1 238 (by decide)).trans (q13745.2.1 238 (by decide)))))))))))) (((hF14651.2.1 239 (by decide)).trans ((hF14612.2.1 239 (by decide)).trans ((gA_sA_ne (by decide)).trans ((gA_sA_ne (by decide)).trans ((gA_sA_ne (by decide)).trans ((gA_sI).trans ((gA_sA_ne (by decide)).trans ((q14584.2.1 239 (by decide)).trans ((hF14236.2.1 239 (by decide)).trans (q13745.2.1 239 (by decide))))))))))))) (EXPR.same x0) (by show _ ≤ (gI _ 231 17).toInt; omega)) (SAME.c hI14713 ((gA_sA_ne (by decide))) ((gA_sA_ne (by decide)))) (Int.le_refl _))) (WfCode.nil' (by omega) (by omega) (by omega)) (EXPR.code x0 (show SAME g14681 _ (gI g14681 231 17).toInt from (SAME.c hI14713 ((gA_sA_ne (by decide))) ((gA_sA_ne (by decide))))) (by show _ = (gI _ 231 17).toInt; omega) (by show _ = (gI _ 231 17).toInt; omega) (by show 0 ≤ (gI _ 231 17).toInt; omega))⟩)⟩⟩
            · have c14597_ : x13732.toInt < 2 := en_i_ge_f c14597
              refine At.enter rfl ?_
              refine r_aload_n e14579 ?_
              refine r_iconst 0 rfl ?_
              have x14730 := HI.eqI hI14595 (p := 231) (b := 8) ((((gI_sW).trans ((gI_sI_ne (by decide)).trans ((gI_sW).trans ((q14584.1 231 8 (by decide)).trans ((hF14236.1 231 8 (by decide)).trans (q13745.1 231 8 (by decide))))))).trans hv1))
              have x14731 := HI.eqI hI14595 (p := 231) (b := 9) ((((gI_sW).trans ((gI_sI_ne (by decide)).trans ((gI_sW).trans (q14584.1 231 9 (by decide))))).trans hv14247))
              have x14732 := HI.eqI hI14595 (p := 231) (b := 10) ((((gI_sW).trans ((gI_sI_ne (by decide)).trans ((gI_sW).trans (q14584.1 231 10 (by decide))))).trans hv14249))
              have x14733 := HI.eqI hI14595 (p := 231) (b := 11) ((((gI_sW).trans ((gI_sI_ne (by decide)).trans ((gI_sW).trans (q14584.1 231 11 (by decide))))).trans hv14251))
              obtain ⟨v14734, hv14734⟩ : ∃ v, gJ g14234 231 12 = v := ⟨_, rfl⟩
              have x14735 := HI.eqJ hI14595 (b := 12) ((((gJ_sW).trans ((gJ_sI_ne (by decide)).trans ((gJ_sW).trans (q14584.2.2 231 12 (by decide))))).trans hv14734))
              have x14736 := HI.eqI hI14595 (p := 231) (b := 14) ((((gI_sW).trans ((gI_sI_ne (by decide)).trans ((gI_sW).trans (q14584.1 231 14 (by decide))))).trans hv14253))
              have x14737 := HI.eqI hI14595 (p := 231) (b := 17) ((((gI_sW).trans ((gI_sI_ne (by decide)).trans ((gI_sW).trans ((q14584.1 231 17 (by decide)).trans ((hF14236.1 231 17 (by decide)).trans (q13745.1 231 17 (by decide))))))).trans hv7))
              obtain ⟨v14738, hv14738⟩ : ∃ v, gI g0 231 23 = v := ⟨_, rfl⟩
              have rv14738 := RgF.at hI0.2.1 (p := 231) (b := 23) rfl
              rw [hv14738] at rv14738
              dsimp only at rv14738
              have tv14738 := congrArg Int32.toInt hv14738
              have x14739 := HI.eqI hI14595 (p := 231) (b := 23) ((((gI_sW).trans ((gI_sI_ne (by decide)).trans ((gI_sW).trans ((q14584.1 231 23 (by decide)).trans ((hF14236.1 231 23 (by decide)).trans (q13745.1 231 23 (by decide))))))).trans hv14738))
              have w2614740 := W26.cong c14260 hI14595 (((gI_sW).trans ((gI_sI_ne (by decide)).trans ((gI_sW).trans (q14584.1 231 9 (by decide)))))) (((gI_sW).trans ((gI_sI_ne (by decide)).trans ((gI_sW).trans (q14584.1 231 10 (by decide)))))) (((gI_sW).trans ((gI_sI_ne (by decide)).trans ((gI_sW).trans (q14584.1 231 11 (by decide)))))) (((gJ_sW).trans ((gJ_sI_ne (by decide)).trans ((gJ_sW).trans (q14584.2.2 231 12 (by decide))))))
              have zv14741 : (0 : Int32).toInt = 0 := rfl
              refine r_callV 135 rfl [.ref 231, .int 0] [] (Nat.le_of_ble_eq_true rfl) rfl (T_X11_readExpression_231 _ hI14595 0 (by decide) (by refine ⟨?_, ?_, ?_, ?_⟩ <;> omega) (by omega) (by omega) w2614740) ?_
              rintro _ _ ⟨g14742, rfl, hI14743, hF14744, rfl, hr14746⟩
              refine At.stn ?_
              have hF14747 := Fr.tr hF14596 hF14744 rfl rfl
              have zv14748 : (0 : Int32).toInt = 0 := rfl
              have x14749 := HI.eqI hI14595 (p := 231) (b := 9) ((((gI_sW).trans ((gI_sI_ne (by decide)).trans ((gI_sW).trans (q14584.1 231 9 (by decide))))).trans hv14247))
              have x14750 := HI.eqI hI14595 (p := 231) (b := 17) ((((gI_sW).trans ((gI_sI_ne (by decide)).trans ((gI_sW).trans ((q14584.1 231 17 (by decide)).trans ((hF14236.1 231 17 (by decide)).trans (q13745.1 231 17 (by decide))))))).trans hv7))
              have x14751 := HI.eqI hI14743 (p := 231) (b := 8) ((((hF14744.1 231 8 (by decide)).trans ((gI_sW).trans ((gI_sI_ne (by decide)).trans ((gI_sW).trans ((q14584.1 231 8 (by decide)).trans ((hF14236.1 231 8 (by decide)).trans (q13745.1 231 8 (by decide)))))))).trans hv1))
              obtain ⟨v14752, hv14752⟩ : ∃ v, gI g14742 231 9 = v := ⟨_, rfl⟩
              have rv14752 := RgF.at hI14743.2.1 (p := 231) (b := 9) rfl
              rw [hv14752] at rv14752
              dsimp only at rv14752
              have tv14752 := congrArg Int32.toInt hv14752
              have x14753 := HI.eqI hI14743 (p := 231) (b := 9) (hv14752)
              obtain ⟨v14754, hv14754⟩ : ∃ v, gI g14742 231 10 = v := ⟨_, rfl⟩
              have rv14754 := RgF.at hI14743.2.1 (p := 231) (b := 10) rfl
              rw [hv14754] at rv14754
              dsimp only at rv14754
              have tv14754 := congrArg Int32.toInt hv14754
              have x14755 := HI.eqI hI14743 (p := 231) (b := 10) (hv14754)
              obtain ⟨v14756, hv14756⟩ : ∃ v, gI g14742 231 11 = v := ⟨_, rfl⟩
              have tv14756 := congrArg Int32.toInt hv14756
              have x14757 := HI.eqI hI14743 (p := 231) (b := 11) (hv14756)
              obtain ⟨v14758, hv14758⟩ : ∃ v, gJ g14742 231 12 = v := ⟨_, rfl⟩
              have x14759 := HI.eqJ hI14743 (b := 12) (hv14758)
              obtain ⟨v14760, hv14760⟩ : ∃ v, gI g14742 231 14 = v := ⟨_, rfl⟩
              have tv14760 := congrArg Int32.toInt hv14760
              have x14761 := HI.eqI hI14743 (p := 231) (b := 14) (hv14760)
              obtain ⟨v14762, hv14762⟩ : ∃ v, gI g14742 231 17 = v := ⟨_, rfl⟩
              have rv14762 := RgF.at hI14743.2.1 (p := 231) (b := 17) rfl
              rw [hv14762] at rv14762
              dsimp only at rv14762
              have tv14762 := congrArg Int32.toInt hv14762
              have x14763 := HI.eqI hI14743 (p := 231) (b := 17) (hv14762)
              obtain ⟨v14764, hv14764⟩ : ∃ v, gI g14742 231 23 = v := ⟨_, rfl⟩
              have rv14764 := RgF.at hI14743.2.1 (p := 231) (b := 23) rfl
              rw [hv14764] at rv14764
              dsimp only at rv14764
              have tv14764 := congrArg Int32.toInt hv14764
              have x14765 := HI.eqI hI14743 (p := 231) (b := 23) (hv14764)
              obtain ⟨c14766, c14767, c14768, c14769, c14770, c14771, c14772⟩ := hr14746
              refine At.enter rfl ?_
              refine r_aload_n e14579 ?_
              refine q_getR (Sh.ref hI14743.1 kx_231 rfl) ?_
              refine r_iload_n e14581 ?_
              refine r_iconst 4 rfl ?_
              refine q_iadd (v14266.toInt + 4) rfl (by omega) (fun v14773 hv14773 => ?_)
              refine r_aload_n e14579 ?_
              refine q_getI (Sh.int hI14743.1 kx_231 rfl) v14762 hv14762 ?_
              refine q_iast (Sh.arr hI14743.1 ka_237) ((8 * v6.toInt + 4)) (by omega) (by omega) ?_
              have hI14774 := HI.wA0 hI14743 ka_237 (p := 237) rfl rfl ((8 * v6.toInt + 4)) (v14762)
              have hF14775 := Fr.wA (p := 237) (j := (8 * v6.toInt + 4)) (v := v14762) hF14747 rfl
              refine r_aload_n e14579 ?_
              refine q_getR (Sh.ref hI14774.1 kx_231 rfl) ?_
              refine r_iload_n e14581 ?_
              refine r_iconst 5 rfl ?_
              refine q_iadd (v14266.toInt + 5) rfl (by omega) (fun v14776 hv14776 => ?_)
              refine r_aload_n e14579 ?_
              refine q_getI (Sh.int hI14774.1 kx_231 rfl) v14762 ((gI_sW).trans hv14762) ?_
              refine q_iast (Sh.arr hI14774.1 ka_237) ((8 * v6.toInt + 5)) (by omega) (by omega) ?_
              have hI14777 := HI.wA0 hI14774 ka_237 (p := 237) rfl rfl ((8 * v6.toInt + 5)) (v14762)
              have hF14778 := Fr.wA (p := 237) (j := (8 * v6.toInt + 5)) (v := v14762) hF14775 rfl
              refine r_aload_n e14579 ?_
              refine q_getI (Sh.int hI14777.1 kx_231 rfl) v14760 (((gI_sW).trans (gI_sW)).trans hv14760) ?_
              refine r_ifs 166 rfl (fun c14779 => ?_) (fun c14779 => ?_)
              · have c14779_ : v14760.toInt ≠ 0 := en_k_ne_t c14779
                refine At.enter rfl ?_
                refine r_aload_n e14579 ?_
                refine q_getR (Sh.ref hI14777.1 kx_231 rfl) ?_
                refine r_iload_n e14581 ?_
                refine r_bipush 6 rfl ?_
                refine q_iadd (v14266.toInt + 6) rfl (by omega) (fun v14780 hv14780 => ?_)
                refine r_aload_n e14579 ?_
                refine q_getI (Sh.int hI14777.1 kx_231 rfl) v14762 (((gI_sW).trans (gI_sW)).trans hv14762) ?_
                refine q_iast (Sh.arr hI14777.1 ka_237) ((8 * v6.toInt + 6)) (by omega) (by omega) ?_
                have hI14781 := HI.wA0 hI14777 ka_237 (p := 237) rfl rfl ((8 * v6.toInt + 6)) (v14762)
                have hF14782 := Fr.wA (p := 237) (j := (8 * v6.toInt + 6)) (v := v14762) hF14778 rfl
                refine r_vret ?_
                have x14783 := HI.eqI hI14781 (p := 231) (b := 8) ((((gI_sW).trans ((gI_sW).trans ((gI_sW).trans ((hF14744.1 231 8 (by decide)).trans ((gI_sW).trans ((gI_sI_ne (by decide)).trans ((gI_sW).trans ((q14584.1 231 8 (by decide)).trans ((hF14236.1 231 8 (by decide)).trans (q13745.1 231 8 (by decide))))))))))).trans hv1))
                have x14784 := HI.eqI hI14781 (p := 231) (b := 9) ((((gI_sW).trans ((gI_sW).trans (gI_sW))).trans hv14752))
                have x14785 := HI.eqI hI14781 (p := 231) (b := 10) ((((gI_sW).trans ((gI_sW).trans (gI_sW))).trans hv14754))
                have x14786 := HI.eqI hI14781 (p := 231) (b := 11) ((((gI_sW).trans ((gI_sW).trans (gI_sW))).trans hv14756))
                have x14787 := HI.eqI hI14781 (p := 231) (b := 14) ((((gI_sW).trans ((gI_sW).trans (gI_sW))).trans hv14760))
                have x14788 := HI.eqI hI14781 (p := 231) (b := 15) (((gI_sW).trans ((gI_sW).trans ((gI_sW).trans ((hF14744.1 231 15 (by decide)).trans ((gI_sW).trans (gI_sI_eq hI14589.1 kx_231 rfl _)))))))
                have x14789 := HI.eqI hI14781 (p := 231) (b := 17) ((((gI_sW).trans ((gI_sW).trans (gI_sW))).trans hv14762))
                have x14790 := HI.eqI hI0 (p := 231) (b := 8) (hv1)
                have x14791 := HI.eqI hI0 (p := 231) (b := 9) (hv2)
                have x14792 := HI.eqI hI0 (p := 231) (b := 10) (hv3)
                have x14793 := HI.eqI hI0 (p := 231) (b := 11) (hv4)
                have x14794 := HI.eqI hI0 (p := 231) (b := 14) (hv5)
                have x14795 := HI.eqI hI0 (p := 231) (b := 15) (hv6)
                have x14796 := HI.eqI hI0 (p := 231) (b := 17) (hv7)
                have w2614797 := W26.cong c14770 hI14781 (((gI_sW).trans ((gI_sW).trans (gI_sW)))) (((gI_sW).trans ((gI_sW).trans (gI_sW)))) (((gI_sW).trans ((gI_sW).trans (gI_sW)))) (((gJ_sW).trans ((gJ_sW).trans (gJ_sW))))
                exact ⟨_, rfl, hI14781, hF14782, rfl, ⟨by omega, by omega, by omega, by omega, w2614797, by omega, (fun hbad => by have t0 := (c14772 (by omega)).1; have x0 := (c14772 (by omega)).2; have u0 : (gI _ 231 17).toInt ≤ (gI _ 231 17).toInt := x0.1; exact ⟨by omega, CLS.step (K := (gI g0 231 15).toInt) (n1 := (gI g0 231 17).toInt) (n2 := v14762.toInt) hC ⟨by omega, by omega⟩ ⟨by omega, by omega, by omega⟩ (fun i i0 i1 => ((eA_sA_ne (i := i) hI14777.1 ka_237 (by omega) (by omega) (by omega)).trans ((eA_sA_ne (i := i) hI14774.1 ka_237 (by omega) (by omega) (by omega)).trans ((eA_sA_ne (i := i) hI14743.1 ka_237 (by omega) (by omega) (by omega)).trans ((eA_c (hF14744.2.1 237 (by decide))).trans ((eA_sA_ne (i := i) hI14592.1 ka_237 (by omega) (by omega) (by omega)).trans ((eA_c gA_sI).trans ((eA_sA_ne (i := i) hI14574.1 ka_237 (by omega) (by omega) (by omega)).trans ((q14585 i i0 (by omega)).trans ((eA_c (hF14236.2.1 237 (by decide))).trans (eA_c (q13745.2.1 237 (by decide))))))))))))) (by show (eA _ 237 (8 * (gI g0 231 15).toInt + 3)).toInt = (gI g0 231 17).toInt; rw [show 8 * (gI g0 231 15).toInt + 3 = (8 * v6.toInt + 3) by omega]; exact (congrArg Int32.toInt (((eA_sA_ne hI14777.1 ka_237 (by first | decide | omega) (by first | decide | omega) (by first | decide | omega)).trans ((eA_sA_ne hI14774.1 ka_237 (by first | decide | omega) (by first | decide | omega) (by first | decide | omega)).trans ((eA_sA_ne hI14743.1 ka_237 (by first | decide | omega) (by first | decide | omega) (by first | decide | omega)).trans ((eA_c (hF14744.2.1 237 (by decide))).trans (eA_sA_eq hI14592.1 ka_237 (by first | rfl | omega) (by first | decide | omega) (by first | decide | omega)))))))).trans (by omega)) (by show (eA _ 237 (8 * (gI g0 231 15).toInt + 4)).toInt = v14762.toInt; rw [show 8 * (gI g0 231 15).toInt + 4 = (8 * v6.toInt + 4) by omega]; exact (congrArg Int32.toInt (((eA_sA_ne hI14777.1 ka_237 (by first | decide | omega) (by first | decide | omega) (by first | decide | omega)).trans ((eA_sA_ne hI14774.1 ka_237 (by first | decide | omega) (by first | decide | omega) (by first | decide | omega)).trans (eA_sA_eq hI14743.1 ka_237 (by first | rfl | omega) (by first | decide | omega) (by first | decide | omega)))))).trans (by omega)) (by show (eA _ 237 (8 * (gI g0 231 15).toInt + 5)).toInt = v14762.toInt; rw [show 8 * (gI g0 231 15).toInt + 5 = (8 * v6.toInt + 5) by omega]; exact (congrArg Int32.toInt (((eA_sA_ne hI14777.1 ka_237 (by first | decide | omega) (by first | decide | omega) (by first | decide | omega)).trans (eA_sA_eq hI14774.1 ka_237 (by first | rfl | omega) (by first | decide | omega) (by first | decide | omega))))).trans (by omega)) (by show (eA _ 237 (8 * (gI g0 231 15).toInt + 6)).toInt = (gI _ 231 17).toInt; rw [show 8 * (gI g0 231 15).toInt + 6 = (8 * v6.toInt + 6) by omega]; exact (congrArg Int32.toInt ((eA_sA_eq hI14777.1 ka_237 (by first | rfl | omega) (by first | decide | omega) (by first | decide | omega)))).trans (by omega)) (show SAME g0 _ (gI g0 231 17).toInt from (SAME.tr (SAME.tr (SAME.c hI14595 (((gA_sA_ne (by decide)).trans ((gA_sI).trans ((gA_sA_ne (by decide)).trans ((q14584.2.1 238 (by decide)).trans ((hF14236.2.1 238 (by decide)).trans (q13745.2.1 238 (by decide)))))))) (((gA_sA_ne (by decide)).trans ((gA_sI).trans ((gA_sA_ne (by decide)).trans ((q14584.2.1 239 (by decide)).trans ((hF14236.2.1 239 (by decide)).trans (q13745.2.1 239 (by decide))))))))) (EXPR.same x0) (by show _ ≤ (gI _ 231 17).toInt; omega)) (SAME.c hI14781 (((gA_sA_ne (by decide)).trans ((gA_sA_ne (by decide)).trans (gA_sA_ne (by decide))))) (((gA_sA_ne (by decide)).trans ((gA_sA_ne (by decide)).trans (gA_sA_ne (by decide)))))) (Int.le_refl _))) (EXPR.code x0 (show SAME g14742 _ (gI g14742 231 17).toInt from (SAME.c hI14781 (((gA_sA_ne (by decide)).trans ((gA_sA_ne (by decide)).trans (gA_sA_ne (by decide))))) (((gA_sA_ne (by decide)).trans ((gA_sA_ne (by decide)).trans (gA_sA_ne (by decide))))))) (by show _ = (gI _ 231 17).toInt; omega) (by show _ = (gI _ 231 17).toInt; omega) (by show 0 ≤ (gI _ 231 17).toInt; omega)) (WfCode.nil' (by omega) (by omega) (by omega))⟩)⟩⟩
              · have c14779_ : v14760.toInt = 0 := en_k_ne_f c14779
                refine At.enter rfl ?_
                refine r_aload_n e14579 ?_
                refine r_ldc2 294 rfl ?_
                have x14798 := HI.eqI hI14777 (p := 231) (b := 11) ((((gI_sW).trans (gI_sW)).trans hv14756))
                have zv14799 : (294 : Int64).toInt = 294 := rfl
                refine r_callV 173 rfl [.ref 231, .long 294] [] (Nat.le_of_ble_eq_true rfl) rfl (T_X11_isWord_231 _ hI14777 294 (by omega)) ?_
                rintro _ _ ⟨g14800, rfl, hI14801, hF14802, v14803, rfl, hr14804⟩
                refine At.sti ?_
                have hF14805 := Fr.tr hF14778 hF14802 rfl rfl
                have zv14806 : (294 : Int64).toInt = 294 := rfl
                have x14807 := HI.eqI hI14777 (p := 231) (b := 9) ((((gI_sW).trans (gI_sW)).trans hv14752))
                have x14808 := HI.eqI hI14777 (p := 231) (b := 10) ((((gI_sW).trans (gI_sW)).trans hv14754))
                have x14809 := HI.eqI hI14777 (p := 231) (b := 11) ((((gI_sW).trans (gI_sW)).trans hv14756))
                have x14810 := HI.eqI hI14801 (p := 231) (b := 9) ((((hF14802.1 231 9 (by decide)).trans ((gI_sW).trans (gI_sW))).trans hv14752))
                have x14811 := HI.eqI hI14801 (p := 231) (b := 10) ((((hF14802.1 231 10 (by decide)).trans ((gI_sW).trans (gI_sW))).trans hv14754))
                have x14812 := HI.eqI hI14801 (p := 231) (b := 11) ((((hF14802.1 231 11 (by decide)).trans ((gI_sW).trans (gI_sW))).trans hv14756))
                obtain ⟨c14815, c14813, isw14814⟩ := hr14804
                have w2614816 := W26.cong c14770 hI14777 (((gI_sW).trans (gI_sW))) (((gI_sW).trans (gI_sW))) (((gI_sW).trans (gI_sW))) (((gJ_sW).trans (gJ_sW)))
                refine At.enter rfl ?_
                refine r_ifs 176 rfl (fun c14817 => ?_) (fun c14817 => ?_)
                · have c14817_ : v14803.toInt = 0 := en_k_eq_t c14817
                  refine At.enter rfl ?_
                  refine r_aload_n e14579 ?_
                  refine q_getR (Sh.ref hI14801.1 kx_231 rfl) ?_
                  refine r_iload_n e14581 ?_
                  refine r_bipush 6 rfl ?_
                  refine q_iadd (v14266.toInt + 6) rfl (by omega) (fun v14818 hv14818 => ?_)
                  refine r_aload_n e14579 ?_
                  refine q_getI (Sh.int hI14801.1 kx_231 rfl) v14762 (((hF14802.1 231 17 (by decide)).trans ((gI_sW).trans (gI_sW))).trans hv14762) ?_
                  refine q_iast (Sh.arr hI14801.1 ka_237) ((8 * v6.toInt + 6)) (by omega) (by omega) ?_
                  have hI14819 := HI.wA0 hI14801 ka_237 (p := 237) rfl rfl ((8 * v6.toInt + 6)) (v14762)
                  have hF14820 := Fr.wA (p := 237) (j := (8 * v6.toInt + 6)) (v := v14762) hF14805 rfl
                  refine r_vret ?_
                  have x14821 := HI.eqI hI14819 (p := 231) (b := 8) ((((gI_sW).trans ((hF14802.1 231 8 (by decide)).trans ((gI_sW).trans ((gI_sW).trans ((hF14744.1 231 8 (by decide)).trans ((gI_sW).trans ((gI_sI_ne (by decide)).trans ((gI_sW).trans ((q14584.1 231 8 (by decide)).trans ((hF14236.1 231 8 (by decide)).trans (q13745.1 231 8 (by decide)))))))))))).trans hv1))
                  have x14822 := HI.eqI hI14819 (p := 231) (b := 9) ((((gI_sW).trans ((hF14802.1 231 9 (by decide)).trans ((gI_sW).trans (gI_sW)))).trans hv14752))
                  have x14823 := HI.eqI hI14819 (p := 231) (b := 10) ((((gI_sW).trans ((hF14802.1 231 10 (by decide)).trans ((gI_sW).trans (gI_sW)))).trans hv14754))
                  have x14824 := HI.eqI hI14819 (p := 231) (b := 11) ((((gI_sW).trans ((hF14802.1 231 11 (by decide)).trans ((gI_sW).trans (gI_sW)))).trans hv14756))
                  have x14825 := HI.eqI hI14819 (p := 231) (b := 14) ((((gI_sW).trans ((hF14802.1 231 14 (by decide)).trans ((gI_sW).trans (gI_sW)))).trans hv14760))
                  have x14826 := HI.eqI hI14819 (p := 231) (b := 15) (((gI_sW).trans ((hF14802.1 231 15 (by decide)).trans ((gI_sW).trans ((gI_sW).trans ((hF14744.1 231 15 (by decide)).trans ((gI_sW).trans (gI_sI_eq hI14589.1 kx_231 rfl _))))))))
                  have x14827 := HI.eqI hI14819 (p := 231) (b := 17) ((((gI_sW).trans ((hF14802.1 231 17 (by decide)).trans ((gI_sW).trans (gI_sW)))).trans hv14762))
                  have x14828 := HI.eqI hI0 (p := 231) (b := 8) (hv1)
                  have x14829 := HI.eqI hI0 (p := 231) (b := 9) (hv2)
                  have x14830 := HI.eqI hI0 (p := 231) (b := 10) (hv3)
                  have x14831 := HI.eqI hI0 (p := 231) (b := 11) (hv4)
                  have x14832 := HI.eqI hI0 (p := 231) (b := 14) (hv5)
                  have x14833 := HI.eqI hI0 (p := 231) (b := 15) (hv6)
                  have x14834 := HI.eqI hI0 (p := 231) (b := 17) (hv7)
                  have w2614835 := W26.cong c14770 hI14819 (((gI_sW).trans ((hF14802.1 231 9 (by decide)).trans ((gI_sW).trans (gI_sW))))) (((gI_sW).trans ((hF14802.1 231 10 (by decide)).trans ((gI_sW).trans (gI_sW))))) (((gI_sW).trans ((hF14802.1 231 11 (by decide)).trans ((gI_sW).trans (gI_sW))))) (((gJ_sW).trans ((hF14802.2.2 231 12 (by decide)).trans ((gJ_sW).trans (gJ_sW)))))
                  exact ⟨_, rfl, hI14819, hF14820, rfl, ⟨by omega, by omega, by omega, by omega, w2614835, by omega, (fun hbad => by have t0 := (c14772 (by omega)).1; have x0 := (c14772 (by omega)).2; have u0 : (gI _ 231 17).toInt ≤ (gI _ 231 17).toInt := x0.1; exact ⟨by omega, CLS.step (K := (gI g0 231 15).toInt) (n1 := (gI g0 231 17).toInt) (n2 := v14762.toInt) hC ⟨by omega, by omega⟩ ⟨by omega, by omega, by omega⟩ (fun i i0 i1 => ((eA_sA_ne (i := i) hI14801.1 ka_237 (by omega) (by omega) (by omega)).trans ((eA_c (hF14802.2.1 237 (by decide))).trans ((eA_sA_ne (i := i) hI14774.1 ka_237 (by omega) (by omega) (by omega)).trans ((eA_sA_ne (i := i) hI14743.1 ka_237 (by omega) (by omega) (by omega)).trans ((eA_c (hF14744.2.1 237 (by decide))).trans ((eA_sA_ne (i := i) hI14592.1 ka_237 (by omega) (by omega) (by omega)).trans ((eA_c gA_sI).trans ((eA_sA_ne (i := i) hI14574.1 ka_237 (by omega) (by omega) (by omega)).trans ((q14585 i i0 (by omega)).trans ((eA_c (hF14236.2.1 237 (by decide))).trans (eA_c (q13745.2.1 237 (by decide)))))))))))))) (by show (eA _ 237 (8 * (gI g0 231 15).toInt + 3)).toInt = (gI g0 231 17).toInt; rw [show 8 * (gI g0 231 15).toInt + 3 = (8 * v6.toInt + 3) by omega]; exact (congrArg Int32.toInt (((eA_sA_ne hI14801.1 ka_237 (by first | decide | omega) (by first | decide | omega) (by first | decide | omega)).trans ((eA_c (hF14802.2.1 237 (by decide))).trans ((eA_sA_ne hI14774.1 ka_237 (by first | decide | omega) (by first | decide | omega) (by first | decide | omega)).trans ((eA_sA_ne hI14743.1 ka_237 (by first | decide | omega) (by first | decide | omega) (by first | decide | omega)).trans ((eA_c (hF14744.2.1 237 (by decide))).trans (eA_sA_eq hI14592.1 ka_237 (by first | rfl | omega) (by first | decide | omega) (by first | decide | omega))))))))).trans (by omega)) (by show (eA _ 237 (8 * (gI g0 231 15).toInt + 4)).toInt = v14762.toInt; rw [show 8 * (gI g0 231 15).toInt + 4 = (8 * v6.toInt + 4) by omega]; exact (congrArg Int32.toInt (((eA_sA_ne hI14801.1 ka_237 (by first | decide | omega) (by first | decide | omega) (by first | decide | omega)).trans ((eA_c (hF14802.2.1 237 (by decide))).trans ((eA_sA_ne hI14774.1 ka_237 (by first | decide | omega) (by first | decide | omega) (by first | decide | omega)).trans (eA_sA_eq hI14743.1 ka_237 (by first | rfl | omega) (by first | decide | omega) (by first | decide | omega))))))).trans (by omega)) (by show (eA _ 237 (8 * (gI g0 231 15).toInt + 5)).toInt = v14762.toInt; rw [show 8 * (gI g0 231 15).toInt + 5 = (8 * v6.toInt + 5) by omega]; exact (congrArg Int32.toInt (((eA_sA_ne hI14801.1 ka_237 (by first | decide | omega) (by first | decide | omega) (by first | decide | omega)).trans ((eA_c (hF14802.2.1 237 (by decide))).trans (eA_sA_eq hI14774.1 ka_237 (by first | rfl | omega) (by first | decide | omega) (by first | decide | omega)))))).trans (by omega)) (by show (eA _ 237 (8 * (gI g0 231 15).toInt + 6)).toInt = (gI _ 231 17).toInt; rw [show 8 * (gI g0 231 15).toInt + 6 = (8 * v6.toInt + 6) by omega]; exact (congrArg Int32.toInt ((eA_sA_eq hI14801.1 ka_237 (by first | rfl | omega) (by first | decide | omega) (by first | decide | omega)))).trans (by omega)) (show SAME g0 _ (gI g0 231 17).toInt from (SAME.tr (SAME.tr (SAME.c hI14595 (((gA_sA_ne (by decide)).trans ((gA_sI).trans ((gA_sA_ne (by decide)).trans ((q14584.2.1 238 (by decide)).trans ((hF14236.2.1 238 (by decide)).trans (q13745.2.1 238 (by decide)))))))) (((gA_sA_ne (by decide)).trans ((gA_sI).trans ((gA_sA_ne (by decide)).trans ((q14584.2.1 239 (by decide)).trans ((hF14236.2.1 239 (by decide)).trans (q13745.2.1 239 (by decide))))))))) (EXPR.same x0) (by show _ ≤ (gI _ 231 17).toInt; omega)) (SAME.c hI14819 (((gA_sA_ne (by decide)).trans ((hF14802.2.1 238 (by decide)).trans ((gA_sA_ne (by decide)).trans (gA_sA_ne (by decide)))))) (((gA_sA_ne (by decide)).trans ((hF14802.2.1 239 (by decide)).trans ((gA_sA_ne (by decide)).trans (gA_sA_ne (by decide))))))) (Int.le_refl _))) (EXPR.code x0 (show SAME g14742 _ (gI g14742 231 17).toInt from (SAME.c hI14819 (((gA_sA_ne (by decide)).trans ((hF14802.2.1 238 (by decide)).trans ((gA_sA_ne (by decide)).trans (gA_sA_ne (by decide)))))) (((gA_sA_ne (by decide)).trans ((hF14802.2.1 239 (by decide)).trans ((gA_sA_ne (by decide)).trans (gA_sA_ne (by decide)))))))) (by show _ = (gI _ 231 17).toInt; omega) (by show _ = (gI _ 231 17).toInt; omega) (by show 0 ≤ (gI _ 231 17).toInt; omega)) (WfCode.nil' (by omega) (by omega) (by omega))⟩)⟩⟩
                · have c14817_ : v14803.toInt ≠ 0 := en_k_eq_f c14817
                  have i14836 := W26.two w2614816 isw14814 (by omega) (by decide)
                  refine At.enter rfl ?_
                  refine r_aload_n e14579 ?_
                  have x14837 := HI.eqI hI14801 (p := 231) (b := 8) ((((hF14802.1 231 8 (by decide)).trans ((gI_sW).trans ((gI_sW).trans ((hF14744.1 231 8 (by decide)).trans ((gI_sW).trans ((gI_sI_ne (by decide)).trans ((gI_sW).trans ((q14584.1 231 8 (by decide)).trans ((hF14236.1 231 8 (by decide)).trans (q13745.1 231 8 (by decide))))))))))).trans hv1))
                  have x14838 := HI.eqI hI14801 (p := 231) (b := 10) ((((hF14802.1 231 10 (by decide)).trans ((gI_sW).trans (gI_sW))).trans hv14754))
                  refine r_callV 180 rfl [.ref 231] [] (Nat.le_of_ble_eq_true rfl) rfl (T_X11_next_231 _ hI14801 (by omega)) ?_
                  rintro _ _ ⟨g14839, rfl, hI14840, hF14841, rfl, hr14843⟩
                  refine At.stn ?_
                  have hF14844 := Fr.tr hF14805 hF14841 rfl rfl
                  have x14845 := HI.eqI hI14801 (p := 231) (b := 8) ((((hF14802.1 231 8 (by decide)).trans ((gI_sW).trans ((gI_sW).trans ((hF14744.1 231 8 (by decide)).trans ((gI_sW).trans ((gI_sI_ne (by decide)).trans ((gI_sW).trans ((q14584.1 231 8 (by decide)).trans ((hF14236.1 231 8 (by decide)).trans (q13745.1 231 8 (by decide))))))))))).trans hv1))
                  have x14846 := HI.eqI hI14801 (p := 231) (b := 10) ((((hF14802.1 231 10 (by decide)).trans ((gI_sW).trans (gI_sW))).trans hv14754))
                  have x14847 := HI.eqI hI14840 (p := 231) (b := 8) ((((hF14841.1 231 8 (by decide)).trans ((hF14802.1 231 8 (by decide)).trans ((gI_sW).trans ((gI_sW).trans ((hF14744.1 231 8 (by decide)).trans ((gI_sW).trans ((gI_sI_ne (by decide)).trans ((gI_sW).trans ((q14584.1 231 8 (by decide)).trans ((hF14236.1 231 8 (by decide)).trans (q13745.1 231 8 (by decide)))))))))))).trans hv1))
                  obtain ⟨v14848, hv14848⟩ : ∃ v, gI g14839 231 9 = v := ⟨_, rfl⟩
                  have rv14848 := RgF.at hI14840.2.1 (p := 231) (b := 9) rfl
                  rw [hv14848] at rv14848
                  dsimp only at rv14848
                  have tv14848 := congrArg Int32.toInt hv14848
                  have x14849 := HI.eqI hI14840 (p := 231) (b := 9) (hv14848)
                  obtain ⟨v14850, hv14850⟩ : ∃ v, gI g14839 231 10 = v := ⟨_, rfl⟩
                  have rv14850 := RgF.at hI14840.2.1 (p := 231) (b := 10) rfl
                  rw [hv14850] at rv14850
                  dsimp only at rv14850
                  have tv14850 := congrArg Int32.toInt hv14850
                  have x14851 := HI.eqI hI14840 (p := 231) (b := 10) (hv14850)
                  obtain ⟨v14852, hv14852⟩ : ∃ v, gI g14839 231 11 = v := ⟨_, rfl⟩
                  have tv14852 := congrArg Int32.toInt hv14852
                  have x14853 := HI.eqI hI14840 (p := 231) (b := 11) (hv14852)
                  obtain ⟨c14854, c14855, c14856, c14857, c14858, c14859⟩ := hr14843
                  refine At.enter rfl ?_
                  refine r_aload_n e14579 ?_
                  refine r_iconst 1 rfl ?_
                  have x14860 := HI.eqI hI14840 (p := 231) (b := 8) ((((hF14841.1 231 8 (by decide)).trans ((hF14802.1 231 8 (by decide)).trans ((gI_sW).trans ((gI_sW).trans ((hF14744.1 231 8 (by decide)).trans ((gI_sW).trans ((gI_sI_ne (by decide)).trans ((gI_sW).trans ((q14584.1 231 8 (by decide)).trans ((hF14236.1 231 8 (by decide)).trans (q13745.1 231 8 (by decide)))))))))))).trans hv1))
                  have x14861 := HI.eqI hI14840 (p := 231) (b := 9) (hv14848)
                  have x14862 := HI.eqI hI14840 (p := 231) (b := 10) (hv14850)
                  have x14863 := HI.eqI hI14840 (p := 231) (b := 11) (hv14852)
                  obtain ⟨v14864, hv14864⟩ : ∃ v, gJ g14839 231 12 = v := ⟨_, rfl⟩
                  have x14865 := HI.eqJ hI14840 (b := 12) (hv14864)
                  have x14866 := HI.eqI hI14840 (p := 231) (b := 14) ((((hF14841.1 231 14 (by decide)).trans ((hF14802.1 231 14 (by decide)).trans ((gI_sW).trans (gI_sW)))).trans hv14760))
                  have x14867 := HI.eqI hI14840 (p := 231) (b := 17) ((((hF14841.1 231 17 (by decide)).trans ((hF14802.1 231 17 (by decide)).trans ((gI_sW).trans (gI_sW)))).trans hv14762))
                  have x14868 := HI.eqI hI14840 (p := 231) (b := 23) ((((hF14841.1 231 23 (by decide)).trans ((hF14802.1 231 23 (by decide)).trans ((gI_sW).trans (gI_sW)))).trans hv14764))
                  have y14869 := (c14772 (by omega)).1
                  have zv14870 : (1 : Int32).toInt = 1 := rfl
                  refine r_callV 185 rfl [.ref 231, .int 1] [] (Nat.le_of_ble_eq_true rfl) rfl (T_X11_readExpression_231 _ hI14840 1 (by decide) (by refine ⟨?_, ?_, ?_, ?_⟩ <;> omega) (by omega) (by omega) c14859) ?_
                  rintro _ _ ⟨g14871, rfl, hI14872, hF14873, rfl, hr14875⟩
                  refine At.stn ?_
                  have hF14876 := Fr.tr hF14844 hF14873 rfl rfl
                  have zv14877 : (1 : Int32).toInt = 1 := rfl
                  have x14878 := HI.eqI hI14840 (p := 231) (b := 9) (hv14848)
                  have x14879 := HI.eqI hI14840 (p := 231) (b := 17) ((((hF14841.1 231 17 (by decide)).trans ((hF14802.1 231 17 (by decide)).trans ((gI_sW).trans (gI_sW)))).trans hv14762))
                  have x14880 := HI.eqI hI14872 (p := 231) (b := 8) ((((hF14873.1 231 8 (by decide)).trans ((hF14841.1 231 8 (by decide)).trans ((hF14802.1 231 8 (by decide)).trans ((gI_sW).trans ((gI_sW).trans ((hF14744.1 231 8 (by decide)).trans ((gI_sW).trans ((gI_sI_ne (by decide)).trans ((gI_sW).trans ((q14584.1 231 8 (by decide)).trans ((hF14236.1 231 8 (by decide)).trans (q13745.1 231 8 (by decide))))))))))))).trans hv1))
                  obtain ⟨v14881, hv14881⟩ : ∃ v, gI g14871 231 9 = v := ⟨_, rfl⟩
                  have rv14881 := RgF.at hI14872.2.1 (p := 231) (b := 9) rfl
                  rw [hv14881] at rv14881
                  dsimp only at rv14881
                  have tv14881 := congrArg Int32.toInt hv14881
                  have x14882 := HI.eqI hI14872 (p := 231) (b := 9) (hv14881)
                  obtain ⟨v14883, hv14883⟩ : ∃ v, gI g14871 231 10 = v := ⟨_, rfl⟩
                  have rv14883 := RgF.at hI14872.2.1 (p := 231) (b := 10) rfl
                  rw [hv14883] at rv14883
                  dsimp only at rv14883
                  have tv14883 := congrArg Int32.toInt hv14883
                  have x14884 := HI.eqI hI14872 (p := 231) (b := 10) (hv14883)
                  obtain ⟨v14885, hv14885⟩ : ∃ v, gI g14871 231 11 = v := ⟨_, rfl⟩
                  have tv14885 := congrArg Int32.toInt hv14885
                  have x14886 := HI.eqI hI14872 (p := 231) (b := 11) (hv14885)
                  obtain ⟨v14887, hv14887⟩ : ∃ v, gJ g14871 231 12 = v := ⟨_, rfl⟩
                  have x14888 := HI.eqJ hI14872 (b := 12) (hv14887)
                  obtain ⟨v14889, hv14889⟩ : ∃ v, gI g14871 231 14 = v := ⟨_, rfl⟩
                  have tv14889 := congrArg Int32.toInt hv14889
                  have x14890 := HI.eqI hI14872 (p := 231) (b := 14) (hv14889)
                  obtain ⟨v14891, hv14891⟩ : ∃ v, gI g14871 231 17 = v := ⟨_, rfl⟩
                  have rv14891 := RgF.at hI14872.2.1 (p := 231) (b := 17) rfl
                  rw [hv14891] at rv14891
                  dsimp only at rv14891
                  have tv14891 := congrArg Int32.toInt hv14891
                  have x14892 := HI.eqI hI14872 (p := 231) (b := 17) (hv14891)
                  obtain ⟨v14893, hv14893⟩ : ∃ v, gI g14871 231 23 = v := ⟨_, rfl⟩
                  have rv14893 := RgF.at hI14872.2.1 (p := 231) (b := 23) rfl
                  rw [hv14893] at rv14893
                  dsimp only at rv14893
                  have tv14893 := congrArg Int32.toInt hv14893
                  have x14894 := HI.eqI hI14872 (p := 231) (b := 23) (hv14893)
                  obtain ⟨c14895, c14896, c14897, c14898, c14899, c14900, c14901⟩ := hr14875
                  refine At.enter rfl ?_
                  refine r_aload_n e14579 ?_
                  refine q_getR (Sh.ref hI14872.1 kx_231 rfl) ?_
                  refine r_iload_n e14581 ?_
                  refine r_bipush 6 rfl ?_
                  refine q_iadd (v14266.toInt + 6) rfl (by omega) (fun v14902 hv14902 => ?_)
                  refine r_aload_n e14579 ?_
                  refine q_getI (Sh.int hI14872.1 kx_231 rfl) v14891 hv14891 ?_
                  refine q_iast (Sh.arr hI14872.1 ka_237) ((8 * v6.toInt + 6)) (by omega) (by omega) ?_
                  have hI14903 := HI.wA0 hI14872 ka_237 (p := 237) rfl rfl ((8 * v6.toInt + 6)) (v14891)
                  have hF14904 := Fr.wA (p := 237) (j := (8 * v6.toInt + 6)) (v := v14891) hF14876 rfl
                  refine r_vret ?_
                  have x14905 := HI.eqI hI14903 (p := 231) (b := 8) ((((gI_sW).trans ((hF14873.1 231 8 (by decide)).trans ((hF14841.1 231 8 (by decide)).trans ((hF14802.1 231 8 (by decide)).trans ((gI_sW).trans ((gI_sW).trans ((hF14744.1 231 8 (by decide)).trans ((gI_sW).trans ((gI_sI_ne (by decide)).trans ((gI_sW).trans ((q14584.1 231 8 (by decide)).trans ((hF14236.1 231 8 (by decide)).trans (q13745.1 231 8 (by decide)))))))))))))).trans hv1))
                  have x14906 := HI.eqI hI14903 (p := 231) (b := 9) (((gI_sW).trans hv14881))
                  have x14907 := HI.eqI hI14903 (p := 231) (b := 10) (((gI_sW).trans hv14883))
                  have x14908 := HI.eqI hI14903 (p := 231) (b := 11) (((gI_sW).trans hv14885))
                  have x14909 := HI.eqI hI14903 (p := 231) (b := 14) (((gI_sW).trans hv14889))
                  have x14910 := HI.eqI hI14903 (p := 231) (b := 15) (((gI_sW).trans ((hF14873.1 231 15 (by decide)).trans ((hF14841.1 231 15 (by decide)).trans ((hF14802.1 231 15 (by decide)).trans ((gI_sW).trans ((gI_sW).trans ((hF14744.1 231 15 (by decide)).trans ((gI_sW).trans (gI_sI_eq hI14589.1 kx_231 rfl _))))))))))
                  have x14911 := HI.eqI hI14903 (p := 231) (b := 17) (((gI_sW).trans hv14891))
                  have x14912 := HI.eqI hI0 (p := 231) (b := 8) (hv1)
                  have x14913 := HI.eqI hI0 (p := 231) (b := 9) (hv2)
                  have x14914 := HI.eqI hI0 (p := 231) (b := 10) (hv3)
                  have x14915 := HI.eqI hI0 (p := 231) (b := 11) (hv4)
                  have x14916 := HI.eqI hI0 (p := 231) (b := 14) (hv5)
                  have x14917 := HI.eqI hI0 (p := 231) (b := 15) (hv6)
                  have x14918 := HI.eqI hI0 (p := 231) (b := 17) (hv7)
                  have w2614919 := W26.cong c14899 hI14903 ((gI_sW)) ((gI_sW)) ((gI_sW)) ((gJ_sW))
                  exact ⟨_, rfl, hI14903, hF14904, rfl, ⟨by omega, by omega, by omega, by omega, w2614919, by omega, (fun hbad => by have t0 := (c14772 (by omega)).1; have x0 := (c14772 (by omega)).2; have u0 : (gI _ 231 17).toInt ≤ (gI _ 231 17).toInt := x0.1; have t1 := (c14901 (by omega)).1; have x1 := (c14901 (by omega)).2; have u1 : (gI _ 231 17).toInt ≤ (gI _ 231 17).toInt := x1.1; exact ⟨by omega, CLS.step (K := (gI g0 231 15).toInt) (n1 := (gI g0 231 17).toInt) (n2 := v14762.toInt) hC ⟨by omega, by omega⟩ ⟨by omega, by omega, by omega⟩ (fun i i0 i1 => ((eA_sA_ne (i := i) hI14872.1 ka_237 (by omega) (by omega) (by omega)).trans ((eA_c (hF14873.2.1 237 (by decide))).trans ((eA_c (hF14841.2.1 237 (by decide))).trans ((eA_c (hF14802.2.1 237 (by decide))).trans ((eA_sA_ne (i := i) hI14774.1 ka_237 (by omega) (by omega) (by omega)).trans ((eA_sA_ne (i := i) hI14743.1 ka_237 (by omega) (by omega) (by omega)).trans ((eA_c (hF14744.2.1 237 (by decide))).trans ((eA_sA_ne (i := i) hI14592.1 ka_237 (by omega) (by omega) (by omega)).trans ((eA_c gA_sI).trans ((eA_sA_ne (i := i) hI14574.1 ka_237 (by omega) (by omega) (by omega)).trans ((q14585 i i0 (by omega)).trans ((eA_c (hF14236.2.1 237 (by decide))).trans (eA_c (q13745.2.1 237 (by decide)))))))))))))))) (by show (eA _ 237 (8 * (gI g0 231 15).toInt + 3)).toInt = (gI g0 231 17).toInt; rw [show 8 * (gI g0 231 15).toInt + 3 = (8 * v6.toInt + 3) by omega]; exact (congrArg Int32.toInt (((eA_sA_ne hI14872.1 ka_237 (by first | decide | omega) (by first | decide | omega) (by first | decide | omega)).trans ((eA_c (hF14873.2.1 237 (by decide))).trans ((eA_c (hF14841.2.1 237 (by decide))).trans ((eA_c (hF14802.2.1 237 (by decide))).trans ((eA_sA_ne hI14774.1 ka_237 (by first | decide | omega) (by first | decide | omega) (by first | decide | omega)).trans ((eA_sA_ne hI14743.1 ka_237 (by first | decide | omega) (by first | decide | omega) (by first | decide | omega)).trans ((eA_c (hF14744.2.1 237 (by decide))).trans (eA_sA_eq hI14592.1 ka_237 (by first | rfl | omega) (by first | decide | omega) (by first | decide | omega))))))))))).trans (by omega)) (by show (eA _ 237 (8 * (gI g0 231 15).toInt + 4)).toInt = v14762.toInt; rw [show 8 * (gI g0 231 15).toInt + 4 = (8 * v6.toInt + 4) by omega]; exact (congrArg Int32.toInt (((eA_sA_ne hI14872.1 ka_237 (by first | decide | omega) (by first | decide | omega) (by first | decide | omega)).trans ((eA_c (hF14873.2.1 237 (by decide))).trans ((eA_c (hF14841.2.1 237 (by decide))).trans ((eA_c (hF14802.2.1 237 (by decide))).trans ((eA_sA_ne hI14774.1 ka_237 (by first | decide | omega) (by first | decide | omega) (by first | decide | omega)).trans (eA_sA_eq hI14743.1 ka_237 (by first | rfl | omega) (by first | decide | omega) (by first | decide | omega))))))))).trans (by omega)) (by show (eA _ 237 (8 * (gI g0 231 15).toInt + 5)).toInt = v14762.toInt; rw [show 8 * (gI g0 231 15).toInt + 5 = (8 * v6.toInt + 5) by omega]; exact (congrArg Int32.toInt (((eA_sA_ne hI14872.1 ka_237 (by first | decide | omega) (by first | decide | omega) (by first | decide | omega)).trans ((eA_c (hF14873.2.1 237 (by decide))).trans ((eA_c (hF14841.2.1 237 (by decide))).trans ((eA_c (hF14802.2.1 237 (by decide))).trans (eA_sA_eq hI14774.1 ka_237 (by first | rfl | omega) (by first | decide | omega) (by first | decide | omega)))))))).trans (by omega)) (by show (eA _ 237 (8 * (gI g0 231 15).toInt + 6)).toInt = (gI _ 231 17).toInt; rw [show 8 * (gI g0 231 15).toInt + 6 = (8 * v6.toInt + 6) by omega]; exact (congrArg Int32.toInt ((eA_sA_eq hI14872.1 ka_237 (by first | rfl | omega) (by first | decide | omega) (by first | decide | omega)))).trans (by omega)) (show SAME g0 _ (gI g0 231 17).toInt from (SAME.tr (SAME.tr (SAME.tr (SAME.tr (SAME.c hI14595 (((gA_sA_ne (by decide)).trans ((gA_sI).trans ((gA_sA_ne (by decide)).trans ((q14584.2.1 238 (by decide)).trans ((hF14236.2.1 238 (by decide)).trans (q13745.2.1 238 (by decide)))))))) (((gA_sA_ne (by decide)).trans ((gA_sI).trans ((gA_sA_ne (by decide)).trans ((q14584.2.1 239 (by decide)).trans ((hF14236.2.1 239 (by decide)).trans (q13745.2.1 239 (by decide))))))))) (EXPR.same x0) (by show _ ≤ (gI _ 231 17).toInt; omega)) (SAME.c hI14840 (((hF14841.2.1 238 (by decide)).trans ((hF14802.2.1 238 (by decide)).trans ((gA_sA_ne (by decide)).trans (gA_sA_ne (by decide)))))) (((hF14841.2.1 239 (by decide)).trans ((hF14802.2.1 239 (by decide)).trans ((gA_sA_ne (by decide)).trans (gA_sA_ne (by decide))))))) (by omega)) (EXPR.same x1) (by show _ ≤ (gI _ 231 17).toInt; omega)) (SAME.c hI14903 ((gA_sA_ne (by decide))) ((gA_sA_ne (by decide)))) (Int.le_refl _))) (EXPR.code x0 (show SAME g14742 _ (gI g14742 231 17).toInt from (SAME.tr (SAME.tr (SAME.c hI14840 (((hF14841.2.1 238 (by decide)).trans ((hF14802.2.1 238 (by decide)).trans ((gA_sA_ne (by decide)).trans (gA_sA_ne (by decide)))))) (((hF14841.2.1 239 (by decide)).trans ((hF14802.2.1 239 (by decide)).trans ((gA_sA_ne (by decide)).trans (gA_sA_ne (by decide))))))) (EXPR.same x1) (by show _ ≤ (gI _ 231 17).toInt; omega)) (SAME.c hI14903 ((gA_sA_ne (by decide))) ((gA_sA_ne (by decide)))) (Int.le_refl _))) (by show _ = (gI _ 231 17).toInt; omega) (by show _ = (gI _ 231 17).toInt; omega) (by show 0 ≤ (gI _ 231 17).toInt; omega)) (EXPR.code x1 (show SAME g14871 _ (gI g14871 231 17).toInt from (SAME.c hI14903 ((gA_sA_ne (by decide))) ((gA_sA_ne (by decide))))) (by show _ = (gI _ 231 17).toInt; omega) (by show _ = (gI _ 231 17).toInt; omega) (by show 0 ≤ (gI _ 231 17).toInt; omega))⟩)⟩⟩
          · have c14588_ : x14572.toInt < 8 := en_i_ge_f c14588
            refine At.enter rfl ?_
            refine r_aload_n e14579 ?_
            refine q_getR (Sh.ref hI14574.1 kx_231 rfl) ?_
            refine r_iload_n e14581 ?_
            refine r_iload_n e14582 ?_
            refine q_iadd (v14266.toInt + x14572.toInt) rfl (by omega) (fun v14920 hv14920 => ?_)
            refine r_iconst 0 rfl ?_
            refine q_iast (Sh.arr hI14574.1 ka_237) ((8 * v6.toInt + x14572.toInt)) (by omega) (by omega) ?_
            have hI14921 := HI.wA0 hI14574 ka_237 (p := 237) rfl rfl ((8 * v6.toInt + x14572.toInt)) (0)
            have hF14922 := Fr.wA (p := 237) (j := (8 * v6.toInt + x14572.toInt)) (v := 0) hF14575 rfl
            refine q_iinc e14582 (x14572.toInt + 1) rfl (by omega) (fun v14923 hv14923 => ?_)
            refine r_goto ?_
            exact ih14578 (8 - v14923.toInt) _ _ ⟨v14923, by first | rfl | omega, hI14921, hF14922, (w_p1 (by decide) (Or.inr rfl) e14579), (w_p1 (by decide) (Or.inr rfl) e14580), (w_p1 (by decide) (Or.inr rfl) e14581), (w_e1 _ _ _), by omega, (Fr.wA (p := 237) q14584 rfl), (fun i i0 i1 => (eA_sA_ne (i := i) hI14574.1 ka_237 (by omega) (by omega) (by omega)).trans (q14585 i i0 i1))⟩ ⟨by omega, by omega⟩
        · have c14262_ : v14253.toInt ≠ 0 := en_k_eq_f c14262
          clear c14261
          refine At.enter rfl ?_
          refine r_vret ?_
          have x14924 := HI.eqI hI14235 (p := 231) (b := 8) ((((hF14236.1 231 8 (by decide)).trans (q13745.1 231 8 (by decide))).trans hv1))
          have x14925 := HI.eqI hI14235 (p := 231) (b := 9) (hv14247)
          have x14926 := HI.eqI hI14235 (p := 231) (b := 10) (hv14249)
          have x14927 := HI.eqI hI14235 (p := 231) (b := 11) (hv14251)
          have x14928 := HI.eqI hI14235 (p := 231) (b := 14) (hv14253)
          have x14929 := HI.eqI hI14235 (p := 231) (b := 15) ((((hF14236.1 231 15 (by decide)).trans (q13745.1 231 15 (by decide))).trans hv6))
          have x14930 := HI.eqI hI14235 (p := 231) (b := 17) ((((hF14236.1 231 17 (by decide)).trans (q13745.1 231 17 (by decide))).trans hv7))
          have x14931 := HI.eqI hI0 (p := 231) (b := 8) (hv1)
          have x14932 := HI.eqI hI0 (p := 231) (b := 9) (hv2)
          have x14933 := HI.eqI hI0 (p := 231) (b := 10) (hv3)
          have x14934 := HI.eqI hI0 (p := 231) (b := 11) (hv4)
          have x14935 := HI.eqI hI0 (p := 231) (b := 14) (hv5)
          have x14936 := HI.eqI hI0 (p := 231) (b := 15) (hv6)
          have x14937 := HI.eqI hI0 (p := 231) (b := 17) (hv7)
          exact ⟨_, rfl, hI14235, hF14239, rfl, ⟨by omega, by omega, by omega, by omega, c14260, by omega, (fun hbad => False.elim (by omega))⟩⟩
      · have c14227_ : v6.toInt < 12 := en_i_ge_f c14227
        refine At.enter rfl ?_
        refine r_iconst 1 rfl ?_
        refine r_goto ?_
        refine At.enter rfl ?_
        have x14938 := HI.eqI hI13735 (p := 231) (b := 8) (((q13745.1 231 8 (by decide)).trans hv1))
        have x14939 := HI.eqI hI13735 (p := 231) (b := 9) (((q13745.1 231 9 (by decide)).trans hv2))
        have x14940 := HI.eqI hI13735 (p := 231) (b := 10) (((q13745.1 231 10 (by decide)).trans hv3))
        have x14941 := HI.eqI hI13735 (p := 231) (b := 11) (((q13745.1 231 11 (by decide)).trans hv4))
        have w2614942 := W26.cong hW hI13735 ((q13745.1 231 9 (by decide))) ((q13745.1 231 10 (by decide))) ((q13745.1 231 11 (by decide))) ((q13745.2.2 231 12 (by decide)))
        have zv14943 : (1 : Int32).toInt = 1 := rfl
        refine r_callV 57 rfl [.ref 231, .int 1] [] (Nat.le_of_ble_eq_true rfl) rfl (T_X11_must_231 _ hI13735 1 (by decide) (by refine ⟨?_, ?_, ?_, ?_⟩ <;> omega) w2614942) ?_
        rintro _ _ ⟨g14944, rfl, hI14945, hF14946, rfl, hr14948⟩
        refine At.stn ?_
        have hF14949 := Fr.tr hF13736 hF14946 rfl rfl
        have zv14950 : (1 : Int32).toInt = 1 := rfl
        have x14951 := HI.eqI hI13735 (p := 231) (b := 8) (((q13745.1 231 8 (by decide)).trans hv1))
        have x14952 := HI.eqI hI13735 (p := 231) (b := 9) (((q13745.1 231 9 (by decide)).trans hv2))
        have x14953 := HI.eqI hI13735 (p := 231) (b := 10) (((q13745.1 231 10 (by decide)).trans hv3))
        have x14954 := HI.eqI hI13735 (p := 231) (b := 11) (((q13745.1 231 11 (by decide)).trans hv4))
        have x14955 := HI.eqI hI13735 (p := 231) (b := 14) (((q13745.1 231 14 (by decide)).trans hv5))
        have x14956 := HI.eqI hI14945 (p := 231) (b := 8) ((((hF14946.1 231 8 (by decide)).trans (q13745.1 231 8 (by decide))).trans hv1))
        obtain ⟨v14957, hv14957⟩ : ∃ v, gI g14944 231 9 = v := ⟨_, rfl⟩
        have rv14957 := RgF.at hI14945.2.1 (p := 231) (b := 9) rfl
        rw [hv14957] at rv14957
        dsimp only at rv14957
        have tv14957 := congrArg Int32.toInt hv14957
        have x14958 := HI.eqI hI14945 (p := 231) (b := 9) (hv14957)
        obtain ⟨v14959, hv14959⟩ : ∃ v, gI g14944 231 10 = v := ⟨_, rfl⟩
        have rv14959 := RgF.at hI14945.2.1 (p := 231) (b := 10) rfl
        rw [hv14959] at rv14959
        dsimp only at rv14959
        have tv14959 := congrArg Int32.toInt hv14959
        have x14960 := HI.eqI hI14945 (p := 231) (b := 10) (hv14959)
        obtain ⟨v14961, hv14961⟩ : ∃ v, gI g14944 231 11 = v := ⟨_, rfl⟩
        have tv14961 := congrArg Int32.toInt hv14961
        have x14962 := HI.eqI hI14945 (p := 231) (b := 11) (hv14961)
        obtain ⟨v14963, hv14963⟩ : ∃ v, gI g14944 231 14 = v := ⟨_, rfl⟩
        have tv14963 := congrArg Int32.toInt hv14963
        have x14964 := HI.eqI hI14945 (p := 231) (b := 14) (hv14963)
        obtain ⟨c14965, c14966, c14967, c14968, c14969, c14970, c14971⟩ := hr14948
        refine At.enter rfl ?_
        refine r_aload_n e13740 ?_
        refine q_getI (Sh.int hI14945.1 kx_231 rfl) v14963 hv14963 ?_
        refine r_ifs 64 rfl (fun c14972 => ?_) (fun c14972 => ?_)
        · have c14972_ : v14963.toInt = 0 := en_k_eq_t c14972
          obtain ⟨i14973, i14974, i14975⟩ := c14971 (by omega)
          refine At.enter rfl ?_
          refine r_bipush 8 rfl ?_
          refine r_aload_n e13740 ?_
          refine q_getI (Sh.int hI14945.1 kx_231 rfl) v6 (((hF14946.1 231 15 (by decide)).trans (q13745.1 231 15 (by decide))).trans hv6) ?_
          refine q_imul (8 * v6.toInt) rfl (by omega) (fun v14976 hv14976 => ?_)
          refine r_istore_n _ rfl ?_
          refine r_iconst 0 rfl ?_
          refine r_istore_n _ rfl ?_
          refine Ar.fall 75 rfl ?_
          have z_15296 : (0 : Int32).toInt = 0 := rfl
          refine w_loopI (fun n_ l_ g_ => ∃ x15282 : Int32, n_ = 8 - x15282.toInt ∧ HI g_ ∧ Fr F_X11_readClause_231 A_X11_readClause_231 g0 g_ ∧ en_get 0 l_ = some (.ref 231) ∧ en_get 1 l_ = some (.int x13732) ∧ en_get 2 l_ = some (.int v14976) ∧ en_get 3 l_ = some (.int x15282) ∧ (0 ≤ x15282.toInt ∧ x15282.toInt ≤ 8) ∧ (Fr [] [237] g14944 g_) ∧ (∀ i : Int, 0 ≤ i → i < v14976.toInt → eA g_ 237 i = eA g14944 237 i)) ?_ (8 - 0) ⟨0, by first | rfl | omega, hI14945, hF14949, (w_p1 (by decide) (Or.inr rfl) (w_p1 (by decide) (Or.inr rfl) e13740)), (w_p1 (by decide) (Or.inr rfl) (w_p1 (by decide) (Or.inr rfl) e13741)), (w_p1 (by decide) (Or.inr rfl) (w_e1 _ _ _)), (w_e1 _ _ _), by decide, Fr.rf, (fun i i0 i1 => rfl)⟩
          rintro n15287 l15286 g15283 ⟨x15282, hm15297, hI15284, hF15285, e15289, e15290, e15291, e15292, r15293, q15294, q15295⟩ ih15288
          refine At.enter rfl ?_
          refine r_iload_n e15292 ?_
          refine r_bipush 8 rfl ?_
          refine r_ics 81 rfl (fun c15298 => ?_) (fun c15298 => ?_)
          · have c15298_ : x15282.toInt ≥ 8 := en_i_ge_t c15298
            refine At.enter rfl ?_
            refine r_aload_n e15289 ?_
            refine q_getR (Sh.ref hI15284.1 kx_231 rfl) ?_
            refine r_iload_n e15291 ?_
            refine r_iload_n e15290 ?_
            refine q_iast (Sh.arr hI15284.1 ka_237) ((8 * v6.toInt)) (by omega) (by omega) ?_
            have hI15299 := HI.wA0 hI15284 ka_237 (p := 237) rfl rfl ((8 * v6.toInt)) (x13732)
            have hF15300 := Fr.wA (p := 237) (j := (8 * v6.toInt)) (v := x13732) hF15285 rfl
            refine r_aload_n e15289 ?_
            refine r_dup rfl ?_
            refine q_getI (Sh.int hI15299.1 kx_231 rfl) v6 (((gI_sW).trans ((q15294.1 231 15 (by decide)).trans ((hF14946.1 231 15 (by decide)).trans (q13745.1 231 15 (by decide))))).trans hv6) ?_
            refine r_iconst 1 rfl ?_
            refine q_iadd (v6.toInt + 1) rfl (by omega) (fun v15301 hv15301 => ?_)
            refine q_putI (Sh.int hI15299.1 kx_231 rfl) rfl ?_
            have hI15302 := HI.wI1 hI15299 kx_231 rfl (p := 231) (b := 15) (v := v15301) rfl (by dsimp only; omega)
            have hF15303 := Fr.wI (p := 231) (b := 15) (v := v15301) hF15300 rfl
            refine r_aload_n e15289 ?_
            refine q_getR (Sh.ref hI15302.1 kx_231 rfl) ?_
            refine r_iload_n e15291 ?_
            refine r_iconst 3 rfl ?_
            refine q_iadd (v14976.toInt + 3) rfl (by omega) (fun v15304 hv15304 => ?_)
            refine r_aload_n e15289 ?_
            refine q_getI (Sh.int hI15302.1 kx_231 rfl) v7 (((gI_sI_ne (by decide)).trans ((gI_sW).trans ((q15294.1 231 17 (by decide)).trans ((hF14946.1 231 17 (by decide)).trans (q13745.1 231 17 (by decide)))))).trans hv7) ?_
            refine q_iast (Sh.arr hI15302.1 ka_237) ((8 * v6.toInt + 3)) (by omega) (by omega) ?_
            have hI15305 := HI.wA0 hI15302 ka_237 (p := 237) rfl rfl ((8 * v6.toInt + 3)) (v7)
            have hF15306 := Fr.wA (p := 237) (j := (8 * v6.toInt + 3)) (v := v7) hF15303 rfl
            refine r_iload_n e15290 ?_
            refine r_iconst 2 rfl ?_
            refine r_ics 130 rfl (fun c15307 => ?_) (fun c15307 => ?_)
            · have c15307_ : x13732.toInt ≥ 2 := en_i_ge_t c15307
              refine At.enter rfl ?_
              refine r_aload_n e15289 ?_
              refine q_getR (Sh.ref hI15305.1 kx_231 rfl) ?_
              refine r_iload_n e15291 ?_
              refine r_iconst 4 rfl ?_
              refine q_iadd (v14976.toInt + 4) rfl (by omega) (fun v15308 hv15308 => ?_)
              refine r_aload_n e15289 ?_
              refine q_getI (Sh.int hI15305.1 kx_231 rfl) v7 (((gI_sW).trans ((gI_sI_ne (by decide)).trans ((gI_sW).trans ((q15294.1 231 17 (by decide)).trans ((hF14946.1 231 17 (by decide)).trans (q13745.1 231 17 (by decide))))))).trans hv7) ?_
              refine q_iast (Sh.arr hI15305.1 ka_237) ((8 * v6.toInt + 4)) (by omega) (by omega) ?_
              have hI15309 := HI.wA0 hI15305 ka_237 (p := 237) rfl rfl ((8 * v6.toInt + 4)) (v7)
              have hF15310 := Fr.wA (p := 237) (j := (8 * v6.toInt + 4)) (v := v7) hF15306 rfl
              refine r_aload_n e15289 ?_
              refine q_getR (Sh.ref hI15309.1 kx_231 rfl) ?_
              refine r_iload_n e15291 ?_
              refine r_iconst 5 rfl ?_
              refine q_iadd (v14976.toInt + 5) rfl (by omega) (fun v15311 hv15311 => ?_)
              refine r_aload_n e15289 ?_
              refine q_getI (Sh.int hI15309.1 kx_231 rfl) v7 (((gI_sW).trans ((gI_sW).trans ((gI_sI_ne (by decide)).trans ((gI_sW).trans ((q15294.1 231 17 (by decide)).trans ((hF14946.1 231 17 (by decide)).trans (q13745.1 231 17 (by decide)))))))).trans hv7) ?_
              refine q_iast (Sh.arr hI15309.1 ka_237) ((8 * v6.toInt + 5)) (by omega) (by omega) ?_
              have hI15312 := HI.wA0 hI15309 ka_237 (p := 237) rfl rfl ((8 * v6.toInt + 5)) (v7)
              have hF15313 := Fr.wA (p := 237) (j := (8 * v6.toInt + 5)) (v := v7) hF15310 rfl
              refine r_aload_n e15289 ?_
              refine q_getI (Sh.int hI15312.1 kx_231 rfl) v14963 (((gI_sW).trans ((gI_sW).trans ((gI_sW).trans ((gI_sI_ne (by decide)).trans ((gI_sW).trans (q15294.1 231 14 (by decide))))))).trans hv14963) ?_
              refine r_ifs 166 rfl (fun c15314 => ?_) (fun c15314 => ?_)
              · have c15314_ : v14963.toInt ≠ 0 := en_k_ne_t c15314
                clear c14971
                exfalso; omega
              · have c15314_ : v14963.toInt = 0 := en_k_ne_f c15314
                obtain ⟨i15315, i15316, i15317⟩ := c14971 (by omega)
                refine At.enter rfl ?_
                refine r_aload_n e15289 ?_
                refine r_ldc2 294 rfl ?_
                have x15318 := HI.eqI hI15312 (p := 231) (b := 11) ((((gI_sW).trans ((gI_sW).trans ((gI_sW).trans ((gI_sI_ne (by decide)).trans ((gI_sW).trans (q15294.1 231 11 (by decide))))))).trans hv14961))
                have zv15319 : (294 : Int64).toInt = 294 := rfl
                refine r_callV 173 rfl [.ref 231, .long 294] [] (Nat.le_of_ble_eq_true rfl) rfl (T_X11_isWord_231 _ hI15312 294 (by omega)) ?_
                rintro _ _ ⟨g15320, rfl, hI15321, hF15322, v15323, rfl, hr15324⟩
                refine At.sti ?_
                have hF15325 := Fr.tr hF15313 hF15322 rfl rfl
                have zv15326 : (294 : Int64).toInt = 294 := rfl
                have x15327 := HI.eqI hI15312 (p := 231) (b := 9) ((((gI_sW).trans ((gI_sW).trans ((gI_sW).trans ((gI_sI_ne (by decide)).trans ((gI_sW).trans (q15294.1 231 9 (by decide))))))).trans hv14957))
                have x15328 := HI.eqI hI15312 (p := 231) (b := 10) ((((gI_sW).trans ((gI_sW).trans ((gI_sW).trans ((gI_sI_ne (by decide)).trans ((gI_sW).trans (q15294.1 231 10 (by decide))))))).trans hv14959))
                have x15329 := HI.eqI hI15312 (p := 231) (b := 11) ((((gI_sW).trans ((gI_sW).trans ((gI_sW).trans ((gI_sI_ne (by decide)).trans ((gI_sW).trans (q15294.1 231 11 (by decide))))))).trans hv14961))
                have x15330 := HI.eqI hI15321 (p := 231) (b := 9) ((((hF15322.1 231 9 (by decide)).trans ((gI_sW).trans ((gI_sW).trans ((gI_sW).trans ((gI_sI_ne (by decide)).trans ((gI_sW).trans (q15294.1 231 9 (by decide)))))))).trans hv14957))
                have x15331 := HI.eqI hI15321 (p := 231) (b := 10) ((((hF15322.1 231 10 (by decide)).trans ((gI_sW).trans ((gI_sW).trans ((gI_sW).trans ((gI_sI_ne (by decide)).trans ((gI_sW).trans (q15294.1 231 10 (by decide)))))))).trans hv14959))
                have x15332 := HI.eqI hI15321 (p := 231) (b := 11) ((((hF15322.1 231 11 (by decide)).trans ((gI_sW).trans ((gI_sW).trans ((gI_sW).trans ((gI_sI_ne (by decide)).trans ((gI_sW).trans (q15294.1 231 11 (by decide)))))))).trans hv14961))
                obtain ⟨c15335, c15333, isw15334⟩ := hr15324
                have w2615336 := W26.cong c14970 hI15312 (((gI_sW).trans ((gI_sW).trans ((gI_sW).trans ((gI_sI_ne (by decide)).trans ((gI_sW).trans (q15294.1 231 9 (by decide)))))))) (((gI_sW).trans ((gI_sW).trans ((gI_sW).trans ((gI_sI_ne (by decide)).trans ((gI_sW).trans (q15294.1 231 10 (by decide)))))))) (((gI_sW).trans ((gI_sW).trans ((gI_sW).trans ((gI_sI_ne (by decide)).trans ((gI_sW).trans (q15294.1 231 11 (by decide)))))))) (((gJ_sW).trans ((gJ_sW).trans ((gJ_sW).trans ((gJ_sI_ne (by decide)).trans ((gJ_sW).trans (q15294.2.2 231 12 (by decide))))))))
                refine At.enter rfl ?_
                refine r_ifs 176 rfl (fun c15337 => ?_) (fun c15337 => ?_)
                · have c15337_ : v15323.toInt = 0 := en_k_eq_t c15337
                  refine At.enter rfl ?_
                  refine r_aload_n e15289 ?_
                  refine q_getR (Sh.ref hI15321.1 kx_231 rfl) ?_
                  refine r_iload_n e15291 ?_
                  refine r_bipush 6 rfl ?_
                  refine q_iadd (v14976.toInt + 6) rfl (by omega) (fun v15338 hv15338 => ?_)
                  refine r_aload_n e15289 ?_
                  refine q_getI (Sh.int hI15321.1 kx_231 rfl) v7 (((hF15322.1 231 17 (by decide)).trans ((gI_sW).trans ((gI_sW).trans ((gI_sW).trans ((gI_sI_ne (by decide)).trans ((gI_sW).trans ((q15294.1 231 17 (by decide)).trans ((hF14946.1 231 17 (by decide)).trans (q13745.1 231 17 (by decide)))))))))).trans hv7) ?_
                  refine q_iast (Sh.arr hI15321.1 ka_237) ((8 * v6.toInt + 6)) (by omega) (by omega) ?_
                  have hI15339 := HI.wA0 hI15321 ka_237 (p := 237) rfl rfl ((8 * v6.toInt + 6)) (v7)
                  have hF15340 := Fr.wA (p := 237) (j := (8 * v6.toInt + 6)) (v := v7) hF15325 rfl
                  refine r_vret ?_
                  have x15341 := HI.eqI hI15339 (p := 231) (b := 8) ((((gI_sW).trans ((hF15322.1 231 8 (by decide)).trans ((gI_sW).trans ((gI_sW).trans ((gI_sW).trans ((gI_sI_ne (by decide)).trans ((gI_sW).trans ((q15294.1 231 8 (by decide)).trans ((hF14946.1 231 8 (by decide)).trans (q13745.1 231 8 (by decide))))))))))).trans hv1))
                  have x15342 := HI.eqI hI15339 (p := 231) (b := 9) ((((gI_sW).trans ((hF15322.1 231 9 (by decide)).trans ((gI_sW).trans ((gI_sW).trans ((gI_sW).trans ((gI_sI_ne (by decide)).trans ((gI_sW).trans (q15294.1 231 9 (by decide))))))))).trans hv14957))
                  have x15343 := HI.eqI hI15339 (p := 231) (b := 10) ((((gI_sW).trans ((hF15322.1 231 10 (by decide)).trans ((gI_sW).trans ((gI_sW).trans ((gI_sW).trans ((gI_sI_ne (by decide)).trans ((gI_sW).trans (q15294.1 231 10 (by decide))))))))).trans hv14959))
                  have x15344 := HI.eqI hI15339 (p := 231) (b := 11) ((((gI_sW).trans ((hF15322.1 231 11 (by decide)).trans ((gI_sW).trans ((gI_sW).trans ((gI_sW).trans ((gI_sI_ne (by decide)).trans ((gI_sW).trans (q15294.1 231 11 (by decide))))))))).trans hv14961))
                  have x15345 := HI.eqI hI15339 (p := 231) (b := 14) ((((gI_sW).trans ((hF15322.1 231 14 (by decide)).trans ((gI_sW).trans ((gI_sW).trans ((gI_sW).trans ((gI_sI_ne (by decide)).trans ((gI_sW).trans (q15294.1 231 14 (by decide))))))))).trans hv14963))
                  have x15346 := HI.eqI hI15339 (p := 231) (b := 15) (((gI_sW).trans ((hF15322.1 231 15 (by decide)).trans ((gI_sW).trans ((gI_sW).trans ((gI_sW).trans (gI_sI_eq hI15299.1 kx_231 rfl _)))))))
                  have x15347 := HI.eqI hI15339 (p := 231) (b := 17) ((((gI_sW).trans ((hF15322.1 231 17 (by decide)).trans ((gI_sW).trans ((gI_sW).trans ((gI_sW).trans ((gI_sI_ne (by decide)).trans ((gI_sW).trans ((q15294.1 231 17 (by decide)).trans ((hF14946.1 231 17 (by decide)).trans (q13745.1 231 17 (by decide))))))))))).trans hv7))
                  have x15348 := HI.eqI hI0 (p := 231) (b := 8) (hv1)
                  have x15349 := HI.eqI hI0 (p := 231) (b := 9) (hv2)
                  have x15350 := HI.eqI hI0 (p := 231) (b := 10) (hv3)
                  have x15351 := HI.eqI hI0 (p := 231) (b := 11) (hv4)
                  have x15352 := HI.eqI hI0 (p := 231) (b := 14) (hv5)
                  have x15353 := HI.eqI hI0 (p := 231) (b := 15) (hv6)
                  have x15354 := HI.eqI hI0 (p := 231) (b := 17) (hv7)
                  have w2615355 := W26.cong c14970 hI15339 (((gI_sW).trans ((hF15322.1 231 9 (by decide)).trans ((gI_sW).trans ((gI_sW).trans ((gI_sW).trans ((gI_sI_ne (by decide)).trans ((gI_sW).trans (q15294.1 231 9 (by decide)))))))))) (((gI_sW).trans ((hF15322.1 231 10 (by decide)).trans ((gI_sW).trans ((gI_sW).trans ((gI_sW).trans ((gI_sI_ne (by decide)).trans ((gI_sW).trans (q15294.1 231 10 (by decide)))))))))) (((gI_sW).trans ((hF15322.1 231 11 (by decide)).trans ((gI_sW).trans ((gI_sW).trans ((gI_sW).trans ((gI_sI_ne (by decide)).trans ((gI_sW).trans (q15294.1 231 11 (by decide)))))))))) (((gJ_sW).trans ((hF15322.2.2 231 12 (by decide)).trans ((gJ_sW).trans ((gJ_sW).trans ((gJ_sW).trans ((gJ_sI_ne (by decide)).trans ((gJ_sW).trans (q15294.2.2 231 12 (by decide))))))))))
                  exact ⟨_, rfl, hI15339, hF15340, rfl, ⟨by omega, by omega, by omega, by omega, w2615355, by omega, (fun hbad => by exact ⟨by omega, CLS.step (K := (gI g0 231 15).toInt) (n1 := (gI g0 231 17).toInt) (n2 := v7.toInt) hC ⟨by omega, by omega⟩ ⟨by omega, by omega, by omega⟩ (fun i i0 i1 => ((eA_sA_ne (i := i) hI15321.1 ka_237 (by omega) (by omega) (by omega)).trans ((eA_c (hF15322.2.1 237 (by decide))).trans ((eA_sA_ne (i := i) hI15309.1 ka_237 (by omega) (by omega) (by omega)).trans ((eA_sA_ne (i := i) hI15305.1 ka_237 (by omega) (by omega) (by omega)).trans ((eA_sA_ne (i := i) hI15302.1 ka_237 (by omega) (by omega) (by omega)).trans ((eA_c gA_sI).trans ((eA_sA_ne (i := i) hI15284.1 ka_237 (by omega) (by omega) (by omega)).trans ((q15295 i i0 (by omega)).trans ((eA_c (hF14946.2.1 237 (by decide))).trans (eA_c (q13745.2.1 237 (by decide))))))))))))) (by show (eA _ 237 (8 * (gI g0 231 15).toInt + 3)).toInt = (gI g0 231 17).toInt; rw [show 8 * (gI g0 231 15).toInt + 3 = (8 * v6.toInt + 3) by omega]; exact (congrArg Int32.toInt (((eA_sA_ne hI15321.1 ka_237 (by first | decide | omega) (by first | decide | omega) (by first | decide | omega)).trans ((eA_c (hF15322.2.1 237 (by decide))).trans ((eA_sA_ne hI15309.1 ka_237 (by first | decide | omega) (by first | decide | omega) (by first | decide | omega)).trans ((eA_sA_ne hI15305.1 ka_237 (by first | decide | omega) (by first | decide | omega) (by first | decide | omega)).trans (eA_sA_eq hI15302.1 ka_237 (by first | rfl | omega) (by first | decide | omega) (by first | decide | omega)))))))).trans (by omega)) (by show (eA _ 237 (8 * (gI g0 231 15).toInt + 4)).toInt = v7.toInt; rw [show 8 * (gI g0 231 15).toInt + 4 = (8 * v6.toInt + 4) by omega]; exact (congrArg Int32.toInt (((eA_sA_ne hI15321.1 ka_237 (by first | decide | omega) (by first | decide | omega) (by first | decide | omega)).trans ((eA_c (hF15322.2.1 237 (by decide))).trans ((eA_sA_ne hI15309.1 ka_237 (by first | decide | omega) (by first | decide | omega) (by first | decide | omega)).trans (eA_sA_eq hI15305.1 ka_237 (by first | rfl | omega) (by first | decide | omega) (by first | decide | omega))))))).trans (by omega)) (by show (eA _ 237 (8 * (gI g0 231 15).toInt + 5)).toInt = v7.toInt; rw [show 8 * (gI g0 231 15).toInt + 5 = (8 * v6.toInt + 5) by omega]; exact (congrArg Int32.toInt (((eA_sA_ne hI15321.1 ka_237 (by first | decide | omega) (by first | decide | omega) (by first | decide | omega)).trans ((eA_c (hF15322.2.1 237 (by decide))).trans (eA_sA_eq hI15309.1 ka_237 (by first | rfl | omega) (by first | decide | omega) (by first | decide | omega)))))).trans (by omega)) (by show (eA _ 237 (8 * (gI g0 231 15).toInt + 6)).toInt = (gI _ 231 17).toInt; rw [show 8 * (gI g0 231 15).toInt + 6 = (8 * v6.toInt + 6) by omega]; exact (congrArg Int32.toInt ((eA_sA_eq hI15321.1 ka_237 (by first | rfl | omega) (by first | decide | omega) (by first | decide | omega)))).trans (by omega)) (show SAME g0 _ (gI g0 231 17).toInt from (SAME.c hI15339 (((gA_sA_ne (by decide)).trans ((hF15322.2.1 238 (by decide)).trans ((gA_sA_ne (by decide)).trans ((gA_sA_ne (by decide)).trans ((gA_sA_ne (by decide)).trans ((gA_sI).trans ((gA_sA_ne (by decide)).trans ((q15294.2.1 238 (by decide)).trans ((hF14946.2.1 238 (by decide)).trans (q13745.2.1 238 (by decide)))))))))))) (((gA_sA_ne (by decide)).trans ((hF15322.2.1 239 (by decide)).trans ((gA_sA_ne (by decide)).trans ((gA_sA_ne (by decide)).trans ((gA_sA_ne (by decide)).trans ((gA_sI).trans ((gA_sA_ne (by decide)).trans ((q15294.2.1 239 (by decide)).trans ((hF14946.2.1 239 (by decide)).trans (q13745.2.1 239 (by decide)))))))))))))) (WfCode.nil' (by omega) (by omega) (by omega)) (WfCode.nil' (by omega) (by omega) (by omega))⟩)⟩⟩
                · have c15337_ : v15323.toInt ≠ 0 := en_k_eq_f c15337
                  have i15356 := W26.two w2615336 isw15334 (by omega) (by decide)
                  refine At.enter rfl ?_
                  refine r_aload_n e15289 ?_
                  have x15357 := HI.eqI hI15321 (p := 231) (b := 8) ((((hF15322.1 231 8 (by decide)).trans ((gI_sW).trans ((gI_sW).trans ((gI_sW).trans ((gI_sI_ne (by decide)).trans ((gI_sW).trans ((q15294.1 231 8 (by decide)).trans ((hF14946.1 231 8 (by decide)).trans (q13745.1 231 8 (by decide)))))))))).trans hv1))
                  have x15358 := HI.eqI hI15321 (p := 231) (b := 10) ((((hF15322.1 231 10 (by decide)).trans ((gI_sW).trans ((gI_sW).trans ((gI_sW).trans ((gI_sI_ne (by decide)).trans ((gI_sW).trans (q15294.1 231 10 (by decide)))))))).trans hv14959))
                  refine r_callV 180 rfl [.ref 231] [] (Nat.le_of_ble_eq_true rfl) rfl (T_X11_next_231 _ hI15321 (by omega)) ?_
                  rintro _ _ ⟨g15359, rfl, hI15360, hF15361, rfl, hr15363⟩
                  refine At.stn ?_
                  have hF15364 := Fr.tr hF15325 hF15361 rfl rfl
                  have x15365 := HI.eqI hI15321 (p := 231) (b := 8) ((((hF15322.1 231 8 (by decide)).trans ((gI_sW).trans ((gI_sW).trans ((gI_sW).trans ((gI_sI_ne (by decide)).trans ((gI_sW).trans ((q15294.1 231 8 (by decide)).trans ((hF14946.1 231 8 (by decide)).trans (q13745.1 231 8 (by decide)))))))))).trans hv1))
                  have x15366 := HI.eqI hI15321 (p := 231) (b := 10) ((((hF15322.1 231 10 (by decide)).trans ((gI_sW).trans ((gI_sW).trans ((gI_sW).trans ((gI_sI_ne (by decide)).trans ((gI_sW).trans (q15294.1 231 10 (by decide)))))))).trans hv14959))
                  have x15367 := HI.eqI hI15360 (p := 231) (b := 8) ((((hF15361.1 231 8 (by decide)).trans ((hF15322.1 231 8 (by decide)).trans ((gI_sW).trans ((gI_sW).trans ((gI_sW).trans ((gI_sI_ne (by decide)).trans ((gI_sW).trans ((q15294.1 231 8 (by decide)).trans ((hF14946.1 231 8 (by decide)).trans (q13745.1 231 8 (by decide))))))))))).trans hv1))
                  obtain ⟨v15368, hv15368⟩ : ∃ v, gI g15359 231 9 = v := ⟨_, rfl⟩
                  have rv15368 := RgF.at hI15360.2.1 (p := 231) (b := 9) rfl
                  rw [hv15368] at rv15368
                  dsimp only at rv15368
                  have tv15368 := congrArg Int32.toInt hv15368
                  have x15369 := HI.eqI hI15360 (p := 231) (b := 9) (hv15368)
                  obtain ⟨v15370, hv15370⟩ : ∃ v, gI g15359 231 10 = v := ⟨_, rfl⟩
                  have rv15370 := RgF.at hI15360.2.1 (p := 231) (b := 10) rfl
                  rw [hv15370] at rv15370
                  dsimp only at rv15370
                  have tv15370 := congrArg Int32.toInt hv15370
                  have x15371 := HI.eqI hI15360 (p := 231) (b := 10) (hv15370)
                  obtain ⟨v15372, hv15372⟩ : ∃ v, gI g15359 231 11 = v := ⟨_, rfl⟩
                  have tv15372 := congrArg Int32.toInt hv15372
                  have x15373 := HI.eqI hI15360 (p := 231) (b := 11) (hv15372)
                  obtain ⟨c15374, c15375, c15376, c15377, c15378, c15379⟩ := hr15363
                  refine At.enter rfl ?_
                  refine r_aload_n e15289 ?_
                  refine r_iconst 1 rfl ?_
                  have x15380 := HI.eqI hI15360 (p := 231) (b := 8) ((((hF15361.1 231 8 (by decide)).trans ((hF15322.1 231 8 (by decide)).trans ((gI_sW).trans ((gI_sW).trans ((gI_sW).trans ((gI_sI_ne (by decide)).trans ((gI_sW).trans ((q15294.1 231 8 (by decide)).trans ((hF14946.1 231 8 (by decide)).trans (q13745.1 231 8 (by decide))))))))))).trans hv1))
                  have x15381 := HI.eqI hI15360 (p := 231) (b := 9) (hv15368)
                  have x15382 := HI.eqI hI15360 (p := 231) (b := 10) (hv15370)
                  have x15383 := HI.eqI hI15360 (p := 231) (b := 11) (hv15372)
                  obtain ⟨v15384, hv15384⟩ : ∃ v, gJ g15359 231 12 = v := ⟨_, rfl⟩
                  have x15385 := HI.eqJ hI15360 (b := 12) (hv15384)
                  have x15386 := HI.eqI hI15360 (p := 231) (b := 14) ((((hF15361.1 231 14 (by decide)).trans ((hF15322.1 231 14 (by decide)).trans ((gI_sW).trans ((gI_sW).trans ((gI_sW).trans ((gI_sI_ne (by decide)).trans ((gI_sW).trans (q15294.1 231 14 (by decide))))))))).trans hv14963))
                  have x15387 := HI.eqI hI15360 (p := 231) (b := 17) ((((hF15361.1 231 17 (by decide)).trans ((hF15322.1 231 17 (by decide)).trans ((gI_sW).trans ((gI_sW).trans ((gI_sW).trans ((gI_sI_ne (by decide)).trans ((gI_sW).trans ((q15294.1 231 17 (by decide)).trans ((hF14946.1 231 17 (by decide)).trans (q13745.1 231 17 (by decide))))))))))).trans hv7))
                  obtain ⟨v15388, hv15388⟩ : ∃ v, gI g0 231 23 = v := ⟨_, rfl⟩
                  have rv15388 := RgF.at hI0.2.1 (p := 231) (b := 23) rfl
                  rw [hv15388] at rv15388
                  dsimp only at rv15388
                  have tv15388 := congrArg Int32.toInt hv15388
                  have x15389 := HI.eqI hI15360 (p := 231) (b := 23) ((((hF15361.1 231 23 (by decide)).trans ((hF15322.1 231 23 (by decide)).trans ((gI_sW).trans ((gI_sW).trans ((gI_sW).trans ((gI_sI_ne (by decide)).trans ((gI_sW).trans ((q15294.1 231 23 (by decide)).trans ((hF14946.1 231 23 (by decide)).trans (q13745.1 231 23 (by decide))))))))))).trans hv15388))
                  have zv15390 : (1 : Int32).toInt = 1 := rfl
                  refine r_callV 185 rfl [.ref 231, .int 1] [] (Nat.le_of_ble_eq_true rfl) rfl (T_X11_readExpression_231 _ hI15360 1 (by decide) (by refine ⟨?_, ?_, ?_, ?_⟩ <;> omega) (by omega) (by omega) c15379) ?_
                  rintro _ _ ⟨g15391, rfl, hI15392, hF15393, rfl, hr15395⟩
                  refine At.stn ?_
                  have hF15396 := Fr.tr hF15364 hF15393 rfl rfl
                  have zv15397 : (1 : Int32).toInt = 1 := rfl
                  have x15398 := HI.eqI hI15360 (p := 231) (b := 9) (hv15368)
                  have x15399 := HI.eqI hI15360 (p := 231) (b := 17) ((((hF15361.1 231 17 (by decide)).trans ((hF15322.1 231 17 (by decide)).trans ((gI_sW).trans ((gI_sW).trans ((gI_sW).trans ((gI_sI_ne (by decide)).trans ((gI_sW).trans ((q15294.1 231 17 (by decide)).trans ((hF14946.1 231 17 (by decide)).trans (q13745.1 231 17 (by decide))))))))))).trans hv7))
                  have x15400 := HI.eqI hI15392 (p := 231) (b := 8) ((((hF15393.1 231 8 (by decide)).trans ((hF15361.1 231 8 (by decide)).trans ((hF15322.1 231 8 (by decide)).trans ((gI_sW).trans ((gI_sW).trans ((gI_sW).trans ((gI_sI_ne (by decide)).trans ((gI_sW).trans ((q15294.1 231 8 (by decide)).trans ((hF14946.1 231 8 (by decide)).trans (q13745.1 231 8 (by decide)))))))))))).trans hv1))
                  obtain ⟨v15401, hv15401⟩ : ∃ v, gI g15391 231 9 = v := ⟨_, rfl⟩
                  have rv15401 := RgF.at hI15392.2.1 (p := 231) (b := 9) rfl
                  rw [hv15401] at rv15401
                  dsimp only at rv15401
                  have tv15401 := congrArg Int32.toInt hv15401
                  have x15402 := HI.eqI hI15392 (p := 231) (b := 9) (hv15401)
                  obtain ⟨v15403, hv15403⟩ : ∃ v, gI g15391 231 10 = v := ⟨_, rfl⟩
                  have rv15403 := RgF.at hI15392.2.1 (p := 231) (b := 10) rfl
                  rw [hv15403] at rv15403
                  dsimp only at rv15403
                  have tv15403 := congrArg Int32.toInt hv15403
                  have x15404 := HI.eqI hI15392 (p := 231) (b := 10) (hv15403)
                  obtain ⟨v15405, hv15405⟩ : ∃ v, gI g15391 231 11 = v := ⟨_, rfl⟩
                  have tv15405 := congrArg Int32.toInt hv15405
                  have x15406 := HI.eqI hI15392 (p := 231) (b := 11) (hv15405)
                  obtain ⟨v15407, hv15407⟩ : ∃ v, gJ g15391 231 12 = v := ⟨_, rfl⟩
                  have x15408 := HI.eqJ hI15392 (b := 12) (hv15407)
                  obtain ⟨v15409, hv15409⟩ : ∃ v, gI g15391 231 14 = v := ⟨_, rfl⟩
                  have tv15409 := congrArg Int32.toInt hv15409
                  have x15410 := HI.eqI hI15392 (p := 231) (b := 14) (hv15409)
                  obtain ⟨v15411, hv15411⟩ : ∃ v, gI g15391 231 17 = v := ⟨_, rfl⟩
                  have rv15411 := RgF.at hI15392.2.1 (p := 231) (b := 17) rfl
                  rw [hv15411] at rv15411
                  dsimp only at rv15411
                  have tv15411 := congrArg Int32.toInt hv15411
                  have x15412 := HI.eqI hI15392 (p := 231) (b := 17) (hv15411)
                  obtain ⟨v15413, hv15413⟩ : ∃ v, gI g15391 231 23 = v := ⟨_, rfl⟩
                  have rv15413 := RgF.at hI15392.2.1 (p := 231) (b := 23) rfl
                  rw [hv15413] at rv15413
                  dsimp only at rv15413
                  have tv15413 := congrArg Int32.toInt hv15413
                  have x15414 := HI.eqI hI15392 (p := 231) (b := 23) (hv15413)
                  obtain ⟨c15415, c15416, c15417, c15418, c15419, c15420, c15421⟩ := hr15395
                  refine At.enter rfl ?_
                  refine r_aload_n e15289 ?_
                  refine q_getR (Sh.ref hI15392.1 kx_231 rfl) ?_
                  refine r_iload_n e15291 ?_
                  refine r_bipush 6 rfl ?_
                  refine q_iadd (v14976.toInt + 6) rfl (by omega) (fun v15422 hv15422 => ?_)
                  refine r_aload_n e15289 ?_
                  refine q_getI (Sh.int hI15392.1 kx_231 rfl) v15411 hv15411 ?_
                  refine q_iast (Sh.arr hI15392.1 ka_237) ((8 * v6.toInt + 6)) (by omega) (by omega) ?_
                  have hI15423 := HI.wA0 hI15392 ka_237 (p := 237) rfl rfl ((8 * v6.toInt + 6)) (v15411)
                  have hF15424 := Fr.wA (p := 237) (j := (8 * v6.toInt + 6)) (v := v15411) hF15396 rfl
                  refine r_vret ?_
                  have x15425 := HI.eqI hI15423 (p := 231) (b := 8) ((((gI_sW).trans ((hF15393.1 231 8 (by decide)).trans ((hF15361.1 231 8 (by decide)).trans ((hF15322.1 231 8 (by decide)).trans ((gI_sW).trans ((gI_sW).trans ((gI_sW).trans ((gI_sI_ne (by decide)).trans ((gI_sW).trans ((q15294.1 231 8 (by decide)).trans ((hF14946.1 231 8 (by decide)).trans (q13745.1 231 8 (by decide))))))))))))).trans hv1))
                  have x15426 := HI.eqI hI15423 (p := 231) (b := 9) (((gI_sW).trans hv15401))
                  have x15427 := HI.eqI hI15423 (p := 231) (b := 10) (((gI_sW).trans hv15403))
                  have x15428 := HI.eqI hI15423 (p := 231) (b := 11) (((gI_sW).trans hv15405))
                  have x15429 := HI.eqI hI15423 (p := 231) (b := 14) (((gI_sW).trans hv15409))
                  have x15430 := HI.eqI hI15423 (p := 231) (b := 15) (((gI_sW).trans ((hF15393.1 231 15 (by decide)).trans ((hF15361.1 231 15 (by decide)).trans ((hF15322.1 231 15 (by decide)).trans ((gI_sW).trans ((gI_sW).trans ((gI_sW).trans (gI_sI_eq hI15299.1 kx_231 rfl _)))))))))
                  have x15431 := HI.eqI hI15423 (p := 231) (b := 17) (((gI_sW).trans hv15411))
                  have x15432 := HI.eqI hI0 (p := 231) (b := 8) (hv1)
                  have x15433 := HI.eqI hI0 (p := 231) (b := 9) (hv2)
                  have x15434 := HI.eqI hI0 (p := 231) (b := 10) (hv3)
                  have x15435 := HI.eqI hI0 (p := 231) (b := 11) (hv4)
                  have x15436 := HI.eqI hI0 (p := 231) (b := 14) (hv5)
                  have x15437 := HI.eqI hI0 (p := 231) (b := 15) (hv6)
                  have x15438 := HI.eqI hI0 (p := 231) (b := 17) (hv7)
                  have w2615439 := W26.cong c15419 hI15423 ((gI_sW)) ((gI_sW)) ((gI_sW)) ((gJ_sW))
                  exact ⟨_, rfl, hI15423, hF15424, rfl, ⟨by omega, by omega, by omega, by omega, w2615439, by omega, (fun hbad => by have t0 := (c15421 (by omega)).1; have x0 := (c15421 (by omega)).2; have u0 : (gI _ 231 17).toInt ≤ (gI _ 231 17).toInt := x0.1; exact ⟨by omega, CLS.step (K := (gI g0 231 15).toInt) (n1 := (gI g0 231 17).toInt) (n2 := v7.toInt) hC ⟨by omega, by omega⟩ ⟨by omega, by omega, by omega⟩ (fun i i0 i1 => ((eA_sA_ne (i := i) hI15392.1 ka_237 (by omega) (by omega) (by omega)).trans ((eA_c (hF15393.2.1 237 (by decide))).trans ((eA_c (hF15361.2.1 237 (by decide))).trans ((eA_c (hF15322.2.1 237 (by decide))).trans ((eA_sA_ne (i := i) hI15309.1 ka_237 (by omega) (by omega) (by omega)).trans ((eA_sA_ne (i := i) hI15305.1 ka_237 (by omega) (by omega) (by omega)).trans ((eA_sA_ne (i := i) hI15302.1 ka_237 (by omega) (by omega) (by omega)).trans ((eA_c gA_sI).trans ((eA_sA_ne (i := i) hI15284.1 ka_237 (by omega) (by omega) (by omega)).trans ((q15295 i i0 (by omega)).trans ((eA_c (hF14946.2.1 237 (by decide))).trans (eA_c (q13745.2.1 237 (by decide))))))))))))))) (by show (eA _ 237 (8 * (gI g0 231 15).toInt + 3)).toInt = (gI g0 231 17).toInt; rw [show 8 * (gI g0 231 15).toInt + 3 = (8 * v6.toInt + 3) by omega]; exact (congrArg Int32.toInt (((eA_sA_ne hI15392.1 ka_237 (by first | decide | omega) (by first | decide | omega) (by first | decide | omega)).trans ((eA_c (hF15393.2.1 237 (by decide))).trans ((eA_c (hF15361.2.1 237 (by decide))).trans ((eA_c (hF15322.2.1 237 (by decide))).trans ((eA_sA_ne hI15309.1 ka_237 (by first | decide | omega) (by first | decide | omega) (by first | decide | omega)).trans ((eA_sA_ne hI15305.1 ka_237 (by first | decide | omega) (by first | decide | omega) (by first | decide | omega)).trans (eA_sA_eq hI15302.1 ka_237 (by first | rfl | omega) (by first | decide | omega) (by first | decide | omega)))))))))).trans (by omega)) (by show (eA _ 237 (8 * (gI g0 231 15).toInt + 4)).toInt = v7.toInt; rw [show 8 * (gI g0 231 15).toInt + 4 = (8 * v6.toInt + 4) by omega]; exact (congrArg Int32.toInt (((eA_sA_ne hI15392.1 ka_237 (by first | decide | omega) (by first | decide | omega) (by first | decide | omega)).trans ((eA_c (hF15393.2.1 237 (by decide))).trans ((eA_c (hF15361.2.1 237 (by decide))).trans ((eA_c (hF15322.2.1 237 (by decide))).trans ((eA_sA_ne hI15309.1 ka_237 (by first | decide | omega) (by first | decide | omega) (by first | decide | omega)).trans (eA_sA_eq hI15305.1 ka_237 (by first | rfl | omega) (by first | decide | omega) (by first | decide | omega))))))))).trans (by omega)) (by show (eA _ 237 (8 * (gI g0 231 15).toInt + 5)).toInt = v7.toInt; rw [show 8 * (gI g0 231 15).toInt + 5 = (8 * v6.toInt + 5) by omega]; exact (congrArg Int32.toInt (((eA_sA_ne hI15392.1 ka_237 (by first | decide | omega) (by first | decide | omega) (by first | decide | omega)).trans ((eA_c (hF15393.2.1 237 (by decide))).trans ((eA_c (hF15361.2.1 237 (by decide))).trans ((eA_c (hF15322.2.1 237 (by decide))).trans (eA_sA_eq hI15309.1 ka_237 (by first | rfl | omega) (by first | decide | omega) (by first | decide | omega)))))))).trans (by omega)) (by show (eA _ 237 (8 * (gI g0 231 15).toInt + 6)).toInt = (gI _ 231 17).toInt; rw [show 8 * (gI g0 231 15).toInt + 6 = (8 * v6.toInt + 6) by omega]; exact (congrArg Int32.toInt ((eA_sA_eq hI15392.1 ka_237 (by first | rfl | omega) (by first | decide | omega) (by first | decide | omega)))).trans (by omega)) (show SAME g0 _ (gI g0 231 17).toInt from (SAME.tr (SAME.tr (SAME.c hI15360 (((hF15361.2.1 238 (by decide)).trans ((hF15322.2.1 238 (by decide)).trans ((gA_sA_ne (by decide)).trans ((gA_sA_ne (by decide)).trans ((gA_sA_ne (by decide)).trans ((gA_sI).trans ((gA_sA_ne (by decide)).trans ((q15294.2.1 238 (by decide)).trans ((hF14946.2.1 238 (by decide)).trans (q13745.2.1 238 (by decide)))))))))))) (((hF15361.2.1 239 (by decide)).trans ((hF15322.2.1 239 (by decide)).trans ((gA_sA_ne (by decide)).trans ((gA_sA_ne (by decide)).trans ((gA_sA_ne (by decide)).trans ((gA_sI).trans ((gA_sA_ne (by decide)).trans ((q15294.2.1 239 (by decide)).trans ((hF14946.2.1 239 (by decide)).trans (q13745.2.1 239 (by decide))))))))))))) (EXPR.same x0) (by show _ ≤ (gI _ 231 17).toInt; omega)) (SAME.c hI15423 ((gA_sA_ne (by decide))) ((gA_sA_ne (by decide)))) (Int.le_refl _))) (WfCode.nil' (by omega) (by omega) (by omega)) (EXPR.code x0 (show SAME g15391 _ (gI g15391 231 17).toInt from (SAME.c hI15423 ((gA_sA_ne (by decide))) ((gA_sA_ne (by decide))))) (by show _ = (gI _ 231 17).toInt; omega) (by show _ = (gI _ 231 17).toInt; omega) (by show 0 ≤ (gI _ 231 17).toInt; omega))⟩)⟩⟩
            · have c15307_ : x13732.toInt < 2 := en_i_ge_f c15307
              refine At.enter rfl ?_
              refine r_aload_n e15289 ?_
              refine r_iconst 0 rfl ?_
              have x15440 := HI.eqI hI15305 (p := 231) (b := 8) ((((gI_sW).trans ((gI_sI_ne (by decide)).trans ((gI_sW).trans ((q15294.1 231 8 (by decide)).trans ((hF14946.1 231 8 (by decide)).trans (q13745.1 231 8 (by decide))))))).trans hv1))
              have x15441 := HI.eqI hI15305 (p := 231) (b := 9) ((((gI_sW).trans ((gI_sI_ne (by decide)).trans ((gI_sW).trans (q15294.1 231 9 (by decide))))).trans hv14957))
              have x15442 := HI.eqI hI15305 (p := 231) (b := 10) ((((gI_sW).trans ((gI_sI_ne (by decide)).trans ((gI_sW).trans (q15294.1 231 10 (by decide))))).trans hv14959))
              have x15443 := HI.eqI hI15305 (p := 231) (b := 11) ((((gI_sW).trans ((gI_sI_ne (by decide)).trans ((gI_sW).trans (q15294.1 231 11 (by decide))))).trans hv14961))
              obtain ⟨v15444, hv15444⟩ : ∃ v, gJ g14944 231 12 = v := ⟨_, rfl⟩
              have x15445 := HI.eqJ hI15305 (b := 12) ((((gJ_sW).trans ((gJ_sI_ne (by decide)).trans ((gJ_sW).trans (q15294.2.2 231 12 (by decide))))).trans hv15444))
              have x15446 := HI.eqI hI15305 (p := 231) (b := 14) ((((gI_sW).trans ((gI_sI_ne (by decide)).trans ((gI_sW).trans (q15294.1 231 14 (by decide))))).trans hv14963))
              have x15447 := HI.eqI hI15305 (p := 231) (b := 17) ((((gI_sW).trans ((gI_sI_ne (by decide)).trans ((gI_sW).trans ((q15294.1 231 17 (by decide)).trans ((hF14946.1 231 17 (by decide)).trans (q13745.1 231 17 (by decide))))))).trans hv7))
              obtain ⟨v15448, hv15448⟩ : ∃ v, gI g0 231 23 = v := ⟨_, rfl⟩
              have rv15448 := RgF.at hI0.2.1 (p := 231) (b := 23) rfl
              rw [hv15448] at rv15448
              dsimp only at rv15448
              have tv15448 := congrArg Int32.toInt hv15448
              have x15449 := HI.eqI hI15305 (p := 231) (b := 23) ((((gI_sW).trans ((gI_sI_ne (by decide)).trans ((gI_sW).trans ((q15294.1 231 23 (by decide)).trans ((hF14946.1 231 23 (by decide)).trans (q13745.1 231 23 (by decide))))))).trans hv15448))
              have w2615450 := W26.cong c14970 hI15305 (((gI_sW).trans ((gI_sI_ne (by decide)).trans ((gI_sW).trans (q15294.1 231 9 (by decide)))))) (((gI_sW).trans ((gI_sI_ne (by decide)).trans ((gI_sW).trans (q15294.1 231 10 (by decide)))))) (((gI_sW).trans ((gI_sI_ne (by decide)).trans ((gI_sW).trans (q15294.1 231 11 (by decide)))))) (((gJ_sW).trans ((gJ_sI_ne (by decide)).trans ((gJ_sW).trans (q15294.2.2 231 12 (by decide))))))
              have zv15451 : (0 : Int32).toInt = 0 := rfl
              refine r_callV 135 rfl [.ref 231, .int 0] [] (Nat.le_of_ble_eq_true rfl) rfl (T_X11_readExpression_231 _ hI15305 0 (by decide) (by refine ⟨?_, ?_, ?_, ?_⟩ <;> omega) (by omega) (by omega) w2615450) ?_
              rintro _ _ ⟨g15452, rfl, hI15453, hF15454, rfl, hr15456⟩
              refine At.stn ?_
              have hF15457 := Fr.tr hF15306 hF15454 rfl rfl
              have zv15458 : (0 : Int32).toInt = 0 := rfl
              have x15459 := HI.eqI hI15305 (p := 231) (b := 9) ((((gI_sW).trans ((gI_sI_ne (by decide)).trans ((gI_sW).trans (q15294.1 231 9 (by decide))))).trans hv14957))
              have x15460 := HI.eqI hI15305 (p := 231) (b := 17) ((((gI_sW).trans ((gI_sI_ne (by decide)).trans ((gI_sW).trans ((q15294.1 231 17 (by decide)).trans ((hF14946.1 231 17 (by decide)).trans (q13745.1 231 17 (by decide))))))).trans hv7))
              have x15461 := HI.eqI hI15453 (p := 231) (b := 8) ((((hF15454.1 231 8 (by decide)).trans ((gI_sW).trans ((gI_sI_ne (by decide)).trans ((gI_sW).trans ((q15294.1 231 8 (by decide)).trans ((hF14946.1 231 8 (by decide)).trans (q13745.1 231 8 (by decide)))))))).trans hv1))
              obtain ⟨v15462, hv15462⟩ : ∃ v, gI g15452 231 9 = v := ⟨_, rfl⟩
              have rv15462 := RgF.at hI15453.2.1 (p := 231) (b := 9) rfl
              rw [hv15462] at rv15462
              dsimp only at rv15462
              have tv15462 := congrArg Int32.toInt hv15462
              have x15463 := HI.eqI hI15453 (p := 231) (b := 9) (hv15462)
              obtain ⟨v15464, hv15464⟩ : ∃ v, gI g15452 231 10 = v := ⟨_, rfl⟩
              have rv15464 := RgF.at hI15453.2.1 (p := 231) (b := 10) rfl
              rw [hv15464] at rv15464
              dsimp only at rv15464
              have tv15464 := congrArg Int32.toInt hv15464
              have x15465 := HI.eqI hI15453 (p := 231) (b := 10) (hv15464)
              obtain ⟨v15466, hv15466⟩ : ∃ v, gI g15452 231 11 = v := ⟨_, rfl⟩
              have tv15466 := congrArg Int32.toInt hv15466
              have x15467 := HI.eqI hI15453 (p := 231) (b := 11) (hv15466)
              obtain ⟨v15468, hv15468⟩ : ∃ v, gJ g15452 231 12 = v := ⟨_, rfl⟩
              have x15469 := HI.eqJ hI15453 (b := 12) (hv15468)
              obtain ⟨v15470, hv15470⟩ : ∃ v, gI g15452 231 14 = v := ⟨_, rfl⟩
              have tv15470 := congrArg Int32.toInt hv15470
              have x15471 := HI.eqI hI15453 (p := 231) (b := 14) (hv15470)
              obtain ⟨v15472, hv15472⟩ : ∃ v, gI g15452 231 17 = v := ⟨_, rfl⟩
              have rv15472 := RgF.at hI15453.2.1 (p := 231) (b := 17) rfl
              rw [hv15472] at rv15472
              dsimp only at rv15472
              have tv15472 := congrArg Int32.toInt hv15472
              have x15473 := HI.eqI hI15453 (p := 231) (b := 17) (hv15472)
              obtain ⟨v15474, hv15474⟩ : ∃ v, gI g15452 231 23 = v := ⟨_, rfl⟩
              have rv15474 := RgF.at hI15453.2.1 (p := 231) (b := 23) rfl
              rw [hv15474] at rv15474
              dsimp only at rv15474
              have tv15474 := congrArg Int32.toInt hv15474
              have x15475 := HI.eqI hI15453 (p := 231) (b := 23) (hv15474)
              obtain ⟨c15476, c15477, c15478, c15479, c15480, c15481, c15482⟩ := hr15456
              refine At.enter rfl ?_
              refine r_aload_n e15289 ?_
              refine q_getR (Sh.ref hI15453.1 kx_231 rfl) ?_
              refine r_iload_n e15291 ?_
              refine r_iconst 4 rfl ?_
              refine q_iadd (v14976.toInt + 4) rfl (by omega) (fun v15483 hv15483 => ?_)
              refine r_aload_n e15289 ?_
              refine q_getI (Sh.int hI15453.1 kx_231 rfl) v15472 hv15472 ?_
              refine q_iast (Sh.arr hI15453.1 ka_237) ((8 * v6.toInt + 4)) (by omega) (by omega) ?_
              have hI15484 := HI.wA0 hI15453 ka_237 (p := 237) rfl rfl ((8 * v6.toInt + 4)) (v15472)
              have hF15485 := Fr.wA (p := 237) (j := (8 * v6.toInt + 4)) (v := v15472) hF15457 rfl
              refine r_aload_n e15289 ?_
              refine q_getR (Sh.ref hI15484.1 kx_231 rfl) ?_
              refine r_iload_n e15291 ?_
              refine r_iconst 5 rfl ?_
              refine q_iadd (v14976.toInt + 5) rfl (by omega) (fun v15486 hv15486 => ?_)
              refine r_aload_n e15289 ?_
              refine q_getI (Sh.int hI15484.1 kx_231 rfl) v15472 ((gI_sW).trans hv15472) ?_
              refine q_iast (Sh.arr hI15484.1 ka_237) ((8 * v6.toInt + 5)) (by omega) (by omega) ?_
              have hI15487 := HI.wA0 hI15484 ka_237 (p := 237) rfl rfl ((8 * v6.toInt + 5)) (v15472)
              have hF15488 := Fr.wA (p := 237) (j := (8 * v6.toInt + 5)) (v := v15472) hF15485 rfl
              refine r_aload_n e15289 ?_
              refine q_getI (Sh.int hI15487.1 kx_231 rfl) v15470 (((gI_sW).trans (gI_sW)).trans hv15470) ?_
              refine r_ifs 166 rfl (fun c15489 => ?_) (fun c15489 => ?_)
              · have c15489_ : v15470.toInt ≠ 0 := en_k_ne_t c15489
                refine At.enter rfl ?_
                refine r_aload_n e15289 ?_
                refine q_getR (Sh.ref hI15487.1 kx_231 rfl) ?_
                refine r_iload_n e15291 ?_
                refine r_bipush 6 rfl ?_
                refine q_iadd (v14976.toInt + 6) rfl (by omega) (fun v15490 hv15490 => ?_)
                refine r_aload_n e15289 ?_
                refine q_getI (Sh.int hI15487.1 kx_231 rfl) v15472 (((gI_sW).trans (gI_sW)).trans hv15472) ?_
                refine q_iast (Sh.arr hI15487.1 ka_237) ((8 * v6.toInt + 6)) (by omega) (by omega) ?_
                have hI15491 := HI.wA0 hI15487 ka_237 (p := 237) rfl rfl ((8 * v6.toInt + 6)) (v15472)
                have hF15492 := Fr.wA (p := 237) (j := (8 * v6.toInt + 6)) (v := v15472) hF15488 rfl
                refine r_vret ?_
                have x15493 := HI.eqI hI15491 (p := 231) (b := 8) ((((gI_sW).trans ((gI_sW).trans ((gI_sW).trans ((hF15454.1 231 8 (by decide)).trans ((gI_sW).trans ((gI_sI_ne (by decide)).trans ((gI_sW).trans ((q15294.1 231 8 (by decide)).trans ((hF14946.1 231 8 (by decide)).trans (q13745.1 231 8 (by decide))))))))))).trans hv1))
                have x15494 := HI.eqI hI15491 (p := 231) (b := 9) ((((gI_sW).trans ((gI_sW).trans (gI_sW))).trans hv15462))
                have x15495 := HI.eqI hI15491 (p := 231) (b := 10) ((((gI_sW).trans ((gI_sW).trans (gI_sW))).trans hv15464))
                have x15496 := HI.eqI hI15491 (p := 231) (b := 11) ((((gI_sW).trans ((gI_sW).trans (gI_sW))).trans hv15466))
                have x15497 := HI.eqI hI15491 (p := 231) (b := 14) ((((gI_sW).trans ((gI_sW).trans (gI_sW))).trans hv15470))
                have x15498 := HI.eqI hI15491 (p := 231) (b := 15) (((gI_sW).trans ((gI_sW).trans ((gI_sW).trans ((hF15454.1 231 15 (by decide)).trans ((gI_sW).trans (gI_sI_eq hI15299.1 kx_231 rfl _)))))))
                have x15499 := HI.eqI hI15491 (p := 231) (b := 17) ((((gI_sW).trans ((gI_sW).trans (gI_sW))).trans hv15472))
                have x15500 := HI.eqI hI0 (p := 231) (b := 8) (hv1)
                have x15501 := HI.eqI hI0 (p := 231) (b := 9) (hv2)
                have x15502 := HI.eqI hI0 (p := 231) (b := 10) (hv3)
                have x15503 := HI.eqI hI0 (p := 231) (b := 11) (hv4)
                have x15504 := HI.eqI hI0 (p := 231) (b := 14) (hv5)
                have x15505 := HI.eqI hI0 (p := 231) (b := 15) (hv6)
                have x15506 := HI.eqI hI0 (p := 231) (b := 17) (hv7)
                have w2615507 := W26.cong c15480 hI15491 (((gI_sW).trans ((gI_sW).trans (gI_sW)))) (((gI_sW).trans ((gI_sW).trans (gI_sW)))) (((gI_sW).trans ((gI_sW).trans (gI_sW)))) (((gJ_sW).trans ((gJ_sW).trans (gJ_sW))))
                exact ⟨_, rfl, hI15491, hF15492, rfl, ⟨by omega, by omega, by omega, by omega, w2615507, by omega, (fun hbad => by have t0 := (c15482 (by omega)).1; have x0 := (c15482 (by omega)).2; have u0 : (gI _ 231 17).toInt ≤ (gI _ 231 17).toInt := x0.1; exact ⟨by omega, CLS.step (K := (gI g0 231 15).toInt) (n1 := (gI g0 231 17).toInt) (n2 := v15472.toInt) hC ⟨by omega, by omega⟩ ⟨by omega, by omega, by omega⟩ (fun i i0 i1 => ((eA_sA_ne (i := i) hI15487.1 ka_237 (by omega) (by omega) (by omega)).trans ((eA_sA_ne (i := i) hI15484.1 ka_237 (by omega) (by omega) (by omega)).trans ((eA_sA_ne (i := i) hI15453.1 ka_237 (by omega) (by omega) (by omega)).trans ((eA_c (hF15454.2.1 237 (by decide))).trans ((eA_sA_ne (i := i) hI15302.1 ka_237 (by omega) (by omega) (by omega)).trans ((eA_c gA_sI).trans ((eA_sA_ne (i := i) hI15284.1 ka_237 (by omega) (by omega) (by omega)).trans ((q15295 i i0 (by omega)).trans ((eA_c (hF14946.2.1 237 (by decide))).trans (eA_c (q13745.2.1 237 (by decide))))))))))))) (by show (eA _ 237 (8 * (gI g0 231 15).toInt + 3)).toInt = (gI g0 231 17).toInt; rw [show 8 * (gI g0 231 15).toInt + 3 = (8 * v6.toInt + 3) by omega]; exact (congrArg Int32.toInt (((eA_sA_ne hI15487.1 ka_237 (by first | decide | omega) (by first | decide | omega) (by first | decide | omega)).trans ((eA_sA_ne hI15484.1 ka_237 (by first | decide | omega) (by first | decide | omega) (by first | decide | omega)).trans ((eA_sA_ne hI15453.1 ka_237 (by first | decide | omega) (by first | decide | omega) (by first | decide | omega)).trans ((eA_c (hF15454.2.1 237 (by decide))).trans (eA_sA_eq hI15302.1 ka_237 (by first | rfl | omega) (by first | decide | omega) (by first | decide | omega)))))))).trans (by omega)) (by show (eA _ 237 (8 * (gI g0 231 15).toInt + 4)).toInt = v15472.toInt; rw [show 8 * (gI g0 231 15).toInt + 4 = (8 * v6.toInt + 4) by omega]; exact (congrArg Int32.toInt (((eA_sA_ne hI15487.1 ka_237 (by first | decide | omega) (by first | decide | omega) (by first | decide | omega)).trans ((eA_sA_ne hI15484.1 ka_237 (by first | decide | omega) (by first | decide | omega) (by first | decide | omega)).trans (eA_sA_eq hI15453.1 ka_237 (by first | rfl | omega) (by first | decide | omega) (by first | decide | omega)))))).trans (by omega)) (by show (eA _ 237 (8 * (gI g0 231 15).toInt + 5)).toInt = v15472.toInt; rw [show 8 * (gI g0 231 15).toInt + 5 = (8 * v6.toInt + 5) by omega]; exact (congrArg Int32.toInt (((eA_sA_ne hI15487.1 ka_237 (by first | decide | omega) (by first | decide | omega) (by first | decide | omega)).trans (eA_sA_eq hI15484.1 ka_237 (by first | rfl | omega) (by first | decide | omega) (by first | decide | omega))))).trans (by omega)) (by show (eA _ 237 (8 * (gI g0 231 15).toInt + 6)).toInt = (gI _ 231 17).toInt; rw [show 8 * (gI g0 231 15).toInt + 6 = (8 * v6.toInt + 6) by omega]; exact (congrArg Int32.toInt ((eA_sA_eq hI15487.1 ka_237 (by first | rfl | omega) (by first | decide | omega) (by first | decide | omega)))).trans (by omega)) (show SAME g0 _ (gI g0 231 17).toInt from (SAME.tr (SAME.tr (SAME.c hI15305 (((gA_sA_ne (by decide)).trans ((gA_sI).trans ((gA_sA_ne (by decide)).trans ((q15294.2.1 238 (by decide)).trans ((hF14946.2.1 238 (by decide)).trans (q13745.2.1 238 (by decide)))))))) (((gA_sA_ne (by decide)).trans ((gA_sI).trans ((gA_sA_ne (by decide)).trans ((q15294.2.1 239 (by decide)).trans ((hF14946.2.1 239 (by decide)).trans (q13745.2.1 239 (by decide))))))))) (EXPR.same x0) (by show _ ≤ (gI _ 231 17).toInt; omega)) (SAME.c hI15491 (((gA_sA_ne (by decide)).trans ((gA_sA_ne (by decide)).trans (gA_sA_ne (by decide))))) (((gA_sA_ne (by decide)).trans ((gA_sA_ne (by decide)).trans (gA_sA_ne (by decide)))))) (Int.le_refl _))) (EXPR.code x0 (show SAME g15452 _ (gI g15452 231 17).toInt from (SAME.c hI15491 (((gA_sA_ne (by decide)).trans ((gA_sA_ne (by decide)).trans (gA_sA_ne (by decide))))) (((gA_sA_ne (by decide)).trans ((gA_sA_ne (by decide)).trans (gA_sA_ne (by decide))))))) (by show _ = (gI _ 231 17).toInt; omega) (by show _ = (gI _ 231 17).toInt; omega) (by show 0 ≤ (gI _ 231 17).toInt; omega)) (WfCode.nil' (by omega) (by omega) (by omega))⟩)⟩⟩
              · have c15489_ : v15470.toInt = 0 := en_k_ne_f c15489
                refine At.enter rfl ?_
                refine r_aload_n e15289 ?_
                refine r_ldc2 294 rfl ?_
                have x15508 := HI.eqI hI15487 (p := 231) (b := 11) ((((gI_sW).trans (gI_sW)).trans hv15466))
                have zv15509 : (294 : Int64).toInt = 294 := rfl
                refine r_callV 173 rfl [.ref 231, .long 294] [] (Nat.le_of_ble_eq_true rfl) rfl (T_X11_isWord_231 _ hI15487 294 (by omega)) ?_
                rintro _ _ ⟨g15510, rfl, hI15511, hF15512, v15513, rfl, hr15514⟩
                refine At.sti ?_
                have hF15515 := Fr.tr hF15488 hF15512 rfl rfl
                have zv15516 : (294 : Int64).toInt = 294 := rfl
                have x15517 := HI.eqI hI15487 (p := 231) (b := 9) ((((gI_sW).trans (gI_sW)).trans hv15462))
                have x15518 := HI.eqI hI15487 (p := 231) (b := 10) ((((gI_sW).trans (gI_sW)).trans hv15464))
                have x15519 := HI.eqI hI15487 (p := 231) (b := 11) ((((gI_sW).trans (gI_sW)).trans hv15466))
                have x15520 := HI.eqI hI15511 (p := 231) (b := 9) ((((hF15512.1 231 9 (by decide)).trans ((gI_sW).trans (gI_sW))).trans hv15462))
                have x15521 := HI.eqI hI15511 (p := 231) (b := 10) ((((hF15512.1 231 10 (by decide)).trans ((gI_sW).trans (gI_sW))).trans hv15464))
                have x15522 := HI.eqI hI15511 (p := 231) (b := 11) ((((hF15512.1 231 11 (by decide)).trans ((gI_sW).trans (gI_sW))).trans hv15466))
                obtain ⟨c15525, c15523, isw15524⟩ := hr15514
                have w2615526 := W26.cong c15480 hI15487 (((gI_sW).trans (gI_sW))) (((gI_sW).trans (gI_sW))) (((gI_sW).trans (gI_sW))) (((gJ_sW).trans (gJ_sW)))
                refine At.enter rfl ?_
                refine r_ifs 176 rfl (fun c15527 => ?_) (fun c15527 => ?_)
                · have c15527_ : v15513.toInt = 0 := en_k_eq_t c15527
                  refine At.enter rfl ?_
                  refine r_aload_n e15289 ?_
                  refine q_getR (Sh.ref hI15511.1 kx_231 rfl) ?_
                  refine r_iload_n e15291 ?_
                  refine r_bipush 6 rfl ?_
                  refine q_iadd (v14976.toInt + 6) rfl (by omega) (fun v15528 hv15528 => ?_)
                  refine r_aload_n e15289 ?_
                  refine q_getI (Sh.int hI15511.1 kx_231 rfl) v15472 (((hF15512.1 231 17 (by decide)).trans ((gI_sW).trans (gI_sW))).trans hv15472) ?_
                  refine q_iast (Sh.arr hI15511.1 ka_237) ((8 * v6.toInt + 6)) (by omega) (by omega) ?_
                  have hI15529 := HI.wA0 hI15511 ka_237 (p := 237) rfl rfl ((8 * v6.toInt + 6)) (v15472)
                  have hF15530 := Fr.wA (p := 237) (j := (8 * v6.toInt + 6)) (v := v15472) hF15515 rfl
                  refine r_vret ?_
                  have x15531 := HI.eqI hI15529 (p := 231) (b := 8) ((((gI_sW).trans ((hF15512.1 231 8 (by decide)).trans ((gI_sW).trans ((gI_sW).trans ((hF15454.1 231 8 (by decide)).trans ((gI_sW).trans ((gI_sI_ne (by decide)).trans ((gI_sW).trans ((q15294.1 231 8 (by decide)).trans ((hF14946.1 231 8 (by decide)).trans (q13745.1 231 8 (by decide)))))))))))).trans hv1))
                  have x15532 := HI.eqI hI15529 (p := 231) (b := 9) ((((gI_sW).trans ((hF15512.1 231 9 (by decide)).trans ((gI_sW).trans (gI_sW)))).trans hv15462))
                  have x15533 := HI.eqI hI15529 (p := 231) (b := 10) ((((gI_sW).trans ((hF15512.1 231 10 (by decide)).trans ((gI_sW).trans (gI_sW)))).trans hv15464))
                  have x15534 := HI.eqI hI15529 (p := 231) (b := 11) ((((gI_sW).trans ((hF15512.1 231 11 (by decide)).trans ((gI_sW).trans (gI_sW)))).trans hv15466))
                  have x15535 := HI.eqI hI15529 (p := 231) (b := 14) ((((gI_sW).trans ((hF15512.1 231 14 (by decide)).trans ((gI_sW).trans (gI_sW)))).trans hv15470))
                  have x15536 := HI.eqI hI15529 (p := 231) (b := 15) (((gI_sW).trans ((hF15512.1 231 15 (by decide)).trans ((gI_sW).trans ((gI_sW).trans ((hF15454.1 231 15 (by decide)).trans ((gI_sW).trans (gI_sI_eq hI15299.1 kx_231 rfl _))))))))
                  have x15537 := HI.eqI hI15529 (p := 231) (b := 17) ((((gI_sW).trans ((hF15512.1 231 17 (by decide)).trans ((gI_sW).trans (gI_sW)))).trans hv15472))
                  have x15538 := HI.eqI hI0 (p := 231) (b := 8) (hv1)
                  have x15539 := HI.eqI hI0 (p := 231) (b := 9) (hv2)
                  have x15540 := HI.eqI hI0 (p := 231) (b := 10) (hv3)
                  have x15541 := HI.eqI hI0 (p := 231) (b := 11) (hv4)
                  have x15542 := HI.eqI hI0 (p := 231) (b := 14) (hv5)
                  have x15543 := HI.eqI hI0 (p := 231) (b := 15) (hv6)
                  have x15544 := HI.eqI hI0 (p := 231) (b := 17) (hv7)
                  have w2615545 := W26.cong c15480 hI15529 (((gI_sW).trans ((hF15512.1 231 9 (by decide)).trans ((gI_sW).trans (gI_sW))))) (((gI_sW).trans ((hF15512.1 231 10 (by decide)).trans ((gI_sW).trans (gI_sW))))) (((gI_sW).trans ((hF15512.1 231 11 (by decide)).trans ((gI_sW).trans (gI_sW))))) (((gJ_sW).trans ((hF15512.2.2 231 12 (by decide)).trans ((gJ_sW).trans (gJ_sW)))))
                  exact ⟨_, rfl, hI15529, hF15530, rfl, ⟨by omega, by omega, by omega, by omega, w2615545, by omega, (fun hbad => by have t0 := (c15482 (by omega)).1; have x0 := (c15482 (by omega)).2; have u0 : (gI _ 231 17).toInt ≤ (gI _ 231 17).toInt := x0.1; exact ⟨by omega, CLS.step (K := (gI g0 231 15).toInt) (n1 := (gI g0 231 17).toInt) (n2 := v15472.toInt) hC ⟨by omega, by omega⟩ ⟨by omega, by omega, by omega⟩ (fun i i0 i1 => ((eA_sA_ne (i := i) hI15511.1 ka_237 (by omega) (by omega) (by omega)).trans ((eA_c (hF15512.2.1 237 (by decide))).trans ((eA_sA_ne (i := i) hI15484.1 ka_237 (by omega) (by omega) (by omega)).trans ((eA_sA_ne (i := i) hI15453.1 ka_237 (by omega) (by omega) (by omega)).trans ((eA_c (hF15454.2.1 237 (by decide))).trans ((eA_sA_ne (i := i) hI15302.1 ka_237 (by omega) (by omega) (by omega)).trans ((eA_c gA_sI).trans ((eA_sA_ne (i := i) hI15284.1 ka_237 (by omega) (by omega) (by omega)).trans ((q15295 i i0 (by omega)).trans ((eA_c (hF14946.2.1 237 (by decide))).trans (eA_c (q13745.2.1 237 (by decide)))))))))))))) (by show (eA _ 237 (8 * (gI g0 231 15).toInt + 3)).toInt = (gI g0 231 17).toInt; rw [show 8 * (gI g0 231 15).toInt + 3 = (8 * v6.toInt + 3) by omega]; exact (congrArg Int32.toInt (((eA_sA_ne hI15511.1 ka_237 (by first | decide | omega) (by first | decide | omega) (by first | decide | omega)).trans ((eA_c (hF15512.2.1 237 (by decide))).trans ((eA_sA_ne hI15484.1 ka_237 (by first | decide | omega) (by first | decide | omega) (by first | decide | omega)).trans ((eA_sA_ne hI15453.1 ka_237 (by first | decide | omega) (by first | decide | omega) (by first | decide | omega)).trans ((eA_c (hF15454.2.1 237 (by decide))).trans (eA_sA_eq hI15302.1 ka_237 (by first | rfl | omega) (by first | decide | omega) (by first | decide | omega))))))))).trans (by omega)) (by show (eA _ 237 (8 * (gI g0 231 15).toInt + 4)).toInt = v15472.toInt; rw [show 8 * (gI g0 231 15).toInt + 4 = (8 * v6.toInt + 4) by omega]; exact (congrArg Int32.toInt (((eA_sA_ne hI15511.1 ka_237 (by first | decide | omega) (by first | decide | omega) (by first | decide | omega)).trans ((eA_c (hF15512.2.1 237 (by decide))).trans ((eA_sA_ne hI15484.1 ka_237 (by first | decide | omega) (by first | decide | omega) (by first | decide | omega)).trans (eA_sA_eq hI15453.1 ka_237 (by first | rfl | omega) (by first | decide | omega) (by first | decide | omega))))))).trans (by omega)) (by show (eA _ 237 (8 * (gI g0 231 15).toInt + 5)).toInt = v15472.toInt; rw [show 8 * (gI g0 231 15).toInt + 5 = (8 * v6.toInt + 5) by omega]; exact (congrArg Int32.toInt (((eA_sA_ne hI15511.1 ka_237 (by first | decide | omega) (by first | decide | omega) (by first | decide | omega)).trans ((eA_c (hF15512.2.1 237 (by decide))).trans (eA_sA_eq hI15484.1 ka_237 (by first | rfl | omega) (by first | decide | omega) (by first | decide | omega)))))).trans (by omega)) (by show (eA _ 237 (8 * (gI g0 231 15).toInt + 6)).toInt = (gI _ 231 17).toInt; rw [show 8 * (gI g0 231 15).toInt + 6 = (8 * v6.toInt + 6) by omega]; exact (congrArg Int32.toInt ((eA_sA_eq hI15511.1 ka_237 (by first | rfl | omega) (by first | decide | omega) (by first | decide | omega)))).trans (by omega)) (show SAME g0 _ (gI g0 231 17).toInt from (SAME.tr (SAME.tr (SAME.c hI15305 (((gA_sA_ne (by decide)).trans ((gA_sI).trans ((gA_sA_ne (by decide)).trans ((q15294.2.1 238 (by decide)).trans ((hF14946.2.1 238 (by decide)).trans (q13745.2.1 238 (by decide)))))))) (((gA_sA_ne (by decide)).trans ((gA_sI).trans ((gA_sA_ne (by decide)).trans ((q15294.2.1 239 (by decide)).trans ((hF14946.2.1 239 (by decide)).trans (q13745.2.1 239 (by decide))))))))) (EXPR.same x0) (by show _ ≤ (gI _ 231 17).toInt; omega)) (SAME.c hI15529 (((gA_sA_ne (by decide)).trans ((hF15512.2.1 238 (by decide)).trans ((gA_sA_ne (by decide)).trans (gA_sA_ne (by decide)))))) (((gA_sA_ne (by decide)).trans ((hF15512.2.1 239 (by decide)).trans ((gA_sA_ne (by decide)).trans (gA_sA_ne (by decide))))))) (Int.le_refl _))) (EXPR.code x0 (show SAME g15452 _ (gI g15452 231 17).toInt from (SAME.c hI15529 (((gA_sA_ne (by decide)).trans ((hF15512.2.1 238 (by decide)).trans ((gA_sA_ne (by decide)).trans (gA_sA_ne (by decide)))))) (((gA_sA_ne (by decide)).trans ((hF15512.2.1 239 (by decide)).trans ((gA_sA_ne (by decide)).trans (gA_sA_ne (by decide)))))))) (by show _ = (gI _ 231 17).toInt; omega) (by show _ = (gI _ 231 17).toInt; omega) (by show 0 ≤ (gI _ 231 17).toInt; omega)) (WfCode.nil' (by omega) (by omega) (by omega))⟩)⟩⟩
                · have c15527_ : v15513.toInt ≠ 0 := en_k_eq_f c15527
                  have i15546 := W26.two w2615526 isw15524 (by omega) (by decide)
                  refine At.enter rfl ?_
                  refine r_aload_n e15289 ?_
                  have x15547 := HI.eqI hI15511 (p := 231) (b := 8) ((((hF15512.1 231 8 (by decide)).trans ((gI_sW).trans ((gI_sW).trans ((hF15454.1 231 8 (by decide)).trans ((gI_sW).trans ((gI_sI_ne (by decide)).trans ((gI_sW).trans ((q15294.1 231 8 (by decide)).trans ((hF14946.1 231 8 (by decide)).trans (q13745.1 231 8 (by decide))))))))))).trans hv1))
                  have x15548 := HI.eqI hI15511 (p := 231) (b := 10) ((((hF15512.1 231 10 (by decide)).trans ((gI_sW).trans (gI_sW))).trans hv15464))
                  refine r_callV 180 rfl [.ref 231] [] (Nat.le_of_ble_eq_true rfl) rfl (T_X11_next_231 _ hI15511 (by omega)) ?_
                  rintro _ _ ⟨g15549, rfl, hI15550, hF15551, rfl, hr15553⟩
                  refine At.stn ?_
                  have hF15554 := Fr.tr hF15515 hF15551 rfl rfl
                  have x15555 := HI.eqI hI15511 (p := 231) (b := 8) ((((hF15512.1 231 8 (by decide)).trans ((gI_sW).trans ((gI_sW).trans ((hF15454.1 231 8 (by decide)).trans ((gI_sW).trans ((gI_sI_ne (by decide)).trans ((gI_sW).trans ((q15294.1 231 8 (by decide)).trans ((hF14946.1 231 8 (by decide)).trans (q13745.1 231 8 (by decide))))))))))).trans hv1))
                  have x15556 := HI.eqI hI15511 (p := 231) (b := 10) ((((hF15512.1 231 10 (by decide)).trans ((gI_sW).trans (gI_sW))).trans hv15464))
                  have x15557 := HI.eqI hI15550 (p := 231) (b := 8) ((((hF15551.1 231 8 (by decide)).trans ((hF15512.1 231 8 (by decide)).trans ((gI_sW).trans ((gI_sW).trans ((hF15454.1 231 8 (by decide)).trans ((gI_sW).trans ((gI_sI_ne (by decide)).trans ((gI_sW).trans ((q15294.1 231 8 (by decide)).trans ((hF14946.1 231 8 (by decide)).trans (q13745.1 231 8 (by decide)))))))))))).trans hv1))
                  obtain ⟨v15558, hv15558⟩ : ∃ v, gI g15549 231 9 = v := ⟨_, rfl⟩
                  have rv15558 := RgF.at hI15550.2.1 (p := 231) (b := 9) rfl
                  rw [hv15558] at rv15558
                  dsimp only at rv15558
                  have tv15558 := congrArg Int32.toInt hv15558
                  have x15559 := HI.eqI hI15550 (p := 231) (b := 9) (hv15558)
                  obtain ⟨v15560, hv15560⟩ : ∃ v, gI g15549 231 10 = v := ⟨_, rfl⟩
                  have rv15560 := RgF.at hI15550.2.1 (p := 231) (b := 10) rfl
                  rw [hv15560] at rv15560
                  dsimp only at rv15560
                  have tv15560 := congrArg Int32.toInt hv15560
                  have x15561 := HI.eqI hI15550 (p := 231) (b := 10) (hv15560)
                  obtain ⟨v15562, hv15562⟩ : ∃ v, gI g15549 231 11 = v := ⟨_, rfl⟩
                  have tv15562 := congrArg Int32.toInt hv15562
                  have x15563 := HI.eqI hI15550 (p := 231) (b := 11) (hv15562)
                  obtain ⟨c15564, c15565, c15566, c15567, c15568, c15569⟩ := hr15553
                  refine At.enter rfl ?_
                  refine r_aload_n e15289 ?_
                  refine r_iconst 1 rfl ?_
                  have x15570 := HI.eqI hI15550 (p := 231) (b := 8) ((((hF15551.1 231 8 (by decide)).trans ((hF15512.1 231 8 (by decide)).trans ((gI_sW).trans ((gI_sW).trans ((hF15454.1 231 8 (by decide)).trans ((gI_sW).trans ((gI_sI_ne (by decide)).trans ((gI_sW).trans ((q15294.1 231 8 (by decide)).trans ((hF14946.1 231 8 (by decide)).trans (q13745.1 231 8 (by decide)))))))))))).trans hv1))
                  have x15571 := HI.eqI hI15550 (p := 231) (b := 9) (hv15558)
                  have x15572 := HI.eqI hI15550 (p := 231) (b := 10) (hv15560)
                  have x15573 := HI.eqI hI15550 (p := 231) (b := 11) (hv15562)
                  obtain ⟨v15574, hv15574⟩ : ∃ v, gJ g15549 231 12 = v := ⟨_, rfl⟩
                  have x15575 := HI.eqJ hI15550 (b := 12) (hv15574)
                  have x15576 := HI.eqI hI15550 (p := 231) (b := 14) ((((hF15551.1 231 14 (by decide)).trans ((hF15512.1 231 14 (by decide)).trans ((gI_sW).trans (gI_sW)))).trans hv15470))
                  have x15577 := HI.eqI hI15550 (p := 231) (b := 17) ((((hF15551.1 231 17 (by decide)).trans ((hF15512.1 231 17 (by decide)).trans ((gI_sW).trans (gI_sW)))).trans hv15472))
                  have x15578 := HI.eqI hI15550 (p := 231) (b := 23) ((((hF15551.1 231 23 (by decide)).trans ((hF15512.1 231 23 (by decide)).trans ((gI_sW).trans (gI_sW)))).trans hv15474))
                  have y15579 := (c15482 (by omega)).1
                  have zv15580 : (1 : Int32).toInt = 1 := rfl
                  refine r_callV 185 rfl [.ref 231, .int 1] [] (Nat.le_of_ble_eq_true rfl) rfl (T_X11_readExpression_231 _ hI15550 1 (by decide) (by refine ⟨?_, ?_, ?_, ?_⟩ <;> omega) (by omega) (by omega) c15569) ?_
                  rintro _ _ ⟨g15581, rfl, hI15582, hF15583, rfl, hr15585⟩
                  refine At.stn ?_
                  have hF15586 := Fr.tr hF15554 hF15583 rfl rfl
                  have zv15587 : (1 : Int32).toInt = 1 := rfl
                  have x15588 := HI.eqI hI15550 (p := 231) (b := 9) (hv15558)
                  have x15589 := HI.eqI hI15550 (p := 231) (b := 17) ((((hF15551.1 231 17 (by decide)).trans ((hF15512.1 231 17 (by decide)).trans ((gI_sW).trans (gI_sW)))).trans hv15472))
                  have x15590 := HI.eqI hI15582 (p := 231) (b := 8) ((((hF15583.1 231 8 (by decide)).trans ((hF15551.1 231 8 (by decide)).trans ((hF15512.1 231 8 (by decide)).trans ((gI_sW).trans ((gI_sW).trans ((hF15454.1 231 8 (by decide)).trans ((gI_sW).trans ((gI_sI_ne (by decide)).trans ((gI_sW).trans ((q15294.1 231 8 (by decide)).trans ((hF14946.1 231 8 (by decide)).trans (q13745.1 231 8 (by decide))))))))))))).trans hv1))
                  obtain ⟨v15591, hv15591⟩ : ∃ v, gI g15581 231 9 = v := ⟨_, rfl⟩
                  have rv15591 := RgF.at hI15582.2.1 (p := 231) (b := 9) rfl
                  rw [hv15591] at rv15591
                  dsimp only at rv15591
                  have tv15591 := congrArg Int32.toInt hv15591
                  have x15592 := HI.eqI hI15582 (p := 231) (b := 9) (hv15591)
                  obtain ⟨v15593, hv15593⟩ : ∃ v, gI g15581 231 10 = v := ⟨_, rfl⟩
                  have rv15593 := RgF.at hI15582.2.1 (p := 231) (b := 10) rfl
                  rw [hv15593] at rv15593
                  dsimp only at rv15593
                  have tv15593 := congrArg Int32.toInt hv15593
                  have x15594 := HI.eqI hI15582 (p := 231) (b := 10) (hv15593)
                  obtain ⟨v15595, hv15595⟩ : ∃ v, gI g15581 231 11 = v := ⟨_, rfl⟩
                  have tv15595 := congrArg Int32.toInt hv15595
                  have x15596 := HI.eqI hI15582 (p := 231) (b := 11) (hv15595)
                  obtain ⟨v15597, hv15597⟩ : ∃ v, gJ g15581 231 12 = v := ⟨_, rfl⟩
                  have x15598 := HI.eqJ hI15582 (b := 12) (hv15597)
                  obtain ⟨v15599, hv15599⟩ : ∃ v, gI g15581 231 14 = v := ⟨_, rfl⟩
                  have tv15599 := congrArg Int32.toInt hv15599
                  have x15600 := HI.eqI hI15582 (p := 231) (b := 14) (hv15599)
                  obtain ⟨v15601, hv15601⟩ : ∃ v, gI g15581 231 17 = v := ⟨_, rfl⟩
                  have rv15601 := RgF.at hI15582.2.1 (p := 231) (b := 17) rfl
                  rw [hv15601] at rv15601
                  dsimp only at rv15601
                  have tv15601 := congrArg Int32.toInt hv15601
                  have x15602 := HI.eqI hI15582 (p := 231) (b := 17) (hv15601)
                  obtain ⟨v15603, hv15603⟩ : ∃ v, gI g15581 231 23 = v := ⟨_, rfl⟩
                  have rv15603 := RgF.at hI15582.2.1 (p := 231) (b := 23) rfl
                  rw [hv15603] at rv15603
                  dsimp only at rv15603
                  have tv15603 := congrArg Int32.toInt hv15603
                  have x15604 := HI.eqI hI15582 (p := 231) (b := 23) (hv15603)
                  obtain ⟨c15605, c15606, c15607, c15608, c15609, c15610, c15611⟩ := hr15585
                  refine At.enter rfl ?_
                  refine r_aload_n e15289 ?_
                  refine q_getR (Sh.ref hI15582.1 kx_231 rfl) ?_
                  refine r_iload_n e15291 ?_
                  refine r_bipush 6 rfl ?_
                  refine q_iadd (v14976.toInt + 6) rfl (by omega) (fun v15612 hv15612 => ?_)
                  refine r_aload_n e15289 ?_
                  refine q_getI (Sh.int hI15582.1 kx_231 rfl) v15601 hv15601 ?_
                  refine q_iast (Sh.arr hI15582.1 ka_237) ((8 * v6.toInt + 6)) (by omega) (by omega) ?_
                  have hI15613 := HI.wA0 hI15582 ka_237 (p := 237) rfl rfl ((8 * v6.toInt + 6)) (v15601)
                  have hF15614 := Fr.wA (p := 237) (j := (8 * v6.toInt + 6)) (v := v15601) hF15586 rfl
                  refine r_vret ?_
                  have x15615 := HI.eqI hI15613 (p := 231) (b := 8) ((((gI_sW).trans ((hF15583.1 231 8 (by decide)).trans ((hF15551.1 231 8 (by decide)).trans ((hF15512.1 231 8 (by decide)).trans ((gI_sW).trans ((gI_sW).trans ((hF15454.1 231 8 (by decide)).trans ((gI_sW).trans ((gI_sI_ne (by decide)).trans ((gI_sW).trans ((q15294.1 231 8 (by decide)).trans ((hF14946.1 231 8 (by decide)).trans (q13745.1 231 8 (by decide)))))))))))))).trans hv1))
                  have x15616 := HI.eqI hI15613 (p := 231) (b := 9) (((gI_sW).trans hv15591))
                  have x15617 := HI.eqI hI15613 (p := 231) (b := 10) (((gI_sW).trans hv15593))
                  have x15618 := HI.eqI hI15613 (p := 231) (b := 11) (((gI_sW).trans hv15595))
                  have x15619 := HI.eqI hI15613 (p := 231) (b := 14) (((gI_sW).trans hv15599))
                  have x15620 := HI.eqI hI15613 (p := 231) (b := 15) (((gI_sW).trans ((hF15583.1 231 15 (by decide)).trans ((hF15551.1 231 15 (by decide)).trans ((hF15512.1 231 15 (by decide)).trans ((gI_sW).trans ((gI_sW).trans ((hF15454.1 231 15 (by decide)).trans ((gI_sW).trans (gI_sI_eq hI15299.1 kx_231 rfl _))))))))))
                  have x15621 := HI.eqI hI15613 (p := 231) (b := 17) (((gI_sW).trans hv15601))
                  have x15622 := HI.eqI hI0 (p := 231) (b := 8) (hv1)
                  have x15623 := HI.eqI hI0 (p := 231) (b := 9) (hv2)
                  have x15624 := HI.eqI hI0 (p := 231) (b := 10) (hv3)
                  have x15625 := HI.eqI hI0 (p := 231) (b := 11) (hv4)
                  have x15626 := HI.eqI hI0 (p := 231) (b := 14) (hv5)
                  have x15627 := HI.eqI hI0 (p := 231) (b := 15) (hv6)
                  have x15628 := HI.eqI hI0 (p := 231) (b := 17) (hv7)
                  have w2615629 := W26.cong c15609 hI15613 ((gI_sW)) ((gI_sW)) ((gI_sW)) ((gJ_sW))
                  exact ⟨_, rfl, hI15613, hF15614, rfl, ⟨by omega, by omega, by omega, by omega, w2615629, by omega, (fun hbad => by have t0 := (c15482 (by omega)).1; have x0 := (c15482 (by omega)).2; have u0 : (gI _ 231 17).toInt ≤ (gI _ 231 17).toInt := x0.1; have t1 := (c15611 (by omega)).1; have x1 := (c15611 (by omega)).2; have u1 : (gI _ 231 17).toInt ≤ (gI _ 231 17).toInt := x1.1; exact ⟨by omega, CLS.step (K := (gI g0 231 15).toInt) (n1 := (gI g0 231 17).toInt) (n2 := v15472.toInt) hC ⟨by omega, by omega⟩ ⟨by omega, by omega, by omega⟩ (fun i i0 i1 => ((eA_sA_ne (i := i) hI15582.1 ka_237 (by omega) (by omega) (by omega)).trans ((eA_c (hF15583.2.1 237 (by decide))).trans ((eA_c (hF15551.2.1 237 (by decide))).trans ((eA_c (hF15512.2.1 237 (by decide))).trans ((eA_sA_ne (i := i) hI15484.1 ka_237 (by omega) (by omega) (by omega)).trans ((eA_sA_ne (i := i) hI15453.1 ka_237 (by omega) (by omega) (by omega)).trans ((eA_c (hF15454.2.1 237 (by decide))).trans ((eA_sA_ne (i := i) hI15302.1 ka_237 (by omega) (by omega) (by omega)).trans ((eA_c gA_sI).trans ((eA_sA_ne (i := i) hI15284.1 ka_237 (by omega) (by omega) (by omega)).trans ((q15295 i i0 (by omega)).trans ((eA_c (hF14946.2.1 237 (by decide))).trans (eA_c (q13745.2.1 237 (by decide)))))))))))))))) (by show (eA _ 237 (8 * (gI g0 231 15).toInt + 3)).toInt = (gI g0 231 17).toInt; rw [show 8 * (gI g0 231 15).toInt + 3 = (8 * v6.toInt + 3) by omega]; exact (congrArg Int32.toInt (((eA_sA_ne hI15582.1 ka_237 (by first | decide | omega) (by first | decide | omega) (by first | decide | omega)).trans ((eA_c (hF15583.2.1 237 (by decide))).trans ((eA_c (hF15551.2.1 237 (by decide))).trans ((eA_c (hF15512.2.1 237 (by decide))).trans ((eA_sA_ne hI15484.1 ka_237 (by first | decide | omega) (by first | decide | omega) (by first | decide | omega)).trans ((eA_sA_ne hI15453.1 ka_237 (by first | decide | omega) (by first | decide | omega) (by first | decide | omega)).trans ((eA_c (hF15454.2.1 237 (by decide))).trans (eA_sA_eq hI15302.1 ka_237 (by first | rfl | omega) (by first | decide | omega) (by first | decide | omega))))))))))).trans (by omega)) (by show (eA _ 237 (8 * (gI g0 231 15).toInt + 4)).toInt = v15472.toInt; rw [show 8 * (gI g0 231 15).toInt + 4 = (8 * v6.toInt + 4) by omega]; exact (congrArg Int32.toInt (((eA_sA_ne hI15582.1 ka_237 (by first | decide | omega) (by first | decide | omega) (by first | decide | omega)).trans ((eA_c (hF15583.2.1 237 (by decide))).trans ((eA_c (hF15551.2.1 237 (by decide))).trans ((eA_c (hF15512.2.1 237 (by decide))).trans ((eA_sA_ne hI15484.1 ka_237 (by first | decide | omega) (by first | decide | omega) (by first | decide | omega)).trans (eA_sA_eq hI15453.1 ka_237 (by first | rfl | omega) (by first | decide | omega) (by first | decide | omega))))))))).trans (by omega)) (by show (eA _ 237 (8 * (gI g0 231 15).toInt + 5)).toInt = v15472.toInt; rw [show 8 * (gI g0 231 15).toInt + 5 = (8 * v6.toInt + 5) by omega]; exact (congrArg Int32.toInt (((eA_sA_ne hI15582.1 ka_237 (by first | decide | omega) (by first | decide | omega) (by first | decide | omega)).trans ((eA_c (hF15583.2.1 237 (by decide))).trans ((eA_c (hF15551.2.1 237 (by decide))).trans ((eA_c (hF15512.2.1 237 (by decide))).trans (eA_sA_eq hI15484.1 ka_237 (by first | rfl | omega) (by first | decide | omega) (by first | decide | omega)))))))).trans (by omega)) (by show (eA _ 237 (8 * (gI g0 231 15).toInt + 6)).toInt = (gI _ 231 17).toInt; rw [show 8 * (gI g0 231 15).toInt + 6 = (8 * v6.toInt + 6) by omega]; exact (congrArg Int32.toInt ((eA_sA_eq hI15582.1 ka_237 (by first | rfl | omega) (by first | decide | omega) (by first | decide | omega)))).trans (by omega)) (show SAME g0 _ (gI g0 231 17).toInt from (SAME.tr (SAME.tr (SAME.tr (SAME.tr (SAME.c hI15305 (((gA_sA_ne (by decide)).trans ((gA_sI).trans ((gA_sA_ne (by decide)).trans ((q15294.2.1 238 (by decide)).trans ((hF14946.2.1 238 (by decide)).trans (q13745.2.1 238 (by decide)))))))) (((gA_sA_ne (by decide)).trans ((gA_sI).trans ((gA_sA_ne (by decide)).trans ((q15294.2.1 239 (by decide)).trans ((hF14946.2.1 239 (by decide)).trans (q13745.2.1 239 (by decide))))))))) (EXPR.same x0) (by show _ ≤ (gI _ 231 17).toInt; omega)) (SAME.c hI15550 (((hF15551.2.1 238 (by decide)).trans ((hF15512.2.1 238 (by decide)).trans ((gA_sA_ne (by decide)).trans (gA_sA_ne (by decide)))))) (((hF15551.2.1 239 (by decide)).trans ((hF15512.2.1 239 (by decide)).trans ((gA_sA_ne (by decide)).trans (gA_sA_ne (by decide))))))) (by omega)) (EXPR.same x1) (by show _ ≤ (gI _ 231 17).toInt; omega)) (SAME.c hI15613 ((gA_sA_ne (by decide))) ((gA_sA_ne (by decide)))) (Int.le_refl _))) (EXPR.code x0 (show SAME g15452 _ (gI g15452 231 17).toInt from (SAME.tr (SAME.tr (SAME.c hI15550 (((hF15551.2.1 238 (by decide)).trans ((hF15512.2.1 238 (by decide)).trans ((gA_sA_ne (by decide)).trans (gA_sA_ne (by decide)))))) (((hF15551.2.1 239 (by decide)).trans ((hF15512.2.1 239 (by decide)).trans ((gA_sA_ne (by decide)).trans (gA_sA_ne (by decide))))))) (EXPR.same x1) (by show _ ≤ (gI _ 231 17).toInt; omega)) (SAME.c hI15613 ((gA_sA_ne (by decide))) ((gA_sA_ne (by decide)))) (Int.le_refl _))) (by show _ = (gI _ 231 17).toInt; omega) (by show _ = (gI _ 231 17).toInt; omega) (by show 0 ≤ (gI _ 231 17).toInt; omega)) (EXPR.code x1 (show SAME g15581 _ (gI g15581 231 17).toInt from (SAME.c hI15613 ((gA_sA_ne (by decide))) ((gA_sA_ne (by decide))))) (by show _ = (gI _ 231 17).toInt; omega) (by show _ = (gI _ 231 17).toInt; omega) (by show 0 ≤ (gI _ 231 17).toInt; omega))⟩)⟩⟩
          · have c15298_ : x15282.toInt < 8 := en_i_ge_f c15298
            refine At.enter rfl ?_
            refine r_aload_n e15289 ?_
            refine q_getR (Sh.ref hI15284.1 kx_231 rfl) ?_
            refine r_iload_n e15291 ?_
            refine r_iload_n e15292 ?_
            refine q_iadd (v14976.toInt + x15282.toInt) rfl (by omega) (fun v15630 hv15630 => ?_)
            refine r_iconst 0 rfl ?_
            refine q_iast (Sh.arr hI15284.1 ka_237) ((8 * v6.toInt + x15282.toInt)) (by omega) (by omega) ?_
            have hI15631 := HI.wA0 hI15284 ka_237 (p := 237) rfl rfl ((8 * v6.toInt + x15282.toInt)) (0)
            have hF15632 := Fr.wA (p := 237) (j := (8 * v6.toInt + x15282.toInt)) (v := 0) hF15285 rfl
            refine q_iinc e15292 (x15282.toInt + 1) rfl (by omega) (fun v15633 hv15633 => ?_)
            refine r_goto ?_
            exact ih15288 (8 - v15633.toInt) _ _ ⟨v15633, by first | rfl | omega, hI15631, hF15632, (w_p1 (by decide) (Or.inr rfl) e15289), (w_p1 (by decide) (Or.inr rfl) e15290), (w_p1 (by decide) (Or.inr rfl) e15291), (w_e1 _ _ _), by omega, (Fr.wA (p := 237) q15294 rfl), (fun i i0 i1 => (eA_sA_ne (i := i) hI15284.1 ka_237 (by omega) (by omega) (by omega)).trans (q15295 i i0 i1))⟩ ⟨by omega, by omega⟩
        · have c14972_ : v14963.toInt ≠ 0 := en_k_eq_f c14972
          clear c14971
          refine At.enter rfl ?_
          refine r_vret ?_
          have x15634 := HI.eqI hI14945 (p := 231) (b := 8) ((((hF14946.1 231 8 (by decide)).trans (q13745.1 231 8 (by decide))).trans hv1))
          have x15635 := HI.eqI hI14945 (p := 231) (b := 9) (hv14957)
          have x15636 := HI.eqI hI14945 (p := 231) (b := 10) (hv14959)
          have x15637 := HI.eqI hI14945 (p := 231) (b := 11) (hv14961)
          have x15638 := HI.eqI hI14945 (p := 231) (b := 14) (hv14963)
          have x15639 := HI.eqI hI14945 (p := 231) (b := 15) ((((hF14946.1 231 15 (by decide)).trans (q13745.1 231 15 (by decide))).trans hv6))
          have x15640 := HI.eqI hI14945 (p := 231) (b := 17) ((((hF14946.1 231 17 (by decide)).trans (q13745.1 231 17 (by decide))).trans hv7))
          have x15641 := HI.eqI hI0 (p := 231) (b := 8) (hv1)
          have x15642 := HI.eqI hI0 (p := 231) (b := 9) (hv2)
          have x15643 := HI.eqI hI0 (p := 231) (b := 10) (hv3)
          have x15644 := HI.eqI hI0 (p := 231) (b := 11) (hv4)
          have x15645 := HI.eqI hI0 (p := 231) (b := 14) (hv5)
          have x15646 := HI.eqI hI0 (p := 231) (b := 15) (hv6)
          have x15647 := HI.eqI hI0 (p := 231) (b := 17) (hv7)
          exact ⟨_, rfl, hI14945, hF14949, rfl, ⟨by omega, by omega, by omega, by omega, c14970, by omega, (fun hbad => False.elim (by omega))⟩⟩
  · have c13749_ : x13733.toInt < 3 := en_i_ge_f c13749
    refine At.enter rfl ?_
    refine r_aload_n e13740 ?_
    refine r_aload_n e13740 ?_
    refine q_getR (Sh.ref hI13735.1 kx_231 rfl) ?_
    refine r_iload_n e13742 ?_
    refine q_lald (Sh.lar hI13735.1 ka_243) (x13733.toInt) rfl (by omega) (fun v15648 => ?_)
    have x15649 := HI.eqI hI13735 (p := 231) (b := 11) (((q13745.1 231 11 (by decide)).trans hv4))
    refine r_callV 19 rfl [.ref 231, .long v15648] [] (Nat.le_of_ble_eq_true rfl) rfl (T_X11_isWord_231 _ hI13735 v15648 (by omega)) ?_
    rintro _ _ ⟨g15650, rfl, hI15651, hF15652, v15653, rfl, hr15654⟩
    refine At.sti ?_
    have hF15655 := Fr.tr hF13736 hF15652 rfl rfl
    have x15656 := HI.eqI hI13735 (p := 231) (b := 9) (((q13745.1 231 9 (by decide)).trans hv2))
    have x15657 := HI.eqI hI13735 (p := 231) (b := 10) (((q13745.1 231 10 (by decide)).trans hv3))
    have x15658 := HI.eqI hI13735 (p := 231) (b := 11) (((q13745.1 231 11 (by decide)).trans hv4))
    have x15659 := HI.eqI hI15651 (p := 231) (b := 9) ((((hF15652.1 231 9 (by decide)).trans (q13745.1 231 9 (by decide))).trans hv2))
    have x15660 := HI.eqI hI15651 (p := 231) (b := 10) ((((hF15652.1 231 10 (by decide)).trans (q13745.1 231 10 (by decide))).trans hv3))
    have x15661 := HI.eqI hI15651 (p := 231) (b := 11) ((((hF15652.1 231 11 (by decide)).trans (q13745.1 231 11 (by decide))).trans hv4))
    obtain ⟨c15664, c15662, isw15663⟩ := hr15654
    refine At.enter rfl ?_
    refine r_ifs 22 rfl (fun c15665 => ?_) (fun c15665 => ?_)
    · have c15665_ : v15653.toInt = 0 := en_k_eq_t c15665
      refine At.enter rfl ?_
      refine r_iload_n e13741 ?_
      refine Ar.fall 27 rfl ?_
      refine At.enter rfl ?_
      refine r_istore_n _ rfl ?_
      refine q_iinc (w_p1 (by decide) (Or.inr rfl) e13742) (x13733.toInt + 1) rfl (by omega) (fun v15666 hv15666 => ?_)
      refine r_goto ?_
      exact ih13739 (3 - v15666.toInt) _ _ ⟨x13732, v15666, by first | rfl | omega, hI15651, hF15655, (w_p1 (by decide) (Or.inr rfl) (w_p1 (by decide) (Or.inr rfl) e13740)), (w_p1 (by decide) (Or.inr rfl) (w_e1 _ _ _)), (w_e1 _ _ _), by omega, by omega, (Fr.tr q13745 hF15652 rfl rfl)⟩ ⟨by omega, by omega⟩
    · have c15665_ : v15653.toInt ≠ 0 := en_k_eq_f c15665
      refine At.enter rfl ?_
      refine r_iload_n e13742 ?_
      refine r_goto ?_
      refine At.enter rfl ?_
      refine r_istore_n _ rfl ?_
      refine q_iinc (w_p1 (by decide) (Or.inr rfl) e13742) (x13733.toInt + 1) rfl (by omega) (fun v15667 hv15667 => ?_)
      refine r_goto ?_
      exact ih13739 (3 - v15667.toInt) _ _ ⟨x13733, v15667, by first | rfl | omega, hI15651, hF15655, (w_p1 (by decide) (Or.inr rfl) (w_p1 (by decide) (Or.inr rfl) e13740)), (w_p1 (by decide) (Or.inr rfl) (w_e1 _ _ _)), (w_e1 _ _ _), by omega, by omega, (Fr.tr q13745 hF15652 rfl rfl)⟩ ⟨by omega, by omega⟩
