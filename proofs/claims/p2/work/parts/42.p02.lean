def F_X11_behindTest_231 : List (Nat × Nat) := [(231, 9), (231, 10), (231, 11), (231, 12), (231, 13), (231, 14), (231, 17), (231, 23), (231, 24)]
def A_X11_behindTest_231 : List Nat := [238, 239, 240, 241]
set_option maxRecDepth 100000 in
set_option maxHeartbeats 4000000 in
theorem T_X11_behindTest_231 (d : Nat) {N : Nat} {g0 : List en_E} (hI0 : HI g0) (b : Int) (o0 : Int → Int) (a0 : Int → Int) (h1 : ((gI g0 231 9).toInt ≤ (gI g0 231 10).toInt ∧ (gI g0 231 10).toInt ≤ (gI g0 231 8).toInt ∧ 0 ≤ (gI g0 231 11).toInt ∧ (gI g0 231 11).toInt ≤ 3 * ((gI g0 231 10).toInt - (gI g0 231 9).toInt))) (h2 : (gI g0 231 14).toInt = 0) (h3 : (gI g0 231 17).toInt + (gI g0 231 23).toInt ≤ (gI g0 231 9).toInt) (hW : W26 g0) (hP : PT g0 b 2 o0 a0) : Ev (d + 4) 207 [.ref 231] (g0, N) (fun w h' => ∃ g', h' = (g', N) ∧ HI g' ∧ Fr F_X11_behindTest_231 A_X11_behindTest_231 g0 g' ∧ ∃ r : Int32, w = some (.int r) ∧ (0 ≤ r.toInt ∧ r.toInt ≤ 4) ∧ ((gI g' 231 9).toInt ≤ (gI g' 231 10).toInt ∧ (gI g' 231 10).toInt ≤ (gI g' 231 8).toInt ∧ 0 ≤ (gI g' 231 11).toInt ∧ (gI g' 231 11).toInt ≤ 3 * ((gI g' 231 10).toInt - (gI g' 231 9).toInt) ∧ W26 g' ∧ (gI g' 231 17).toInt + (gI g' 231 23).toInt ≤ 400 ∧ (gI g0 231 9).toInt ≤ (gI g' 231 9).toInt ∧ TURN g' b r.toInt o0 a0 ∧ PRG (gI g' 231 14).toInt (gI g0 231 9).toInt (gI g' 231 9).toInt r.toInt 4)) := by
  have hF0 : Fr F_X11_behindTest_231 A_X11_behindTest_231 g0 g0 := Fr.rf
  obtain ⟨v1, hv1⟩ : ∃ v, gI g0 231 8 = v := ⟨_, rfl⟩
  have rv1 := RgF.at hI0.2.1 (p := 231) (b := 8) rfl
  rw [hv1] at rv1
  dsimp only at rv1
  have tv1 := congrArg Int32.toInt hv1
  obtain ⟨v2, hv2⟩ : ∃ v, gI g0 231 9 = v := ⟨_, rfl⟩
  have rv2 := RgF.at hI0.2.1 (p := 231) (b := 9) rfl
  rw [hv2] at rv2
  dsimp only at rv2
  have tv2 := congrArg Int32.toInt hv2
  obtain ⟨v3, hv3⟩ : ∃ v, gI g0 231 10 = v := ⟨_, rfl⟩
  have rv3 := RgF.at hI0.2.1 (p := 231) (b := 10) rfl
  rw [hv3] at rv3
  dsimp only at rv3
  have tv3 := congrArg Int32.toInt hv3
  obtain ⟨v4, hv4⟩ : ∃ v, gI g0 231 11 = v := ⟨_, rfl⟩
  have tv4 := congrArg Int32.toInt hv4
  obtain ⟨v5, hv5⟩ : ∃ v, gJ g0 231 12 = v := ⟨_, rfl⟩
  have tv5 := congrArg Int64.toInt hv5
  obtain ⟨v6, hv6⟩ : ∃ v, gI g0 231 14 = v := ⟨_, rfl⟩
  have tv6 := congrArg Int32.toInt hv6
  obtain ⟨v7, hv7⟩ : ∃ v, gI g0 231 17 = v := ⟨_, rfl⟩
  have rv7 := RgF.at hI0.2.1 (p := 231) (b := 17) rfl
  rw [hv7] at rv7
  dsimp only at rv7
  have tv7 := congrArg Int32.toInt hv7
  obtain ⟨v8, hv8⟩ : ∃ v, gI g0 231 23 = v := ⟨_, rfl⟩
  have rv8 := RgF.at hI0.2.1 (p := 231) (b := 23) rfl
  rw [hv8] at rv8
  dsimp only at rv8
  have tv8 := congrArg Int32.toInt hv8
  refine Ev.mk rfl rfl ⟨Nat.le_of_ble_eq_true rfl, Or.inr (q_rc hI0.1 kx_231 rfl)⟩ ?_
  show At _ none _ _ (0, [(0, .ref 231)], [], (_, _)) _
  refine At.enter rfl ?_
  refine r_aload_n rfl ?_
  refine r_ldc2 1476 rfl ?_
  have x609 := HI.eqI hI0 (p := 231) (b := 11) (hv4)
  have zv610 : (1476 : Int64).toInt = 1476 := rfl
  refine r_callV 7 rfl [.ref 231, .long 1476] [] (Nat.le_of_ble_eq_true rfl) rfl (T_X11_isWord_231 _ hI0 1476 (by omega)) ?_
  rintro _ _ ⟨g611, rfl, hI612, hF613, v614, rfl, hr615⟩
  refine At.sti ?_
  have hF616 := Fr.tr hF0 hF613 rfl rfl
  have zv617 : (1476 : Int64).toInt = 1476 := rfl
  have x618 := HI.eqI hI0 (p := 231) (b := 9) (hv2)
  have x619 := HI.eqI hI0 (p := 231) (b := 10) (hv3)
  have x620 := HI.eqI hI0 (p := 231) (b := 11) (hv4)
  have x621 := HI.eqI hI612 (p := 231) (b := 9) (((hF613.1 231 9 (by decide)).trans hv2))
  have x622 := HI.eqI hI612 (p := 231) (b := 10) (((hF613.1 231 10 (by decide)).trans hv3))
  have x623 := HI.eqI hI612 (p := 231) (b := 11) (((hF613.1 231 11 (by decide)).trans hv4))
  obtain ⟨c626, c624, isw625⟩ := hr615
  refine At.enter rfl ?_
  refine r_istore_n ([(1, .int v614), (0, .ref 231)]) rfl ?_
  refine r_iload_n rfl ?_
  refine r_ifs 12 rfl (fun c627 => ?_) (fun c627 => ?_)
  · have c627_ : v614.toInt ≠ 0 := en_k_ne_t c627
    have i628 := W26.two hW isw625 (by omega) (by decide)
    refine At.enter rfl ?_
    refine r_aload_n rfl ?_
    refine r_iload_n rfl ?_
    refine r_ifs 27 rfl (fun c629 => ?_) (fun c629 => ?_)
    · have c629_ : v614.toInt = 0 := en_k_eq_t c629
      exfalso; omega
    · have c629_ : v614.toInt ≠ 0 := en_k_eq_f c629
      have i630 := W26.two hW isw625 (by omega) (by decide)
      refine At.enter rfl ?_
      refine r_iconst 2 rfl ?_
      refine r_goto ?_
      refine At.enter rfl ?_
      have x631 := HI.eqI hI612 (p := 231) (b := 17) (((hF613.1 231 17 (by decide)).trans hv7))
      have x632 := HI.eqI hI612 (p := 231) (b := 23) (((hF613.1 231 23 (by decide)).trans hv8))
      have zv633 : (2 : Int32).toInt = 2 := rfl
      refine r_callV 35 rfl [.ref 231, .int 2] [] (Nat.le_of_ble_eq_true rfl) rfl (T_X11_settle_231 _ hI612 2 (by decide) (by omega)) ?_
      rintro _ _ ⟨g634, rfl, hI635, hF636, rfl, hr638⟩
      refine At.stn ?_
      have hF639 := Fr.tr hF616 hF636 rfl rfl
      have zv640 : (2 : Int32).toInt = 2 := rfl
      have x641 := HI.eqI hI612 (p := 231) (b := 17) (((hF613.1 231 17 (by decide)).trans hv7))
      have x642 := HI.eqI hI612 (p := 231) (b := 23) (((hF613.1 231 23 (by decide)).trans hv8))
      obtain ⟨v643, hv643⟩ : ∃ v, gI g634 231 17 = v := ⟨_, rfl⟩
      have rv643 := RgF.at hI635.2.1 (p := 231) (b := 17) rfl
      rw [hv643] at rv643
      dsimp only at rv643
      have tv643 := congrArg Int32.toInt hv643
      have x644 := HI.eqI hI635 (p := 231) (b := 17) (hv643)
      obtain ⟨v645, hv645⟩ : ∃ v, gI g634 231 23 = v := ⟨_, rfl⟩
      have rv645 := RgF.at hI635.2.1 (p := 231) (b := 23) rfl
      rw [hv645] at rv645
      dsimp only at rv645
      have tv645 := congrArg Int32.toInt hv645
      have x646 := HI.eqI hI635 (p := 231) (b := 23) (hv645)
      have y647 : (gI _ 231 23).toInt ≤ (gI _ 231 23).toInt := hr638.1
      have y648 : (gI _ 231 17).toInt + (gI _ 231 23).toInt ≤ (gI _ 231 17).toInt + (gI _ 231 23).toInt := hr638.2.1
      have nsq649 := NSQ.cong (hP.2.2.1 (by decide) (by decide)) hI612 ((hF613.2.1 240 (by decide))) ((hF613.1 231 23 (by decide)))
      have pg650 := PG.cong (hP.2.1 (by decide)) hI612 ((hF613.2.1 238 (by decide))) ((hF613.2.1 239 (by decide))) ((hF613.2.1 240 (by decide))) ((hF613.2.1 241 (by decide))) ((hF613.1 231 17 (by decide))) ((hF613.1 231 23 (by decide)))
      have pg651 := hr638.2.2.1 _ _ _ pg650
      have nsq652 := NSQ.le nsq649 hI635 hr638.2.2.2.2.1 hr638.1
      refine At.enter rfl ?_
      refine r_aload_n rfl ?_
      refine r_iload_n rfl ?_
      refine r_ifs 40 rfl (fun c653 => ?_) (fun c653 => ?_)
      · have c653_ : v614.toInt = 0 := en_k_eq_t c653
        exfalso; omega
      · have c653_ : v614.toInt ≠ 0 := en_k_eq_f c653
        have i654 := W26.two hW isw625 (by omega) (by decide)
        refine At.enter rfl ?_
        refine r_bipush 28 rfl ?_
        refine r_goto ?_
        refine At.enter rfl ?_
        refine r_aload_n rfl ?_
        refine q_getI (Sh.int hI635.1 kx_231 rfl) v643 hv643 ?_
        have x655 := HI.eqI hI635 (p := 231) (b := 23) (hv645)
        have zv656 : (28 : Int32).toInt = 28 := rfl
        refine r_callV 54 rfl [.ref 231, .int 28, .int v643] [] (Nat.le_of_ble_eq_true rfl) rfl (T_X11_push_231 _ hI635 28 (by decide) v643 (by omega) (by omega)) ?_
        rintro _ _ ⟨g657, rfl, hI658, hF659, rfl, hr661⟩
        refine At.stn ?_
        have hF662 := Fr.tr hF639 hF659 rfl rfl
        have zv663 : (28 : Int32).toInt = 28 := rfl
        have x664 := HI.eqI hI635 (p := 231) (b := 17) (hv643)
        have x665 := HI.eqI hI635 (p := 231) (b := 23) (hv645)
        have x666 := HI.eqI hI658 (p := 231) (b := 17) (((hF659.1 231 17 (by decide)).trans hv643))
        obtain ⟨v667, hv667⟩ : ∃ v, gI g657 231 23 = v := ⟨_, rfl⟩
        have rv667 := RgF.at hI658.2.1 (p := 231) (b := 23) rfl
        rw [hv667] at rv667
        dsimp only at rv667
        have tv667 := congrArg Int32.toInt hv667
        have x668 := HI.eqI hI658 (p := 231) (b := 23) (hv667)
        have y669 : (gI _ 231 23).toInt = (gI _ 231 23).toInt + 1 := hr661.1
        have nsq671 := NSQ.push nsq652 hr661 (by omega)
        refine At.enter rfl ?_
        refine r_aload_n rfl ?_
        refine r_iload_n rfl ?_
        refine r_ifs 59 rfl (fun c672 => ?_) (fun c672 => ?_)
        · have c672_ : v614.toInt = 0 := en_k_eq_t c672
          exfalso; omega
        · have c672_ : v614.toInt ≠ 0 := en_k_eq_f c672
          have i673 := W26.two hW isw625 (by omega) (by decide)
          refine At.enter rfl ?_
          refine r_bipush 28 rfl ?_
          refine r_goto ?_
          refine At.enter rfl ?_
          refine r_iconst 0 rfl ?_
          have x674 := HI.eqI hI658 (p := 231) (b := 17) (((hF659.1 231 17 (by decide)).trans hv643))
          have zv675 : (28 : Int32).toInt = 28 := rfl
          have zv676 : (0 : Int32).toInt = 0 := rfl
          refine r_callV 70 rfl [.ref 231, .int 28, .int 0] [] (Nat.le_of_ble_eq_true rfl) rfl (T_X11_emit_231 _ hI658 28 0 (by omega)) ?_
          rintro _ _ ⟨g677, rfl, hI678, hF679, rfl, hr681⟩
          refine At.stn ?_
          have hF682 := Fr.tr hF662 hF679 rfl rfl
          have zv683 : (28 : Int32).toInt = 28 := rfl
          have zv684 : (0 : Int32).toInt = 0 := rfl
          have x685 := HI.eqI hI658 (p := 231) (b := 17) (((hF659.1 231 17 (by decide)).trans hv643))
          have x686 := HI.eqI hI658 (p := 231) (b := 23) (hv667)
          obtain ⟨v687, hv687⟩ : ∃ v, gI g677 231 17 = v := ⟨_, rfl⟩
          have rv687 := RgF.at hI678.2.1 (p := 231) (b := 17) rfl
          rw [hv687] at rv687
          dsimp only at rv687
          have tv687 := congrArg Int32.toInt hv687
          have x688 := HI.eqI hI678 (p := 231) (b := 17) (hv687)
          have y689 : (gI _ 231 17).toInt = (gI _ 231 17).toInt + 1 := hr681.1
          have pg690 := PG.andor pg651 hr661 (hF659.2.1 238 (by decide)) (hF659.2.1 239 (by decide)) (hF659.1 231 17 (by decide)) hr681 (hF679.2.1 240 (by decide)) (hF679.2.1 241 (by decide)) (hF679.1 231 23 (by decide)) ⟨by omega, by omega⟩ (by show _ = (gI _ 231 17).toInt; omega) nsq652 (by show 0 ≤ (gI _ 231 23).toInt; omega)
          have nsq691 := NSQ.cong nsq671 hI678 ((hF679.2.1 240 (by decide))) ((hF679.1 231 23 (by decide)))
          refine At.enter rfl ?_
          refine r_aload_n rfl ?_
          have x692 := HI.eqI hI678 (p := 231) (b := 8) ((((hF679.1 231 8 (by decide)).trans ((hF659.1 231 8 (by decide)).trans ((hF636.1 231 8 (by decide)).trans (hF613.1 231 8 (by decide))))).trans hv1))
          have x693 := HI.eqI hI678 (p := 231) (b := 10) ((((hF679.1 231 10 (by decide)).trans ((hF659.1 231 10 (by decide)).trans ((hF636.1 231 10 (by decide)).trans (hF613.1 231 10 (by decide))))).trans hv3))
          refine r_callV 74 rfl [.ref 231] [] (Nat.le_of_ble_eq_true rfl) rfl (T_X11_next_231 _ hI678 (by omega)) ?_
          rintro _ _ ⟨g694, rfl, hI695, hF696, rfl, hr698⟩
          refine At.stn ?_
          have hF699 := Fr.tr hF682 hF696 rfl rfl
          have x700 := HI.eqI hI678 (p := 231) (b := 8) ((((hF679.1 231 8 (by decide)).trans ((hF659.1 231 8 (by decide)).trans ((hF636.1 231 8 (by decide)).trans (hF613.1 231 8 (by decide))))).trans hv1))
          have x701 := HI.eqI hI678 (p := 231) (b := 10) ((((hF679.1 231 10 (by decide)).trans ((hF659.1 231 10 (by decide)).trans ((hF636.1 231 10 (by decide)).trans (hF613.1 231 10 (by decide))))).trans hv3))
          have x702 := HI.eqI hI695 (p := 231) (b := 8) ((((hF696.1 231 8 (by decide)).trans ((hF679.1 231 8 (by decide)).trans ((hF659.1 231 8 (by decide)).trans ((hF636.1 231 8 (by decide)).trans (hF613.1 231 8 (by decide)))))).trans hv1))
          obtain ⟨v703, hv703⟩ : ∃ v, gI g694 231 9 = v := ⟨_, rfl⟩
          have rv703 := RgF.at hI695.2.1 (p := 231) (b := 9) rfl
          rw [hv703] at rv703
          dsimp only at rv703
          have tv703 := congrArg Int32.toInt hv703
          have x704 := HI.eqI hI695 (p := 231) (b := 9) (hv703)
          obtain ⟨v705, hv705⟩ : ∃ v, gI g694 231 10 = v := ⟨_, rfl⟩
          have rv705 := RgF.at hI695.2.1 (p := 231) (b := 10) rfl
          rw [hv705] at rv705
          dsimp only at rv705
          have tv705 := congrArg Int32.toInt hv705
          have x706 := HI.eqI hI695 (p := 231) (b := 10) (hv705)
          obtain ⟨v707, hv707⟩ : ∃ v, gI g694 231 11 = v := ⟨_, rfl⟩
          have tv707 := congrArg Int32.toInt hv707
          have x708 := HI.eqI hI695 (p := 231) (b := 11) (hv707)
          obtain ⟨c709, c710, c711, c712, c713, c714⟩ := hr698
          refine At.enter rfl ?_
          refine r_iconst 0 rfl ?_
          refine r_ireti ?_
          have x715 := HI.eqI hI695 (p := 231) (b := 8) ((((hF696.1 231 8 (by decide)).trans ((hF679.1 231 8 (by decide)).trans ((hF659.1 231 8 (by decide)).trans ((hF636.1 231 8 (by decide)).trans (hF613.1 231 8 (by decide)))))).trans hv1))
          have x716 := HI.eqI hI695 (p := 231) (b := 9) (hv703)
          have x717 := HI.eqI hI695 (p := 231) (b := 10) (hv705)
          have x718 := HI.eqI hI695 (p := 231) (b := 11) (hv707)
          obtain ⟨v719, hv719⟩ : ∃ v, gJ g694 231 12 = v := ⟨_, rfl⟩
          have x720 := HI.eqJ hI695 (b := 12) (hv719)
          have x721 := HI.eqI hI695 (p := 231) (b := 14) ((((hF696.1 231 14 (by decide)).trans ((hF679.1 231 14 (by decide)).trans ((hF659.1 231 14 (by decide)).trans ((hF636.1 231 14 (by decide)).trans (hF613.1 231 14 (by decide)))))).trans hv6))
          have x722 := HI.eqI hI695 (p := 231) (b := 17) (((hF696.1 231 17 (by decide)).trans hv687))
          have x723 := HI.eqI hI695 (p := 231) (b := 23) ((((hF696.1 231 23 (by decide)).trans (hF679.1 231 23 (by decide))).trans hv667))
          have x724 := HI.eqI hI0 (p := 231) (b := 9) (hv2)
          have zv725 : (0 : Int32).toInt = 0 := rfl
          have pg726 := PG.cong pg690 hI695 ((hF696.2.1 238 (by decide))) ((hF696.2.1 239 (by decide))) ((hF696.2.1 240 (by decide))) ((hF696.2.1 241 (by decide))) ((hF696.1 231 17 (by decide))) ((hF696.1 231 23 (by decide)))
          have nsq727 := NSQ.cong nsq691 hI695 ((hF696.2.1 240 (by decide))) ((hF696.1 231 23 (by decide)))
          exact ⟨_, rfl, hI695, hF699, _, rfl, by decide, ⟨by omega, by omega, by omega, by omega, c714, by omega, by omega, (fun hbad => ⟨by omega, (PT.mk (fun _ => pg726) (fun h => False.elim (by omega)) (fun _ _ => nsq727) (fun h => False.elim (by omega)))⟩), (fun hbad => by omega)⟩⟩
  · have c627_ : v614.toInt = 0 := en_k_ne_f c627
    refine At.enter rfl ?_
    refine r_aload_n rfl ?_
    refine r_ldc2 498 rfl ?_
    have x728 := HI.eqI hI612 (p := 231) (b := 11) (((hF613.1 231 11 (by decide)).trans hv4))
    have zv729 : (498 : Int64).toInt = 498 := rfl
    refine r_callV 19 rfl [.ref 231, .long 498] [] (Nat.le_of_ble_eq_true rfl) rfl (T_X11_isWord_231 _ hI612 498 (by omega)) ?_
    rintro _ _ ⟨g730, rfl, hI731, hF732, v733, rfl, hr734⟩
    refine At.sti ?_
    have hF735 := Fr.tr hF616 hF732 rfl rfl
    have zv736 : (498 : Int64).toInt = 498 := rfl
    have x737 := HI.eqI hI612 (p := 231) (b := 9) (((hF613.1 231 9 (by decide)).trans hv2))
    have x738 := HI.eqI hI612 (p := 231) (b := 10) (((hF613.1 231 10 (by decide)).trans hv3))
    have x739 := HI.eqI hI612 (p := 231) (b := 11) (((hF613.1 231 11 (by decide)).trans hv4))
    have x740 := HI.eqI hI731 (p := 231) (b := 9) ((((hF732.1 231 9 (by decide)).trans (hF613.1 231 9 (by decide))).trans hv2))
    have x741 := HI.eqI hI731 (p := 231) (b := 10) ((((hF732.1 231 10 (by decide)).trans (hF613.1 231 10 (by decide))).trans hv3))
    have x742 := HI.eqI hI731 (p := 231) (b := 11) ((((hF732.1 231 11 (by decide)).trans (hF613.1 231 11 (by decide))).trans hv4))
    obtain ⟨c745, c743, isw744⟩ := hr734
    have w26746 := W26.cong hW hI612 ((hF613.1 231 9 (by decide))) ((hF613.1 231 10 (by decide))) ((hF613.1 231 11 (by decide))) ((hF613.2.2 231 12 (by decide)))
    refine At.enter rfl ?_
    refine r_ifs 22 rfl (fun c747 => ?_) (fun c747 => ?_)
    · have c747_ : v733.toInt = 0 := en_k_eq_t c747
      refine At.enter rfl ?_
      refine r_aload_n rfl ?_
      refine r_callV 80 rfl [.ref 231] [] (Nat.le_of_ble_eq_true rfl) rfl (T_X11_inner_231 _ hI731) ?_
      rintro _ _ ⟨g748, rfl, hI749, hF750, v751, rfl, hr752⟩
      refine At.sti ?_
      have hF753 := Fr.tr hF735 hF750 rfl rfl
      have inn754 := INN.cong hr752.2 hI749 (hF750.2.1 240 (by decide)) (hF750.1 231 23 (by decide))
      refine At.enter rfl ?_
      refine r_iconst (-1) rfl ?_
      refine r_ics 84 rfl (fun c755 => ?_) (fun c755 => ?_)
      · have c755_ : v751.toInt ≠ (-1) := en_i_ne_t c755
        refine At.enter rfl ?_
        refine r_aload_n rfl ?_
        refine r_aload_n rfl ?_
        refine r_bipush 41 rfl ?_
        have x756 := HI.eqI hI749 (p := 231) (b := 11) ((((hF750.1 231 11 (by decide)).trans ((hF732.1 231 11 (by decide)).trans (hF613.1 231 11 (by decide)))).trans hv4))
        have zv757 : (41 : Int32).toInt = 41 := rfl
        refine r_callV 93 rfl [.ref 231, .int 41] [.ref 231] (Nat.le_of_ble_eq_true rfl) rfl (T_X11_isSign_231 _ hI749 41 (by omega)) ?_
        rintro _ _ ⟨g758, rfl, hI759, hF760, v761, rfl, hr762⟩
        refine At.sti ?_
        have hF763 := Fr.tr hF753 hF760 rfl rfl
        have zv764 : (41 : Int32).toInt = 41 := rfl
        have x765 := HI.eqI hI749 (p := 231) (b := 11) ((((hF750.1 231 11 (by decide)).trans ((hF732.1 231 11 (by decide)).trans (hF613.1 231 11 (by decide)))).trans hv4))
        have x766 := HI.eqI hI759 (p := 231) (b := 11) ((((hF760.1 231 11 (by decide)).trans ((hF750.1 231 11 (by decide)).trans ((hF732.1 231 11 (by decide)).trans (hF613.1 231 11 (by decide))))).trans hv4))
        refine At.enter rfl ?_
        have x767 := HI.eqI hI759 (p := 231) (b := 8) ((((hF760.1 231 8 (by decide)).trans ((hF750.1 231 8 (by decide)).trans ((hF732.1 231 8 (by decide)).trans (hF613.1 231 8 (by decide))))).trans hv1))
        have x768 := HI.eqI hI759 (p := 231) (b := 9) ((((hF760.1 231 9 (by decide)).trans ((hF750.1 231 9 (by decide)).trans ((hF732.1 231 9 (by decide)).trans (hF613.1 231 9 (by decide))))).trans hv2))
        have x769 := HI.eqI hI759 (p := 231) (b := 10) ((((hF760.1 231 10 (by decide)).trans ((hF750.1 231 10 (by decide)).trans ((hF732.1 231 10 (by decide)).trans (hF613.1 231 10 (by decide))))).trans hv3))
        have x770 := HI.eqI hI759 (p := 231) (b := 11) ((((hF760.1 231 11 (by decide)).trans ((hF750.1 231 11 (by decide)).trans ((hF732.1 231 11 (by decide)).trans (hF613.1 231 11 (by decide))))).trans hv4))
        have w26771 := W26.cong hW hI759 (((hF760.1 231 9 (by decide)).trans ((hF750.1 231 9 (by decide)).trans ((hF732.1 231 9 (by decide)).trans (hF613.1 231 9 (by decide)))))) (((hF760.1 231 10 (by decide)).trans ((hF750.1 231 10 (by decide)).trans ((hF732.1 231 10 (by decide)).trans (hF613.1 231 10 (by decide)))))) (((hF760.1 231 11 (by decide)).trans ((hF750.1 231 11 (by decide)).trans ((hF732.1 231 11 (by decide)).trans (hF613.1 231 11 (by decide)))))) (((hF760.2.2 231 12 (by decide)).trans ((hF750.2.2 231 12 (by decide)).trans ((hF732.2.2 231 12 (by decide)).trans (hF613.2.2 231 12 (by decide))))))
        refine r_callV 96 rfl [.ref 231, .int v761] [] (Nat.le_of_ble_eq_true rfl) rfl (T_X11_must_231 _ hI759 v761 (by omega) (by refine ⟨?_, ?_, ?_, ?_⟩ <;> omega) w26771) ?_
        rintro _ _ ⟨g772, rfl, hI773, hF774, rfl, hr776⟩
        refine At.stn ?_
        have hF777 := Fr.tr hF763 hF774 rfl rfl
        have x778 := HI.eqI hI759 (p := 231) (b := 8) ((((hF760.1 231 8 (by decide)).trans ((hF750.1 231 8 (by decide)).trans ((hF732.1 231 8 (by decide)).trans (hF613.1 231 8 (by decide))))).trans hv1))
        have x779 := HI.eqI hI759 (p := 231) (b := 9) ((((hF760.1 231 9 (by decide)).trans ((hF750.1 231 9 (by decide)).trans ((hF732.1 231 9 (by decide)).trans (hF613.1 231 9 (by decide))))).trans hv2))
        have x780 := HI.eqI hI759 (p := 231) (b := 10) ((((hF760.1 231 10 (by decide)).trans ((hF750.1 231 10 (by decide)).trans ((hF732.1 231 10 (by decide)).trans (hF613.1 231 10 (by decide))))).trans hv3))
        have x781 := HI.eqI hI759 (p := 231) (b := 11) ((((hF760.1 231 11 (by decide)).trans ((hF750.1 231 11 (by decide)).trans ((hF732.1 231 11 (by decide)).trans (hF613.1 231 11 (by decide))))).trans hv4))
        have x782 := HI.eqI hI759 (p := 231) (b := 14) ((((hF760.1 231 14 (by decide)).trans ((hF750.1 231 14 (by decide)).trans ((hF732.1 231 14 (by decide)).trans (hF613.1 231 14 (by decide))))).trans hv6))
        have x783 := HI.eqI hI773 (p := 231) (b := 8) ((((hF774.1 231 8 (by decide)).trans ((hF760.1 231 8 (by decide)).trans ((hF750.1 231 8 (by decide)).trans ((hF732.1 231 8 (by decide)).trans (hF613.1 231 8 (by decide)))))).trans hv1))
        obtain ⟨v784, hv784⟩ : ∃ v, gI g772 231 9 = v := ⟨_, rfl⟩
        have rv784 := RgF.at hI773.2.1 (p := 231) (b := 9) rfl
        rw [hv784] at rv784
        dsimp only at rv784
        have tv784 := congrArg Int32.toInt hv784
        have x785 := HI.eqI hI773 (p := 231) (b := 9) (hv784)
        obtain ⟨v786, hv786⟩ : ∃ v, gI g772 231 10 = v := ⟨_, rfl⟩
        have rv786 := RgF.at hI773.2.1 (p := 231) (b := 10) rfl
        rw [hv786] at rv786
        dsimp only at rv786
        have tv786 := congrArg Int32.toInt hv786
        have x787 := HI.eqI hI773 (p := 231) (b := 10) (hv786)
        obtain ⟨v788, hv788⟩ : ∃ v, gI g772 231 11 = v := ⟨_, rfl⟩
        have tv788 := congrArg Int32.toInt hv788
        have x789 := HI.eqI hI773 (p := 231) (b := 11) (hv788)
        obtain ⟨v790, hv790⟩ : ∃ v, gI g772 231 14 = v := ⟨_, rfl⟩
        have tv790 := congrArg Int32.toInt hv790
        have x791 := HI.eqI hI773 (p := 231) (b := 14) (hv790)
        obtain ⟨c792, c793, c794, c795, c796, c797, c798⟩ := hr776
        refine At.enter rfl ?_
        refine r_aload_n rfl ?_
        refine q_getI (Sh.int hI773.1 kx_231 rfl) v790 hv790 ?_
        refine r_ifs 103 rfl (fun c799 => ?_) (fun c799 => ?_)
        · have c799_ : v790.toInt ≠ 0 := en_k_ne_t c799
          clear c798
          refine At.enter rfl ?_
          refine r_iconst 2 rfl ?_
          refine r_ireti ?_
          have x800 := HI.eqI hI773 (p := 231) (b := 8) ((((hF774.1 231 8 (by decide)).trans ((hF760.1 231 8 (by decide)).trans ((hF750.1 231 8 (by decide)).trans ((hF732.1 231 8 (by decide)).trans (hF613.1 231 8 (by decide)))))).trans hv1))
          have x801 := HI.eqI hI773 (p := 231) (b := 9) (hv784)
          have x802 := HI.eqI hI773 (p := 231) (b := 10) (hv786)
          have x803 := HI.eqI hI773 (p := 231) (b := 11) (hv788)
          obtain ⟨v804, hv804⟩ : ∃ v, gJ g772 231 12 = v := ⟨_, rfl⟩
          have x805 := HI.eqJ hI773 (b := 12) (hv804)
          have x806 := HI.eqI hI773 (p := 231) (b := 14) (hv790)
          have x807 := HI.eqI hI773 (p := 231) (b := 17) ((((hF774.1 231 17 (by decide)).trans ((hF760.1 231 17 (by decide)).trans ((hF750.1 231 17 (by decide)).trans ((hF732.1 231 17 (by decide)).trans (hF613.1 231 17 (by decide)))))).trans hv7))
          have x808 := HI.eqI hI773 (p := 231) (b := 23) ((((hF774.1 231 23 (by decide)).trans ((hF760.1 231 23 (by decide)).trans ((hF750.1 231 23 (by decide)).trans ((hF732.1 231 23 (by decide)).trans (hF613.1 231 23 (by decide)))))).trans hv8))
          have x809 := HI.eqI hI0 (p := 231) (b := 9) (hv2)
          have zv810 : (2 : Int32).toInt = 2 := rfl
          have pg811 := PG.cong (hP.2.1 (by decide)) hI773 (((hF774.2.1 238 (by decide)).trans ((hF760.2.1 238 (by decide)).trans ((hF750.2.1 238 (by decide)).trans ((hF732.2.1 238 (by decide)).trans (hF613.2.1 238 (by decide))))))) (((hF774.2.1 239 (by decide)).trans ((hF760.2.1 239 (by decide)).trans ((hF750.2.1 239 (by decide)).trans ((hF732.2.1 239 (by decide)).trans (hF613.2.1 239 (by decide))))))) (((hF774.2.1 240 (by decide)).trans ((hF760.2.1 240 (by decide)).trans ((hF750.2.1 240 (by decide)).trans ((hF732.2.1 240 (by decide)).trans (hF613.2.1 240 (by decide))))))) (((hF774.2.1 241 (by decide)).trans ((hF760.2.1 241 (by decide)).trans ((hF750.2.1 241 (by decide)).trans ((hF732.2.1 241 (by decide)).trans (hF613.2.1 241 (by decide))))))) (((hF774.1 231 17 (by decide)).trans ((hF760.1 231 17 (by decide)).trans ((hF750.1 231 17 (by decide)).trans ((hF732.1 231 17 (by decide)).trans (hF613.1 231 17 (by decide))))))) (((hF774.1 231 23 (by decide)).trans ((hF760.1 231 23 (by decide)).trans ((hF750.1 231 23 (by decide)).trans ((hF732.1 231 23 (by decide)).trans (hF613.1 231 23 (by decide)))))))
          have nsq812 := NSQ.cong (hP.2.2.1 (by decide) (by decide)) hI773 (((hF774.2.1 240 (by decide)).trans ((hF760.2.1 240 (by decide)).trans ((hF750.2.1 240 (by decide)).trans ((hF732.2.1 240 (by decide)).trans (hF613.2.1 240 (by decide))))))) (((hF774.1 231 23 (by decide)).trans ((hF760.1 231 23 (by decide)).trans ((hF750.1 231 23 (by decide)).trans ((hF732.1 231 23 (by decide)).trans (hF613.1 231 23 (by decide)))))))
          exact ⟨_, rfl, hI773, hF777, _, rfl, by decide, ⟨by omega, by omega, by omega, by omega, c797, by omega, by omega, (fun hbad => ⟨by omega, (PT.mk (fun h => False.elim (by omega)) (fun _ => pg811) (fun _ _ => nsq812) (fun h => False.elim (by omega)))⟩), (fun hbad => by omega)⟩⟩
        · have c799_ : v790.toInt = 0 := en_k_ne_f c799
          obtain ⟨i813, i814, i815⟩ := c798 (by omega)
          refine At.enter rfl ?_
          refine r_aload_n rfl ?_
          refine r_iconst 1 rfl ?_
          have x816 := HI.eqI hI773 (p := 231) (b := 17) ((((hF774.1 231 17 (by decide)).trans ((hF760.1 231 17 (by decide)).trans ((hF750.1 231 17 (by decide)).trans ((hF732.1 231 17 (by decide)).trans (hF613.1 231 17 (by decide)))))).trans hv7))
          have x817 := HI.eqI hI773 (p := 231) (b := 23) ((((hF774.1 231 23 (by decide)).trans ((hF760.1 231 23 (by decide)).trans ((hF750.1 231 23 (by decide)).trans ((hF732.1 231 23 (by decide)).trans (hF613.1 231 23 (by decide)))))).trans hv8))
          have zv818 : (1 : Int32).toInt = 1 := rfl
          refine r_callV 108 rfl [.ref 231, .int 1] [] (Nat.le_of_ble_eq_true rfl) rfl (T_X11_settle_231 _ hI773 1 (by decide) (by omega)) ?_
          rintro _ _ ⟨g819, rfl, hI820, hF821, rfl, hr823⟩
          refine At.stn ?_
          have hF824 := Fr.tr hF777 hF821 rfl rfl
          have zv825 : (1 : Int32).toInt = 1 := rfl
          have x826 := HI.eqI hI773 (p := 231) (b := 17) ((((hF774.1 231 17 (by decide)).trans ((hF760.1 231 17 (by decide)).trans ((hF750.1 231 17 (by decide)).trans ((hF732.1 231 17 (by decide)).trans (hF613.1 231 17 (by decide)))))).trans hv7))
          have x827 := HI.eqI hI773 (p := 231) (b := 23) ((((hF774.1 231 23 (by decide)).trans ((hF760.1 231 23 (by decide)).trans ((hF750.1 231 23 (by decide)).trans ((hF732.1 231 23 (by decide)).trans (hF613.1 231 23 (by decide)))))).trans hv8))
          obtain ⟨v828, hv828⟩ : ∃ v, gI g819 231 17 = v := ⟨_, rfl⟩
          have rv828 := RgF.at hI820.2.1 (p := 231) (b := 17) rfl
          rw [hv828] at rv828
          dsimp only at rv828
          have tv828 := congrArg Int32.toInt hv828
          have x829 := HI.eqI hI820 (p := 231) (b := 17) (hv828)
          obtain ⟨v830, hv830⟩ : ∃ v, gI g819 231 23 = v := ⟨_, rfl⟩
          have rv830 := RgF.at hI820.2.1 (p := 231) (b := 23) rfl
          rw [hv830] at rv830
          dsimp only at rv830
          have tv830 := congrArg Int32.toInt hv830
          have x831 := HI.eqI hI820 (p := 231) (b := 23) (hv830)
          have y832 : (gI _ 231 23).toInt ≤ (gI _ 231 23).toInt := hr823.1
          have y833 : (gI _ 231 17).toInt + (gI _ 231 23).toInt ≤ (gI _ 231 17).toInt + (gI _ 231 23).toInt := hr823.2.1
          have nsq834 := NSQ.cong (hP.2.2.1 (by decide) (by decide)) hI773 (((hF774.2.1 240 (by decide)).trans ((hF760.2.1 240 (by decide)).trans ((hF750.2.1 240 (by decide)).trans ((hF732.2.1 240 (by decide)).trans (hF613.2.1 240 (by decide))))))) (((hF774.1 231 23 (by decide)).trans ((hF760.1 231 23 (by decide)).trans ((hF750.1 231 23 (by decide)).trans ((hF732.1 231 23 (by decide)).trans (hF613.1 231 23 (by decide)))))))
          have pg835 := PG.cong (hP.2.1 (by decide)) hI773 (((hF774.2.1 238 (by decide)).trans ((hF760.2.1 238 (by decide)).trans ((hF750.2.1 238 (by decide)).trans ((hF732.2.1 238 (by decide)).trans (hF613.2.1 238 (by decide))))))) (((hF774.2.1 239 (by decide)).trans ((hF760.2.1 239 (by decide)).trans ((hF750.2.1 239 (by decide)).trans ((hF732.2.1 239 (by decide)).trans (hF613.2.1 239 (by decide))))))) (((hF774.2.1 240 (by decide)).trans ((hF760.2.1 240 (by decide)).trans ((hF750.2.1 240 (by decide)).trans ((hF732.2.1 240 (by decide)).trans (hF613.2.1 240 (by decide))))))) (((hF774.2.1 241 (by decide)).trans ((hF760.2.1 241 (by decide)).trans ((hF750.2.1 241 (by decide)).trans ((hF732.2.1 241 (by decide)).trans (hF613.2.1 241 (by decide))))))) (((hF774.1 231 17 (by decide)).trans ((hF760.1 231 17 (by decide)).trans ((hF750.1 231 17 (by decide)).trans ((hF732.1 231 17 (by decide)).trans (hF613.1 231 17 (by decide))))))) (((hF774.1 231 23 (by decide)).trans ((hF760.1 231 23 (by decide)).trans ((hF750.1 231 23 (by decide)).trans ((hF732.1 231 23 (by decide)).trans (hF613.1 231 23 (by decide)))))))
          have inn837 := INN.cong inn754 hI773 (((hF774.2.1 240 (by decide)).trans (hF760.2.1 240 (by decide)))) (((hF774.1 231 23 (by decide)).trans (hF760.1 231 23 (by decide))))
          have top838 := SETP.close1 hr823 (by omega) inn837 (by omega)
          have y839 : 1 ≤ (gI _ 231 23).toInt := top838.1
          have pg836 := hr823.2.2.1 _ _ _ pg835
          have nsq840 := NSQ.le nsq834 hI820 hr823.2.2.2.2.1 hr823.1
          refine At.enter rfl ?_
          refine r_aload_n rfl ?_
          refine r_dup rfl ?_
          refine q_getI (Sh.int hI820.1 kx_231 rfl) v830 hv830 ?_
          refine r_iconst 1 rfl ?_
          refine q_isub (v830.toInt - 1) rfl (by omega) (fun v841 hv841 => ?_)
          refine q_putI (Sh.int hI820.1 kx_231 rfl) rfl ?_
          have hI842 := HI.wI1 hI820 kx_231 rfl (p := 231) (b := 23) (v := v841) rfl (by dsimp only; omega)
          have hF843 := Fr.wI (p := 231) (b := 23) (v := v841) hF824 rfl
          refine r_aload_n rfl ?_
          refine r_dup rfl ?_
          obtain ⟨v844, hv844⟩ : ∃ v, gI g0 231 24 = v := ⟨_, rfl⟩
          refine q_getI (Sh.int hI842.1 kx_231 rfl) v844 (((gI_sI_ne (by decide)).trans ((hF821.1 231 24 (by decide)).trans ((hF774.1 231 24 (by decide)).trans ((hF760.1 231 24 (by decide)).trans ((hF750.1 231 24 (by decide)).trans ((hF732.1 231 24 (by decide)).trans (hF613.1 231 24 (by decide)))))))).trans hv844) ?_
          refine r_iconst 1 rfl ?_
          refine q_isubO (fun v845 _ => ?_)
          refine q_putI (Sh.int hI842.1 kx_231 rfl) rfl ?_
          have hI846 := HI.wI0 hI842 kx_231 rfl (p := 231) (b := 24) (v := v845) rfl
          have hF847 := Fr.wI (p := 231) (b := 24) (v := v845) hF843 rfl
          refine Ar.fall 128 rfl ?_
          refine At.enter rfl ?_
          refine r_iconst 2 rfl ?_
          refine r_ireti ?_
          have x848 := HI.eqI hI846 (p := 231) (b := 8) ((((gI_sI_ne (by decide)).trans ((gI_sI_ne (by decide)).trans ((hF821.1 231 8 (by decide)).trans ((hF774.1 231 8 (by decide)).trans ((hF760.1 231 8 (by decide)).trans ((hF750.1 231 8 (by decide)).trans ((hF732.1 231 8 (by decide)).trans (hF613.1 231 8 (by decide))))))))).trans hv1))
          have x849 := HI.eqI hI846 (p := 231) (b := 9) ((((gI_sI_ne (by decide)).trans ((gI_sI_ne (by decide)).trans (hF821.1 231 9 (by decide)))).trans hv784))
          have x850 := HI.eqI hI846 (p := 231) (b := 10) ((((gI_sI_ne (by decide)).trans ((gI_sI_ne (by decide)).trans (hF821.1 231 10 (by decide)))).trans hv786))
          have x851 := HI.eqI hI846 (p := 231) (b := 11) ((((gI_sI_ne (by decide)).trans ((gI_sI_ne (by decide)).trans (hF821.1 231 11 (by decide)))).trans hv788))
          obtain ⟨v852, hv852⟩ : ∃ v, gJ g772 231 12 = v := ⟨_, rfl⟩
          have x853 := HI.eqJ hI846 (b := 12) ((((gJ_sI_ne (by decide)).trans ((gJ_sI_ne (by decide)).trans (hF821.2.2 231 12 (by decide)))).trans hv852))
          have x854 := HI.eqI hI846 (p := 231) (b := 14) ((((gI_sI_ne (by decide)).trans ((gI_sI_ne (by decide)).trans (hF821.1 231 14 (by decide)))).trans hv790))
          have x855 := HI.eqI hI846 (p := 231) (b := 17) ((((gI_sI_ne (by decide)).trans (gI_sI_ne (by decide))).trans hv828))
          have x856 := HI.eqI hI846 (p := 231) (b := 23) (((gI_sI_ne (by decide)).trans (gI_sI_eq hI820.1 kx_231 rfl _)))
          have x857 := HI.eqI hI0 (p := 231) (b := 9) (hv2)
          have zv858 : (2 : Int32).toInt = 2 := rfl
          have x860 := HI.eqI hI846 (p := 231) (b := 23) (((gI_sI_ne (by decide)).trans (gI_sI_eq hI820.1 kx_231 rfl _)))
          have pg859 := PG.popB pg836 hI846 (((gA_sI).trans (gA_sI))) (((gA_sI).trans (gA_sI))) (((gA_sI).trans (gA_sI))) (((gA_sI).trans (gA_sI))) (((gI_sI_ne (by decide)).trans (gI_sI_ne (by decide)))) (by show (gI _ 231 23).toInt = (gI _ 231 23).toInt - 1; omega) top838.1 top838.2
          have x862 := HI.eqI hI846 (p := 231) (b := 23) (((gI_sI_ne (by decide)).trans (gI_sI_eq hI820.1 kx_231 rfl _)))
          have nsq861 := NSQ.le nsq840 hI846 (((gA_sI).trans (gA_sI))) (by show (gI _ 231 23).toInt ≤ (gI _ 231 23).toInt; omega)
          have w26863 := W26.cong c797 hI846 (((gI_sI_ne (by decide)).trans ((gI_sI_ne (by decide)).trans (hF821.1 231 9 (by decide))))) (((gI_sI_ne (by decide)).trans ((gI_sI_ne (by decide)).trans (hF821.1 231 10 (by decide))))) (((gI_sI_ne (by decide)).trans ((gI_sI_ne (by decide)).trans (hF821.1 231 11 (by decide))))) (((gJ_sI_ne (by decide)).trans ((gJ_sI_ne (by decide)).trans (hF821.2.2 231 12 (by decide)))))
          exact ⟨_, rfl, hI846, hF847, _, rfl, by decide, ⟨by omega, by omega, by omega, by omega, w26863, by omega, by omega, (fun hbad => ⟨by omega, (PT.mk (fun h => False.elim (by omega)) (fun _ => pg859) (fun _ _ => nsq861) (fun h => False.elim (by omega)))⟩), (fun hbad => by omega)⟩⟩
      · have c755_ : v751.toInt = (-1) := en_i_ne_f c755
        refine At.enter rfl ?_
        refine r_iconst 4 rfl ?_
        refine r_ireti ?_
        have x864 := HI.eqI hI749 (p := 231) (b := 8) ((((hF750.1 231 8 (by decide)).trans ((hF732.1 231 8 (by decide)).trans (hF613.1 231 8 (by decide)))).trans hv1))
        have x865 := HI.eqI hI749 (p := 231) (b := 9) ((((hF750.1 231 9 (by decide)).trans ((hF732.1 231 9 (by decide)).trans (hF613.1 231 9 (by decide)))).trans hv2))
        have x866 := HI.eqI hI749 (p := 231) (b := 10) ((((hF750.1 231 10 (by decide)).trans ((hF732.1 231 10 (by decide)).trans (hF613.1 231 10 (by decide)))).trans hv3))
        have x867 := HI.eqI hI749 (p := 231) (b := 11) ((((hF750.1 231 11 (by decide)).trans ((hF732.1 231 11 (by decide)).trans (hF613.1 231 11 (by decide)))).trans hv4))
        have x868 := HI.eqJ hI749 (b := 12) ((((hF750.2.2 231 12 (by decide)).trans ((hF732.2.2 231 12 (by decide)).trans (hF613.2.2 231 12 (by decide)))).trans hv5))
        have x869 := HI.eqI hI749 (p := 231) (b := 14) ((((hF750.1 231 14 (by decide)).trans ((hF732.1 231 14 (by decide)).trans (hF613.1 231 14 (by decide)))).trans hv6))
        have x870 := HI.eqI hI749 (p := 231) (b := 17) ((((hF750.1 231 17 (by decide)).trans ((hF732.1 231 17 (by decide)).trans (hF613.1 231 17 (by decide)))).trans hv7))
        have x871 := HI.eqI hI749 (p := 231) (b := 23) ((((hF750.1 231 23 (by decide)).trans ((hF732.1 231 23 (by decide)).trans (hF613.1 231 23 (by decide)))).trans hv8))
        have x872 := HI.eqI hI0 (p := 231) (b := 9) (hv2)
        have zv873 : (4 : Int32).toInt = 4 := rfl
        have pg874 := PG.cong (hP.2.1 (by decide)) hI749 (((hF750.2.1 238 (by decide)).trans ((hF732.2.1 238 (by decide)).trans (hF613.2.1 238 (by decide))))) (((hF750.2.1 239 (by decide)).trans ((hF732.2.1 239 (by decide)).trans (hF613.2.1 239 (by decide))))) (((hF750.2.1 240 (by decide)).trans ((hF732.2.1 240 (by decide)).trans (hF613.2.1 240 (by decide))))) (((hF750.2.1 241 (by decide)).trans ((hF732.2.1 241 (by decide)).trans (hF613.2.1 241 (by decide))))) (((hF750.1 231 17 (by decide)).trans ((hF732.1 231 17 (by decide)).trans (hF613.1 231 17 (by decide))))) (((hF750.1 231 23 (by decide)).trans ((hF732.1 231 23 (by decide)).trans (hF613.1 231 23 (by decide)))))
        have nsq875 := NSQ.cong (hP.2.2.1 (by decide) (by decide)) hI749 (((hF750.2.1 240 (by decide)).trans ((hF732.2.1 240 (by decide)).trans (hF613.2.1 240 (by decide))))) (((hF750.1 231 23 (by decide)).trans ((hF732.1 231 23 (by decide)).trans (hF613.1 231 23 (by decide)))))
        have w26876 := W26.cong hW hI749 (((hF750.1 231 9 (by decide)).trans ((hF732.1 231 9 (by decide)).trans (hF613.1 231 9 (by decide))))) (((hF750.1 231 10 (by decide)).trans ((hF732.1 231 10 (by decide)).trans (hF613.1 231 10 (by decide))))) (((hF750.1 231 11 (by decide)).trans ((hF732.1 231 11 (by decide)).trans (hF613.1 231 11 (by decide))))) (((hF750.2.2 231 12 (by decide)).trans ((hF732.2.2 231 12 (by decide)).trans (hF613.2.2 231 12 (by decide)))))
        exact ⟨_, rfl, hI749, hF753, _, rfl, by decide, ⟨by omega, by omega, by omega, by omega, w26876, by omega, by omega, (fun hbad => ⟨by omega, (PT.mk (fun h => False.elim (by omega)) (fun _ => pg874) (fun _ _ => nsq875) (fun _ => INN.nbr (INN.eq inn754 (by omega))))⟩), (fun hbad => by omega)⟩⟩
    · have c747_ : v733.toInt ≠ 0 := en_k_eq_f c747
      have i877 := W26.two w26746 isw744 (by omega) (by decide)
      refine At.enter rfl ?_
      refine r_aload_n rfl ?_
      refine r_iload_n rfl ?_
      refine r_ifs 27 rfl (fun c878 => ?_) (fun c878 => ?_)
      · have c878_ : v614.toInt = 0 := en_k_eq_t c878
        refine At.enter rfl ?_
        refine r_iconst 1 rfl ?_
        refine Ar.fall 32 rfl ?_
        refine At.enter rfl ?_
        have x879 := HI.eqI hI731 (p := 231) (b := 17) ((((hF732.1 231 17 (by decide)).trans (hF613.1 231 17 (by decide))).trans hv7))
        have x880 := HI.eqI hI731 (p := 231) (b := 23) ((((hF732.1 231 23 (by decide)).trans (hF613.1 231 23 (by decide))).trans hv8))
        have zv881 : (1 : Int32).toInt = 1 := rfl
        refine r_callV 35 rfl [.ref 231, .int 1] [] (Nat.le_of_ble_eq_true rfl) rfl (T_X11_settle_231 _ hI731 1 (by decide) (by omega)) ?_
        rintro _ _ ⟨g882, rfl, hI883, hF884, rfl, hr886⟩
        refine At.stn ?_
        have hF887 := Fr.tr hF735 hF884 rfl rfl
        have zv888 : (1 : Int32).toInt = 1 := rfl
        have x889 := HI.eqI hI731 (p := 231) (b := 17) ((((hF732.1 231 17 (by decide)).trans (hF613.1 231 17 (by decide))).trans hv7))
        have x890 := HI.eqI hI731 (p := 231) (b := 23) ((((hF732.1 231 23 (by decide)).trans (hF613.1 231 23 (by decide))).trans hv8))
        obtain ⟨v891, hv891⟩ : ∃ v, gI g882 231 17 = v := ⟨_, rfl⟩
        have rv891 := RgF.at hI883.2.1 (p := 231) (b := 17) rfl
        rw [hv891] at rv891
        dsimp only at rv891
        have tv891 := congrArg Int32.toInt hv891
        have x892 := HI.eqI hI883 (p := 231) (b := 17) (hv891)
        obtain ⟨v893, hv893⟩ : ∃ v, gI g882 231 23 = v := ⟨_, rfl⟩
        have rv893 := RgF.at hI883.2.1 (p := 231) (b := 23) rfl
        rw [hv893] at rv893
        dsimp only at rv893
        have tv893 := congrArg Int32.toInt hv893
        have x894 := HI.eqI hI883 (p := 231) (b := 23) (hv893)
        have y895 : (gI _ 231 23).toInt ≤ (gI _ 231 23).toInt := hr886.1
        have y896 : (gI _ 231 17).toInt + (gI _ 231 23).toInt ≤ (gI _ 231 17).toInt + (gI _ 231 23).toInt := hr886.2.1
        have nsq897 := NSQ.cong (hP.2.2.1 (by decide) (by decide)) hI731 (((hF732.2.1 240 (by decide)).trans (hF613.2.1 240 (by decide)))) (((hF732.1 231 23 (by decide)).trans (hF613.1 231 23 (by decide))))
        have pg898 := PG.cong (hP.2.1 (by decide)) hI731 (((hF732.2.1 238 (by decide)).trans (hF613.2.1 238 (by decide)))) (((hF732.2.1 239 (by decide)).trans (hF613.2.1 239 (by decide)))) (((hF732.2.1 240 (by decide)).trans (hF613.2.1 240 (by decide)))) (((hF732.2.1 241 (by decide)).trans (hF613.2.1 241 (by decide)))) (((hF732.1 231 17 (by decide)).trans (hF613.1 231 17 (by decide)))) (((hF732.1 231 23 (by decide)).trans (hF613.1 231 23 (by decide))))
        have pg899 := hr886.2.2.1 _ _ _ pg898
        have nsq900 := NSQ.le nsq897 hI883 hr886.2.2.2.2.1 hr886.1
        refine At.enter rfl ?_
        refine r_aload_n rfl ?_
        refine r_iload_n rfl ?_
        refine r_ifs 40 rfl (fun c901 => ?_) (fun c901 => ?_)
        · have c901_ : v614.toInt = 0 := en_k_eq_t c901
          refine At.enter rfl ?_
          refine r_bipush 29 rfl ?_
          refine Ar.fall 47 rfl ?_
          refine At.enter rfl ?_
          refine r_aload_n rfl ?_
          refine q_getI (Sh.int hI883.1 kx_231 rfl) v891 hv891 ?_
          have x902 := HI.eqI hI883 (p := 231) (b := 23) (hv893)
          have zv903 : (29 : Int32).toInt = 29 := rfl
          refine r_callV 54 rfl [.ref 231, .int 29, .int v891] [] (Nat.le_of_ble_eq_true rfl) rfl (T_X11_push_231 _ hI883 29 (by decide) v891 (by omega) (by omega)) ?_
          rintro _ _ ⟨g904, rfl, hI905, hF906, rfl, hr908⟩
          refine At.stn ?_
          have hF909 := Fr.tr hF887 hF906 rfl rfl
          have zv910 : (29 : Int32).toInt = 29 := rfl
          have x911 := HI.eqI hI883 (p := 231) (b := 17) (hv891)
          have x912 := HI.eqI hI883 (p := 231) (b := 23) (hv893)
          have x913 := HI.eqI hI905 (p := 231) (b := 17) (((hF906.1 231 17 (by decide)).trans hv891))
          obtain ⟨v914, hv914⟩ : ∃ v, gI g904 231 23 = v := ⟨_, rfl⟩
          have rv914 := RgF.at hI905.2.1 (p := 231) (b := 23) rfl
          rw [hv914] at rv914
          dsimp only at rv914
          have tv914 := congrArg Int32.toInt hv914
          have x915 := HI.eqI hI905 (p := 231) (b := 23) (hv914)
          have y916 : (gI _ 231 23).toInt = (gI _ 231 23).toInt + 1 := hr908.1
          have nsq918 := NSQ.push nsq900 hr908 (by omega)
          refine At.enter rfl ?_
          refine r_aload_n rfl ?_
          refine r_iload_n rfl ?_
          refine r_ifs 59 rfl (fun c919 => ?_) (fun c919 => ?_)
          · have c919_ : v614.toInt = 0 := en_k_eq_t c919
            refine At.enter rfl ?_
            refine r_bipush 29 rfl ?_
            refine Ar.fall 66 rfl ?_
            refine At.enter rfl ?_
            refine r_iconst 0 rfl ?_
            have x920 := HI.eqI hI905 (p := 231) (b := 17) (((hF906.1 231 17 (by decide)).trans hv891))
            have zv921 : (29 : Int32).toInt = 29 := rfl
            have zv922 : (0 : Int32).toInt = 0 := rfl
            refine r_callV 70 rfl [.ref 231, .int 29, .int 0] [] (Nat.le_of_ble_eq_true rfl) rfl (T_X11_emit_231 _ hI905 29 0 (by omega)) ?_
            rintro _ _ ⟨g923, rfl, hI924, hF925, rfl, hr927⟩
            refine At.stn ?_
            have hF928 := Fr.tr hF909 hF925 rfl rfl
            have zv929 : (29 : Int32).toInt = 29 := rfl
            have zv930 : (0 : Int32).toInt = 0 := rfl
            have x931 := HI.eqI hI905 (p := 231) (b := 17) (((hF906.1 231 17 (by decide)).trans hv891))
            have x932 := HI.eqI hI905 (p := 231) (b := 23) (hv914)
            obtain ⟨v933, hv933⟩ : ∃ v, gI g923 231 17 = v := ⟨_, rfl⟩
            have rv933 := RgF.at hI924.2.1 (p := 231) (b := 17) rfl
            rw [hv933] at rv933
            dsimp only at rv933
            have tv933 := congrArg Int32.toInt hv933
            have x934 := HI.eqI hI924 (p := 231) (b := 17) (hv933)
            have y935 : (gI _ 231 17).toInt = (gI _ 231 17).toInt + 1 := hr927.1
            have pg936 := PG.andor pg899 hr908 (hF906.2.1 238 (by decide)) (hF906.2.1 239 (by decide)) (hF906.1 231 17 (by decide)) hr927 (hF925.2.1 240 (by decide)) (hF925.2.1 241 (by decide)) (hF925.1 231 23 (by decide)) ⟨by omega, by omega⟩ (by show _ = (gI _ 231 17).toInt; omega) nsq900 (by show 0 ≤ (gI _ 231 23).toInt; omega)
            have nsq937 := NSQ.cong nsq918 hI924 ((hF925.2.1 240 (by decide))) ((hF925.1 231 23 (by decide)))
            refine At.enter rfl ?_
            refine r_aload_n rfl ?_
            have x938 := HI.eqI hI924 (p := 231) (b := 8) ((((hF925.1 231 8 (by decide)).trans ((hF906.1 231 8 (by decide)).trans ((hF884.1 231 8 (by decide)).trans ((hF732.1 231 8 (by decide)).trans (hF613.1 231 8 (by decide)))))).trans hv1))
            have x939 := HI.eqI hI924 (p := 231) (b := 10) ((((hF925.1 231 10 (by decide)).trans ((hF906.1 231 10 (by decide)).trans ((hF884.1 231 10 (by decide)).trans ((hF732.1 231 10 (by decide)).trans (hF613.1 231 10 (by decide)))))).trans hv3))
            refine r_callV 74 rfl [.ref 231] [] (Nat.le_of_ble_eq_true rfl) rfl (T_X11_next_231 _ hI924 (by omega)) ?_
            rintro _ _ ⟨g940, rfl, hI941, hF942, rfl, hr944⟩
            refine At.stn ?_
            have hF945 := Fr.tr hF928 hF942 rfl rfl
            have x946 := HI.eqI hI924 (p := 231) (b := 8) ((((hF925.1 231 8 (by decide)).trans ((hF906.1 231 8 (by decide)).trans ((hF884.1 231 8 (by decide)).trans ((hF732.1 231 8 (by decide)).trans (hF613.1 231 8 (by decide)))))).trans hv1))
            have x947 := HI.eqI hI924 (p := 231) (b := 10) ((((hF925.1 231 10 (by decide)).trans ((hF906.1 231 10 (by decide)).trans ((hF884.1 231 10 (by decide)).trans ((hF732.1 231 10 (by decide)).trans (hF613.1 231 10 (by decide)))))).trans hv3))
            have x948 := HI.eqI hI941 (p := 231) (b := 8) ((((hF942.1 231 8 (by decide)).trans ((hF925.1 231 8 (by decide)).trans ((hF906.1 231 8 (by decide)).trans ((hF884.1 231 8 (by decide)).trans ((hF732.1 231 8 (by decide)).trans (hF613.1 231 8 (by decide))))))).trans hv1))
            obtain ⟨v949, hv949⟩ : ∃ v, gI g940 231 9 = v := ⟨_, rfl⟩
            have rv949 := RgF.at hI941.2.1 (p := 231) (b := 9) rfl
            rw [hv949] at rv949
            dsimp only at rv949
            have tv949 := congrArg Int32.toInt hv949
            have x950 := HI.eqI hI941 (p := 231) (b := 9) (hv949)
            obtain ⟨v951, hv951⟩ : ∃ v, gI g940 231 10 = v := ⟨_, rfl⟩
            have rv951 := RgF.at hI941.2.1 (p := 231) (b := 10) rfl
            rw [hv951] at rv951
            dsimp only at rv951
            have tv951 := congrArg Int32.toInt hv951
            have x952 := HI.eqI hI941 (p := 231) (b := 10) (hv951)
            obtain ⟨v953, hv953⟩ : ∃ v, gI g940 231 11 = v := ⟨_, rfl⟩
            have tv953 := congrArg Int32.toInt hv953
            have x954 := HI.eqI hI941 (p := 231) (b := 11) (hv953)
            obtain ⟨c955, c956, c957, c958, c959, c960⟩ := hr944
            refine At.enter rfl ?_
            refine r_iconst 0 rfl ?_
            refine r_ireti ?_
            have x961 := HI.eqI hI941 (p := 231) (b := 8) ((((hF942.1 231 8 (by decide)).trans ((hF925.1 231 8 (by decide)).trans ((hF906.1 231 8 (by decide)).trans ((hF884.1 231 8 (by decide)).trans ((hF732.1 231 8 (by decide)).trans (hF613.1 231 8 (by decide))))))).trans hv1))
            have x962 := HI.eqI hI941 (p := 231) (b := 9) (hv949)
            have x963 := HI.eqI hI941 (p := 231) (b := 10) (hv951)
            have x964 := HI.eqI hI941 (p := 231) (b := 11) (hv953)
            obtain ⟨v965, hv965⟩ : ∃ v, gJ g940 231 12 = v := ⟨_, rfl⟩
            have x966 := HI.eqJ hI941 (b := 12) (hv965)
            have x967 := HI.eqI hI941 (p := 231) (b := 14) ((((hF942.1 231 14 (by decide)).trans ((hF925.1 231 14 (by decide)).trans ((hF906.1 231 14 (by decide)).trans ((hF884.1 231 14 (by decide)).trans ((hF732.1 231 14 (by decide)).trans (hF613.1 231 14 (by decide))))))).trans hv6))
            have x968 := HI.eqI hI941 (p := 231) (b := 17) (((hF942.1 231 17 (by decide)).trans hv933))
            have x969 := HI.eqI hI941 (p := 231) (b := 23) ((((hF942.1 231 23 (by decide)).trans (hF925.1 231 23 (by decide))).trans hv914))
            have x970 := HI.eqI hI0 (p := 231) (b := 9) (hv2)
            have zv971 : (0 : Int32).toInt = 0 := rfl
            have pg972 := PG.cong pg936 hI941 ((hF942.2.1 238 (by decide))) ((hF942.2.1 239 (by decide))) ((hF942.2.1 240 (by decide))) ((hF942.2.1 241 (by decide))) ((hF942.1 231 17 (by decide))) ((hF942.1 231 23 (by decide)))
            have nsq973 := NSQ.cong nsq937 hI941 ((hF942.2.1 240 (by decide))) ((hF942.1 231 23 (by decide)))
            exact ⟨_, rfl, hI941, hF945, _, rfl, by decide, ⟨by omega, by omega, by omega, by omega, c960, by omega, by omega, (fun hbad => ⟨by omega, (PT.mk (fun _ => pg972) (fun h => False.elim (by omega)) (fun _ _ => nsq973) (fun h => False.elim (by omega)))⟩), (fun hbad => by omega)⟩⟩
          · have c919_ : v614.toInt ≠ 0 := en_k_eq_f c919
            have i974 := W26.two hW isw625 (by omega) (by decide)
            exfalso; omega
        · have c901_ : v614.toInt ≠ 0 := en_k_eq_f c901
          have i975 := W26.two hW isw625 (by omega) (by decide)
          exfalso; omega
      · have c878_ : v614.toInt ≠ 0 := en_k_eq_f c878
        have i976 := W26.two hW isw625 (by omega) (by decide)
        exfalso; omega

def F_X11_readExpression_231 : List (Nat × Nat) := [(231, 9), (231, 10), (231, 11), (231, 12), (231, 13), (231, 14), (231, 17), (231, 20), (231, 23), (231, 24)]
def A_X11_readExpression_231 : List Nat := [238, 239, 240, 241]
set_option maxRecDepth 100000 in
set_option maxHeartbeats 4000000 in
theorem T_X11_readExpression_231 (d : Nat) {N : Nat} {g0 : List en_E} (hI0 : HI g0) (a1 : Int32) (h_a1 : 0 ≤ a1.toInt ∧ a1.toInt ≤ 1) (h1 : ((gI g0 231 9).toInt ≤ (gI g0 231 10).toInt ∧ (gI g0 231 10).toInt ≤ (gI g0 231 8).toInt ∧ 0 ≤ (gI g0 231 11).toInt ∧ (gI g0 231 11).toInt ≤ 3 * ((gI g0 231 10).toInt - (gI g0 231 9).toInt))) (h2 : (gI g0 231 14).toInt = 0) (h3 : (gI g0 231 17).toInt ≤ (gI g0 231 9).toInt) (hW : W26 g0) : Ev (d + 7) 208 [.ref 231, .int a1] (g0, N) (fun w h' => ∃ g', h' = (g', N) ∧ HI g' ∧ Fr F_X11_readExpression_231 A_X11_readExpression_231 g0 g' ∧ w = none ∧ ((gI g' 231 9).toInt ≤ (gI g' 231 10).toInt ∧ (gI g' 231 10).toInt ≤ (gI g' 231 8).toInt ∧ 0 ≤ (gI g' 231 11).toInt ∧ (gI g' 231 11).toInt ≤ 3 * ((gI g' 231 10).toInt - (gI g' 231 9).toInt) ∧ W26 g' ∧ (gI g0 231 9).toInt ≤ (gI g' 231 9).toInt ∧ XPR g0 g')) := by
  have hF0 : Fr F_X11_readExpression_231 A_X11_readExpression_231 g0 g0 := Fr.rf
  obtain ⟨v1, hv1⟩ : ∃ v, gI g0 231 8 = v := ⟨_, rfl⟩
  have rv1 := RgF.at hI0.2.1 (p := 231) (b := 8) rfl
  rw [hv1] at rv1
  dsimp only at rv1
  have tv1 := congrArg Int32.toInt hv1
  obtain ⟨v2, hv2⟩ : ∃ v, gI g0 231 9 = v := ⟨_, rfl⟩
  have rv2 := RgF.at hI0.2.1 (p := 231) (b := 9) rfl
  rw [hv2] at rv2
  dsimp only at rv2
  have tv2 := congrArg Int32.toInt hv2
  obtain ⟨v3, hv3⟩ : ∃ v, gI g0 231 10 = v := ⟨_, rfl⟩
  have rv3 := RgF.at hI0.2.1 (p := 231) (b := 10) rfl
  rw [hv3] at rv3
  dsimp only at rv3
  have tv3 := congrArg Int32.toInt hv3
  obtain ⟨v4, hv4⟩ : ∃ v, gI g0 231 11 = v := ⟨_, rfl⟩
  have tv4 := congrArg Int32.toInt hv4
  obtain ⟨v5, hv5⟩ : ∃ v, gJ g0 231 12 = v := ⟨_, rfl⟩
  have tv5 := congrArg Int64.toInt hv5
  obtain ⟨v6, hv6⟩ : ∃ v, gI g0 231 14 = v := ⟨_, rfl⟩
  have tv6 := congrArg Int32.toInt hv6
  obtain ⟨v7, hv7⟩ : ∃ v, gI g0 231 17 = v := ⟨_, rfl⟩
  have rv7 := RgF.at hI0.2.1 (p := 231) (b := 17) rfl
  rw [hv7] at rv7
  dsimp only at rv7
  have tv7 := congrArg Int32.toInt hv7
  obtain ⟨v8, hv8⟩ : ∃ v, gI g0 231 23 = v := ⟨_, rfl⟩
  have rv8 := RgF.at hI0.2.1 (p := 231) (b := 23) rfl
  rw [hv8] at rv8
  dsimp only at rv8
  have tv8 := congrArg Int32.toInt hv8
  refine Ev.mk rfl rfl ⟨Nat.le_of_ble_eq_true rfl, Or.inr (q_rc hI0.1 kx_231 rfl)⟩ ?_
  show At _ none _ _ (0, [(0, .ref 231), (1, .int a1)], [], (_, _)) _
  refine At.enter rfl ?_
  refine r_aload_n rfl ?_
  refine r_iconst 0 rfl ?_
  refine q_putI (Sh.int hI0.1 kx_231 rfl) rfl ?_
  have hI3811 := HI.wI1 hI0 kx_231 rfl (p := 231) (b := 23) (v := 0) rfl (by decide)
  have hF3812 := Fr.wI (p := 231) (b := 23) (v := 0) hF0 rfl
  refine r_aload_n rfl ?_
  refine r_iconst 0 rfl ?_
  refine q_putI (Sh.int hI3811.1 kx_231 rfl) rfl ?_
  have hI3813 := HI.wI0 hI3811 kx_231 rfl (p := 231) (b := 24) (v := 0) rfl
  have hF3814 := Fr.wI (p := 231) (b := 24) (v := 0) hF3812 rfl
  refine r_iload_n rfl ?_
  refine r_ifs 14 rfl (fun c3815 => ?_) (fun c3815 => ?_)
  · have c3815_ : a1.toInt = 0 := en_k_eq_t c3815
    refine At.enter rfl ?_
    refine r_iconst 1 rfl ?_
    refine Ar.fall 19 rfl ?_
    refine At.enter rfl ?_
    refine r_istore_n ([(2, .int 1), (0, .ref 231), (1, .int a1)]) rfl ?_
    refine Ar.fall 20 rfl ?_
    have z_4515 : (1 : Int32).toInt = 1 := rfl
    have x4516 := HI.eqI hI3813 (p := 231) (b := 8) ((((gI_sI_ne (by decide)).trans (gI_sI_ne (by decide))).trans hv1))
    have x4517 := HI.eqI hI3813 (p := 231) (b := 9) ((((gI_sI_ne (by decide)).trans (gI_sI_ne (by decide))).trans hv2))
    have x4518 := HI.eqI hI3813 (p := 231) (b := 10) ((((gI_sI_ne (by decide)).trans (gI_sI_ne (by decide))).trans hv3))
    have x4519 := HI.eqI hI3813 (p := 231) (b := 11) ((((gI_sI_ne (by decide)).trans (gI_sI_ne (by decide))).trans hv4))
    have x4520 := HI.eqJ hI3813 (b := 12) ((((gJ_sI_ne (by decide)).trans (gJ_sI_ne (by decide))).trans hv5))
    have x4521 := HI.eqI hI3813 (p := 231) (b := 14) ((((gI_sI_ne (by decide)).trans (gI_sI_ne (by decide))).trans hv6))
    have x4522 := HI.eqI hI3813 (p := 231) (b := 17) ((((gI_sI_ne (by decide)).trans (gI_sI_ne (by decide))).trans hv7))
    have x4523 := HI.eqI hI3813 (p := 231) (b := 23) (((gI_sI_ne (by decide)).trans (gI_sI_eq hI0.1 kx_231 rfl _)))
    have zv4524 : (0 : Int32).toInt = 0 := rfl
    refine w_loopI (fun n_ l_ g_ => ∃ x4491 : Int32, ∃ x4492 : Int32, ∃ x4493 : Int32, n_ = 5 * (400 - x4492.toInt) + tw (x4491.toInt) + 10 * bw (x4493.toInt) ∧ HI g_ ∧ Fr F_X11_readExpression_231 A_X11_readExpression_231 g0 g_ ∧ gI g_ 231 9 = x4492 ∧ gI g_ 231 14 = x4493 ∧ en_get 0 l_ = some (.ref 231) ∧ en_get 1 l_ = some (.int a1) ∧ en_get 2 l_ = some (.int x4491) ∧ (0 ≤ x4491.toInt ∧ x4491.toInt ≤ 4) ∧ (0 ≤ x4492.toInt ∧ x4492.toInt ≤ 400) ∧ ((gI g_ 231 9).toInt ≤ (gI g_ 231 10).toInt) ∧ ((gI g_ 231 10).toInt ≤ (gI g_ 231 8).toInt) ∧ (0 ≤ (gI g_ 231 11).toInt) ∧ ((gI g_ 231 11).toInt ≤ 3 * ((gI g_ 231 10).toInt - (gI g_ 231 9).toInt)) ∧ ((gI g_ 231 17).toInt + (gI g_ 231 23).toInt ≤ 400) ∧ ((gI g0 231 9).toInt ≤ (gI g_ 231 9).toInt) ∧ (W26 g_) ∧ (TURN g_ (gI g0 231 17).toInt x4491.toInt (pE g0 238) (pE g0 239))) ?_ (5 * (400 - v2.toInt) + tw (1) + 10 * bw (v6.toInt)) ⟨1, v2, v6, by first | rfl | omega, hI3813, hF3814, (((gI_sI_ne (by decide)).trans (gI_sI_ne (by decide))).trans hv2), (((gI_sI_ne (by decide)).trans (gI_sI_ne (by decide))).trans hv6), rfl, rfl, rfl, by decide, by omega, by omega, by omega, by omega, by omega, by omega, by omega, (W26.cong hW hI3813 (((gI_sI_ne (by decide)).trans (gI_sI_ne (by decide)))) (((gI_sI_ne (by decide)).trans (gI_sI_ne (by decide)))) (((gI_sI_ne (by decide)).trans (gI_sI_ne (by decide)))) (((gJ_sI_ne (by decide)).trans (gJ_sI_ne (by decide))))), (fun _ => ⟨by omega, PT.start hI3813 (((gA_sI).trans (gA_sI))) (((gA_sI).trans (gA_sI))) (((gI_sI_ne (by decide)).trans (gI_sI_ne (by decide)))) (by show (gI _ 231 23).toInt = 0; omega) (by show 0 ≤ (gI _ 231 17).toInt; omega) (by omega)⟩)⟩
    rintro n4498 l4497 g4494 ⟨x4491, x4492, x4493, hm4525, hI4495, hF4496, e4500, e4501, e4502, e4503, e4504, r4505, r4506, q4507, q4508, q4509, q4510, q4511, q4512, q4513, q4514⟩ ih4499
    have tv4526 := congrArg Int32.toInt e4500
    have tv4527 := congrArg Int32.toInt e4501
    have x4528 := HI.eqI hI4495 (p := 231) (b := 8) (((hF4496.1 231 8 (by decide)).trans hv1))
    have x4529 := HI.eqI hI4495 (p := 231) (b := 9) (e4500)
    obtain ⟨v4530, hv4530⟩ : ∃ v, gI g4494 231 10 = v := ⟨_, rfl⟩
    have rv4530 := RgF.at hI4495.2.1 (p := 231) (b := 10) rfl
    rw [hv4530] at rv4530
    dsimp only at rv4530
    have tv4530 := congrArg Int32.toInt hv4530
    have x4531 := HI.eqI hI4495 (p := 231) (b := 10) (hv4530)
    obtain ⟨v4532, hv4532⟩ : ∃ v, gI g4494 231 11 = v := ⟨_, rfl⟩
    have tv4532 := congrArg Int32.toInt hv4532
    have x4533 := HI.eqI hI4495 (p := 231) (b := 11) (hv4532)
    obtain ⟨v4534, hv4534⟩ : ∃ v, gJ g4494 231 12 = v := ⟨_, rfl⟩
    have x4535 := HI.eqJ hI4495 (b := 12) (hv4534)
    have x4536 := HI.eqI hI4495 (p := 231) (b := 14) (e4501)
    obtain ⟨v4537, hv4537⟩ : ∃ v, gI g4494 231 17 = v := ⟨_, rfl⟩
    have rv4537 := RgF.at hI4495.2.1 (p := 231) (b := 17) rfl
    rw [hv4537] at rv4537
    dsimp only at rv4537
    have tv4537 := congrArg Int32.toInt hv4537
    have x4538 := HI.eqI hI4495 (p := 231) (b := 17) (hv4537)
    obtain ⟨v4539, hv4539⟩ : ∃ v, gI g4494 231 23 = v := ⟨_, rfl⟩
    have rv4539 := RgF.at hI4495.2.1 (p := 231) (b := 23) rfl
    rw [hv4539] at rv4539
    dsimp only at rv4539
    have tv4539 := congrArg Int32.toInt hv4539
    have x4540 := HI.eqI hI4495 (p := 231) (b := 23) (hv4539)
    refine At.enter rfl ?_
    refine r_aload_n e4502 ?_
    refine q_getI (Sh.int hI4495.1 kx_231 rfl) x4493 e4501 ?_
    refine r_ifs 27 rfl (fun c4541 => ?_) (fun c4541 => ?_)
    · have c4541_ : x4493.toInt ≠ 0 := en_k_ne_t c4541
      refine At.enter rfl ?_
      refine r_aload_n e4502 ?_
      refine r_iconst 1 rfl ?_
      have x4542 := HI.eqI hI4495 (p := 231) (b := 17) (hv4537)
      have x4543 := HI.eqI hI4495 (p := 231) (b := 23) (hv4539)
      have zv4544 : (1 : Int32).toInt = 1 := rfl
      refine r_callV 81 rfl [.ref 231, .int 1] [] (Nat.le_of_ble_eq_true rfl) rfl (T_X11_settle_231 _ hI4495 1 (by decide) (by omega)) ?_
      rintro _ _ ⟨g4545, rfl, hI4546, hF4547, rfl, hr4549⟩
      refine At.stn ?_
      have hF4550 := Fr.tr hF4496 hF4547 rfl rfl
      have zv4551 : (1 : Int32).toInt = 1 := rfl
      have x4552 := HI.eqI hI4495 (p := 231) (b := 17) (hv4537)
      have x4553 := HI.eqI hI4495 (p := 231) (b := 23) (hv4539)
      obtain ⟨v4554, hv4554⟩ : ∃ v, gI g4545 231 17 = v := ⟨_, rfl⟩
      have rv4554 := RgF.at hI4546.2.1 (p := 231) (b := 17) rfl
      rw [hv4554] at rv4554
      dsimp only at rv4554
      have tv4554 := congrArg Int32.toInt hv4554
      have x4555 := HI.eqI hI4546 (p := 231) (b := 17) (hv4554)
      obtain ⟨v4556, hv4556⟩ : ∃ v, gI g4545 231 23 = v := ⟨_, rfl⟩
      have rv4556 := RgF.at hI4546.2.1 (p := 231) (b := 23) rfl
      rw [hv4556] at rv4556
      dsimp only at rv4556
      have tv4556 := congrArg Int32.toInt hv4556
      have x4557 := HI.eqI hI4546 (p := 231) (b := 23) (hv4556)
      have y4558 : (gI _ 231 23).toInt ≤ (gI _ 231 23).toInt := hr4549.1
      have y4559 : (gI _ 231 17).toInt + (gI _ 231 23).toInt ≤ (gI _ 231 17).toInt + (gI _ 231 23).toInt := hr4549.2.1
      refine At.enter rfl ?_
      refine r_vret ?_
      have x4560 := HI.eqI hI4546 (p := 231) (b := 8) ((((hF4547.1 231 8 (by decide)).trans (hF4496.1 231 8 (by decide))).trans hv1))
      have x4561 := HI.eqI hI4546 (p := 231) (b := 9) (((hF4547.1 231 9 (by decide)).trans e4500))
      have x4562 := HI.eqI hI4546 (p := 231) (b := 10) (((hF4547.1 231 10 (by decide)).trans hv4530))
      have x4563 := HI.eqI hI4546 (p := 231) (b := 11) (((hF4547.1 231 11 (by decide)).trans hv4532))
      have x4564 := HI.eqJ hI4546 (b := 12) (((hF4547.2.2 231 12 (by decide)).trans hv4534))
      have x4565 := HI.eqI hI4546 (p := 231) (b := 14) (((hF4547.1 231 14 (by decide)).trans e4501))
      have x4566 := HI.eqI hI4546 (p := 231) (b := 17) (hv4554)
      have x4567 := HI.eqI hI4546 (p := 231) (b := 23) (hv4556)
      have x4568 := HI.eqI hI0 (p := 231) (b := 9) (hv2)
      have x4569 := HI.eqI hI0 (p := 231) (b := 17) (hv7)
      have w264570 := W26.cong q4513 hI4546 ((hF4547.1 231 9 (by decide))) ((hF4547.1 231 10 (by decide))) ((hF4547.1 231 11 (by decide))) ((hF4547.2.2 231 12 (by decide)))
      exact ⟨_, rfl, hI4546, hF4550, rfl, ⟨by omega, by omega, by omega, by omega, w264570, by omega, (fun hbad => False.elim (by omega))⟩⟩
    · have c4541_ : x4493.toInt = 0 := en_k_ne_f c4541
      refine At.enter rfl ?_
      refine r_iload_n e4504 ?_
      refine r_iconst 4 rfl ?_
      refine r_ics 32 rfl (fun c4571 => ?_) (fun c4571 => ?_)
      · have c4571_ : x4491.toInt = 4 := en_i_eq_t c4571
        refine At.enter rfl ?_
        refine r_aload_n e4502 ?_
        refine r_iconst 1 rfl ?_
        have x4572 := HI.eqI hI4495 (p := 231) (b := 17) (hv4537)
        have x4573 := HI.eqI hI4495 (p := 231) (b := 23) (hv4539)
        have zv4574 : (1 : Int32).toInt = 1 := rfl
        refine r_callV 81 rfl [.ref 231, .int 1] [] (Nat.le_of_ble_eq_true rfl) rfl (T_X11_settle_231 _ hI4495 1 (by decide) (by omega)) ?_
        rintro _ _ ⟨g4575, rfl, hI4576, hF4577, rfl, hr4579⟩
        refine At.stn ?_
        have hF4580 := Fr.tr hF4496 hF4577 rfl rfl
        have zv4581 : (1 : Int32).toInt = 1 := rfl
        have x4582 := HI.eqI hI4495 (p := 231) (b := 17) (hv4537)
        have x4583 := HI.eqI hI4495 (p := 231) (b := 23) (hv4539)
        obtain ⟨v4584, hv4584⟩ : ∃ v, gI g4575 231 17 = v := ⟨_, rfl⟩
        have rv4584 := RgF.at hI4576.2.1 (p := 231) (b := 17) rfl
        rw [hv4584] at rv4584
        dsimp only at rv4584
        have tv4584 := congrArg Int32.toInt hv4584
        have x4585 := HI.eqI hI4576 (p := 231) (b := 17) (hv4584)
        obtain ⟨v4586, hv4586⟩ : ∃ v, gI g4575 231 23 = v := ⟨_, rfl⟩
        have rv4586 := RgF.at hI4576.2.1 (p := 231) (b := 23) rfl
        rw [hv4586] at rv4586
        dsimp only at rv4586
        have tv4586 := congrArg Int32.toInt hv4586
        have x4587 := HI.eqI hI4576 (p := 231) (b := 23) (hv4586)
        have y4588 : (gI _ 231 23).toInt ≤ (gI _ 231 23).toInt := hr4579.1
        have y4589 : (gI _ 231 17).toInt + (gI _ 231 23).toInt ≤ (gI _ 231 17).toInt + (gI _ 231 23).toInt := hr4579.2.1
        refine At.enter rfl ?_
        refine r_vret ?_
        have x4590 := HI.eqI hI4576 (p := 231) (b := 8) ((((hF4577.1 231 8 (by decide)).trans (hF4496.1 231 8 (by decide))).trans hv1))
        have x4591 := HI.eqI hI4576 (p := 231) (b := 9) (((hF4577.1 231 9 (by decide)).trans e4500))
        have x4592 := HI.eqI hI4576 (p := 231) (b := 10) (((hF4577.1 231 10 (by decide)).trans hv4530))
        have x4593 := HI.eqI hI4576 (p := 231) (b := 11) (((hF4577.1 231 11 (by decide)).trans hv4532))
        have x4594 := HI.eqJ hI4576 (b := 12) (((hF4577.2.2 231 12 (by decide)).trans hv4534))
        have x4595 := HI.eqI hI4576 (p := 231) (b := 14) (((hF4577.1 231 14 (by decide)).trans e4501))
        have x4596 := HI.eqI hI4576 (p := 231) (b := 17) (hv4584)
        have x4597 := HI.eqI hI4576 (p := 231) (b := 23) (hv4586)
        have x4598 := HI.eqI hI0 (p := 231) (b := 9) (hv2)
        have x4599 := HI.eqI hI0 (p := 231) (b := 17) (hv7)
        have w264600 := W26.cong q4513 hI4576 ((hF4577.1 231 9 (by decide))) ((hF4577.1 231 10 (by decide))) ((hF4577.1 231 11 (by decide))) ((hF4577.2.2 231 12 (by decide)))
        exact ⟨_, rfl, hI4576, hF4580, rfl, ⟨by omega, by omega, by omega, by omega, w264600, by omega, (fun hbad => ⟨by have y := (q4514 (by omega)).1; omega, (EXPR.of ((q4514 (by omega)).2.2.1 (by omega)) ((q4514 (by omega)).2.2.2.2 (by omega)) hr4579 (by omega) (by show 0 ≤ (gI _ 231 23).toInt; omega) (by show (gI _ 231 17).toInt ≤ 400; omega) rfl rfl rfl).2⟩)⟩⟩
      · have c4571_ : x4491.toInt ≠ 4 := en_i_eq_f c4571
        refine At.enter rfl ?_
        refine r_iload_n e4504 ?_
        refine r_ifs 36 rfl (fun c4601 => ?_) (fun c4601 => ?_)
        · have c4601_ : x4491.toInt ≠ 0 := en_k_ne_t c4601
          refine At.enter rfl ?_
          refine r_iload_n e4504 ?_
          refine r_iconst 1 rfl ?_
          refine r_ics 48 rfl (fun c4602 => ?_) (fun c4602 => ?_)
          · have c4602_ : x4491.toInt ≠ 1 := en_i_ne_t c4602
            refine At.enter rfl ?_
            refine r_iload_n e4504 ?_
            refine r_iconst 3 rfl ?_
            refine r_ics 60 rfl (fun c4603 => ?_) (fun c4603 => ?_)
            · have c4603_ : x4491.toInt ≠ 3 := en_i_ne_t c4603
              refine At.enter rfl ?_
              refine r_aload_n e4502 ?_
              have x4604 := HI.eqI hI4495 (p := 231) (b := 8) (((hF4496.1 231 8 (by decide)).trans hv1))
              have x4605 := HI.eqI hI4495 (p := 231) (b := 9) (e4500)
              have x4606 := HI.eqI hI4495 (p := 231) (b := 10) (hv4530)
              have x4607 := HI.eqI hI4495 (p := 231) (b := 11) (hv4532)
              have x4608 := HI.eqJ hI4495 (b := 12) (hv4534)
              have x4609 := HI.eqI hI4495 (p := 231) (b := 14) (e4501)
              have x4610 := HI.eqI hI4495 (p := 231) (b := 17) (hv4537)
              have x4611 := HI.eqI hI4495 (p := 231) (b := 23) (hv4539)
              have y4612 := (q4514 (by omega)).1
              refine r_callV 72 rfl [.ref 231] [] (Nat.le_of_ble_eq_true rfl) rfl (T_X11_behindTest_231 _ hI4495 (gI g0 231 17).toInt (pE g0 238) (pE g0 239) (by refine ⟨?_, ?_, ?_, ?_⟩ <;> omega) (by omega) (by omega) q4513 (PT.eq (q4514 (by omega)).2 (by omega))) ?_
              rintro _ _ ⟨g4613, rfl, hI4614, hF4615, v4616, rfl, hr4617⟩
              refine At.sti ?_
              have hF4618 := Fr.tr hF4496 hF4615 rfl rfl
              have x4619 := HI.eqI hI4495 (p := 231) (b := 9) (e4500)
              have x4620 := HI.eqI hI4614 (p := 231) (b := 8) ((((hF4615.1 231 8 (by decide)).trans (hF4496.1 231 8 (by decide))).trans hv1))
              obtain ⟨v4621, hv4621⟩ : ∃ v, gI g4613 231 9 = v := ⟨_, rfl⟩
              have rv4621 := RgF.at hI4614.2.1 (p := 231) (b := 9) rfl
              rw [hv4621] at rv4621
              dsimp only at rv4621
              have tv4621 := congrArg Int32.toInt hv4621
              have x4622 := HI.eqI hI4614 (p := 231) (b := 9) (hv4621)
              obtain ⟨v4623, hv4623⟩ : ∃ v, gI g4613 231 10 = v := ⟨_, rfl⟩
              have rv4623 := RgF.at hI4614.2.1 (p := 231) (b := 10) rfl
              rw [hv4623] at rv4623
              dsimp only at rv4623
              have tv4623 := congrArg Int32.toInt hv4623
              have x4624 := HI.eqI hI4614 (p := 231) (b := 10) (hv4623)
              obtain ⟨v4625, hv4625⟩ : ∃ v, gI g4613 231 11 = v := ⟨_, rfl⟩
              have tv4625 := congrArg Int32.toInt hv4625
              have x4626 := HI.eqI hI4614 (p := 231) (b := 11) (hv4625)
              obtain ⟨v4627, hv4627⟩ : ∃ v, gJ g4613 231 12 = v := ⟨_, rfl⟩
              have x4628 := HI.eqJ hI4614 (b := 12) (hv4627)
              obtain ⟨v4629, hv4629⟩ : ∃ v, gI g4613 231 14 = v := ⟨_, rfl⟩
              have tv4629 := congrArg Int32.toInt hv4629
              have x4630 := HI.eqI hI4614 (p := 231) (b := 14) (hv4629)
              obtain ⟨v4631, hv4631⟩ : ∃ v, gI g4613 231 17 = v := ⟨_, rfl⟩
              have rv4631 := RgF.at hI4614.2.1 (p := 231) (b := 17) rfl
              rw [hv4631] at rv4631
              dsimp only at rv4631
              have tv4631 := congrArg Int32.toInt hv4631
              have x4632 := HI.eqI hI4614 (p := 231) (b := 17) (hv4631)
              obtain ⟨v4633, hv4633⟩ : ∃ v, gI g4613 231 23 = v := ⟨_, rfl⟩
              have rv4633 := RgF.at hI4614.2.1 (p := 231) (b := 23) rfl
              rw [hv4633] at rv4633
              dsimp only at rv4633
              have tv4633 := congrArg Int32.toInt hv4633
              have x4634 := HI.eqI hI4614 (p := 231) (b := 23) (hv4633)
              obtain ⟨c4635, c4636, c4637, c4638, c4639, c4640, c4641, c4642, c4643⟩ := hr4617.2
              refine At.enter rfl ?_
              refine r_istore_n _ rfl ?_
              refine r_goto ?_
              have w4644 := tw_s x4491.toInt
              have w4645 := bw_s x4493.toInt
              have w4646 := tw_s v4616.toInt
              have w4647 := bw_s v4629.toInt
              have x4648 := HI.eqI hI4614 (p := 231) (b := 8) ((((hF4615.1 231 8 (by decide)).trans (hF4496.1 231 8 (by decide))).trans hv1))
              have x4649 := HI.eqI hI4614 (p := 231) (b := 9) (hv4621)
              have x4650 := HI.eqI hI4614 (p := 231) (b := 10) (hv4623)
              have x4651 := HI.eqI hI4614 (p := 231) (b := 11) (hv4625)
              have x4652 := HI.eqJ hI4614 (b := 12) (hv4627)
              have x4653 := HI.eqI hI4614 (p := 231) (b := 14) (hv4629)
              have x4654 := HI.eqI hI4614 (p := 231) (b := 17) (hv4631)
              have x4655 := HI.eqI hI4614 (p := 231) (b := 23) (hv4633)
              have y4656 := c4643
              unfold PRG at y4656
              have bv4657 := q_bnd v4629
              exact ih4499 (5 * (400 - v4621.toInt) + tw (v4616.toInt) + 10 * bw (v4629.toInt)) _ _ ⟨v4616, v4621, v4629, by first | rfl | omega, hI4614, hF4618, hv4621, hv4629, (w_p1 (by decide) (Or.inr rfl) e4502), (w_p1 (by decide) (Or.inr rfl) e4503), (w_e1 _ _ _), by omega, by omega, by omega, by omega, by omega, by omega, by omega, by omega, c4639, c4642⟩ ⟨by omega, by omega⟩
            · have c4603_ : x4491.toInt = 3 := en_i_ne_f c4603
              refine At.enter rfl ?_
              refine r_aload_n e4502 ?_
              refine r_iload_n e4503 ?_
              have x4658 := HI.eqI hI4495 (p := 231) (b := 8) (((hF4496.1 231 8 (by decide)).trans hv1))
              have x4659 := HI.eqI hI4495 (p := 231) (b := 9) (e4500)
              have x4660 := HI.eqI hI4495 (p := 231) (b := 10) (hv4530)
              have x4661 := HI.eqI hI4495 (p := 231) (b := 11) (hv4532)
              have x4662 := HI.eqJ hI4495 (b := 12) (hv4534)
              have x4663 := HI.eqI hI4495 (p := 231) (b := 14) (e4501)
              have x4664 := HI.eqI hI4495 (p := 231) (b := 17) (hv4537)
              have x4665 := HI.eqI hI4495 (p := 231) (b := 23) (hv4539)
              have y4666 := (q4514 (by omega)).1
              refine r_callV 65 rfl [.ref 231, .int a1] [] (Nat.le_of_ble_eq_true rfl) rfl (T_X11_behindSum_231 _ hI4495 a1 (by omega) (gI g0 231 17).toInt (pE g0 238) (pE g0 239) (by refine ⟨?_, ?_, ?_, ?_⟩ <;> omega) (by omega) (by omega) q4513 (PT.eq (q4514 (by omega)).2 (by omega))) ?_
              rintro _ _ ⟨g4667, rfl, hI4668, hF4669, v4670, rfl, hr4671⟩
              refine At.sti ?_
              have hF4672 := Fr.tr hF4496 hF4669 rfl rfl
              have x4673 := HI.eqI hI4495 (p := 231) (b := 9) (e4500)
              have x4674 := HI.eqI hI4668 (p := 231) (b := 8) ((((hF4669.1 231 8 (by decide)).trans (hF4496.1 231 8 (by decide))).trans hv1))
              obtain ⟨v4675, hv4675⟩ : ∃ v, gI g4667 231 9 = v := ⟨_, rfl⟩
              have rv4675 := RgF.at hI4668.2.1 (p := 231) (b := 9) rfl
              rw [hv4675] at rv4675
              dsimp only at rv4675
              have tv4675 := congrArg Int32.toInt hv4675
              have x4676 := HI.eqI hI4668 (p := 231) (b := 9) (hv4675)
              obtain ⟨v4677, hv4677⟩ : ∃ v, gI g4667 231 10 = v := ⟨_, rfl⟩
              have rv4677 := RgF.at hI4668.2.1 (p := 231) (b := 10) rfl
              rw [hv4677] at rv4677
              dsimp only at rv4677
              have tv4677 := congrArg Int32.toInt hv4677
              have x4678 := HI.eqI hI4668 (p := 231) (b := 10) (hv4677)
              obtain ⟨v4679, hv4679⟩ : ∃ v, gI g4667 231 11 = v := ⟨_, rfl⟩
              have tv4679 := congrArg Int32.toInt hv4679
              have x4680 := HI.eqI hI4668 (p := 231) (b := 11) (hv4679)
              obtain ⟨v4681, hv4681⟩ : ∃ v, gJ g4667 231 12 = v := ⟨_, rfl⟩
              have x4682 := HI.eqJ hI4668 (b := 12) (hv4681)
              obtain ⟨v4683, hv4683⟩ : ∃ v, gI g4667 231 14 = v := ⟨_, rfl⟩
              have tv4683 := congrArg Int32.toInt hv4683
              have x4684 := HI.eqI hI4668 (p := 231) (b := 14) (hv4683)
              obtain ⟨v4685, hv4685⟩ : ∃ v, gI g4667 231 17 = v := ⟨_, rfl⟩
              have rv4685 := RgF.at hI4668.2.1 (p := 231) (b := 17) rfl
              rw [hv4685] at rv4685
              dsimp only at rv4685
              have tv4685 := congrArg Int32.toInt hv4685
              have x4686 := HI.eqI hI4668 (p := 231) (b := 17) (hv4685)
              obtain ⟨v4687, hv4687⟩ : ∃ v, gI g4667 231 23 = v := ⟨_, rfl⟩
              have rv4687 := RgF.at hI4668.2.1 (p := 231) (b := 23) rfl
              rw [hv4687] at rv4687
              dsimp only at rv4687
              have tv4687 := congrArg Int32.toInt hv4687
              have x4688 := HI.eqI hI4668 (p := 231) (b := 23) (hv4687)
              obtain ⟨c4689, c4690, c4691, c4692, c4693, c4694, c4695, c4696, c4697⟩ := hr4671.2
              refine At.enter rfl ?_
              refine r_goto ?_
              refine At.enter rfl ?_
              refine r_istore_n _ rfl ?_
              refine r_goto ?_
              have w4698 := tw_s x4491.toInt
              have w4699 := bw_s x4493.toInt
              have w4700 := tw_s v4670.toInt
              have w4701 := bw_s v4683.toInt
              have x4702 := HI.eqI hI4668 (p := 231) (b := 8) ((((hF4669.1 231 8 (by decide)).trans (hF4496.1 231 8 (by decide))).trans hv1))
              have x4703 := HI.eqI hI4668 (p := 231) (b := 9) (hv4675)
              have x4704 := HI.eqI hI4668 (p := 231) (b := 10) (hv4677)
              have x4705 := HI.eqI hI4668 (p := 231) (b := 11) (hv4679)
              have x4706 := HI.eqJ hI4668 (b := 12) (hv4681)
              have x4707 := HI.eqI hI4668 (p := 231) (b := 14) (hv4683)
              have x4708 := HI.eqI hI4668 (p := 231) (b := 17) (hv4685)
              have x4709 := HI.eqI hI4668 (p := 231) (b := 23) (hv4687)
              have y4710 := c4697
              unfold PRG at y4710
              have bv4711 := q_bnd v4683
              exact ih4499 (5 * (400 - v4675.toInt) + tw (v4670.toInt) + 10 * bw (v4683.toInt)) _ _ ⟨v4670, v4675, v4683, by first | rfl | omega, hI4668, hF4672, hv4675, hv4683, (w_p1 (by decide) (Or.inr rfl) e4502), (w_p1 (by decide) (Or.inr rfl) e4503), (w_e1 _ _ _), by omega, by omega, by omega, by omega, by omega, by omega, by omega, by omega, c4693, c4696⟩ ⟨by omega, by omega⟩
          · have c4602_ : x4491.toInt = 1 := en_i_ne_f c4602
            refine At.enter rfl ?_
            refine r_aload_n e4502 ?_
            have x4712 := HI.eqI hI4495 (p := 231) (b := 8) (((hF4496.1 231 8 (by decide)).trans hv1))
            have x4713 := HI.eqI hI4495 (p := 231) (b := 9) (e4500)
            have x4714 := HI.eqI hI4495 (p := 231) (b := 10) (hv4530)
            have x4715 := HI.eqI hI4495 (p := 231) (b := 11) (hv4532)
            have x4716 := HI.eqJ hI4495 (b := 12) (hv4534)
            have x4717 := HI.eqI hI4495 (p := 231) (b := 14) (e4501)
            have x4718 := HI.eqI hI4495 (p := 231) (b := 17) (hv4537)
            have x4719 := HI.eqI hI4495 (p := 231) (b := 23) (hv4539)
            have y4720 := (q4514 (by omega)).1
            refine r_callV 52 rfl [.ref 231] [] (Nat.le_of_ble_eq_true rfl) rfl (T_X11_readPart_231 _ hI4495 (gI g0 231 17).toInt (pE g0 238) (pE g0 239) (by refine ⟨?_, ?_, ?_, ?_⟩ <;> omega) (by omega) (by omega) q4513 (PT.eq (q4514 (by omega)).2 (by omega))) ?_
            rintro _ _ ⟨g4721, rfl, hI4722, hF4723, v4724, rfl, hr4725⟩
            refine At.sti ?_
            have hF4726 := Fr.tr hF4496 hF4723 rfl rfl
            have x4727 := HI.eqI hI4495 (p := 231) (b := 9) (e4500)
            have x4728 := HI.eqI hI4722 (p := 231) (b := 8) ((((hF4723.1 231 8 (by decide)).trans (hF4496.1 231 8 (by decide))).trans hv1))
            obtain ⟨v4729, hv4729⟩ : ∃ v, gI g4721 231 9 = v := ⟨_, rfl⟩
            have rv4729 := RgF.at hI4722.2.1 (p := 231) (b := 9) rfl
            rw [hv4729] at rv4729
            dsimp only at rv4729
            have tv4729 := congrArg Int32.toInt hv4729
            have x4730 := HI.eqI hI4722 (p := 231) (b := 9) (hv4729)
            obtain ⟨v4731, hv4731⟩ : ∃ v, gI g4721 231 10 = v := ⟨_, rfl⟩
            have rv4731 := RgF.at hI4722.2.1 (p := 231) (b := 10) rfl
            rw [hv4731] at rv4731
            dsimp only at rv4731
            have tv4731 := congrArg Int32.toInt hv4731
            have x4732 := HI.eqI hI4722 (p := 231) (b := 10) (hv4731)
            obtain ⟨v4733, hv4733⟩ : ∃ v, gI g4721 231 11 = v := ⟨_, rfl⟩
            have tv4733 := congrArg Int32.toInt hv4733
            have x4734 := HI.eqI hI4722 (p := 231) (b := 11) (hv4733)
            obtain ⟨v4735, hv4735⟩ : ∃ v, gJ g4721 231 12 = v := ⟨_, rfl⟩
            have x4736 := HI.eqJ hI4722 (b := 12) (hv4735)
            obtain ⟨v4737, hv4737⟩ : ∃ v, gI g4721 231 14 = v := ⟨_, rfl⟩
            have tv4737 := congrArg Int32.toInt hv4737
            have x4738 := HI.eqI hI4722 (p := 231) (b := 14) (hv4737)
            obtain ⟨v4739, hv4739⟩ : ∃ v, gI g4721 231 17 = v := ⟨_, rfl⟩
            have rv4739 := RgF.at hI4722.2.1 (p := 231) (b := 17) rfl
            rw [hv4739] at rv4739
            dsimp only at rv4739
            have tv4739 := congrArg Int32.toInt hv4739
            have x4740 := HI.eqI hI4722 (p := 231) (b := 17) (hv4739)
            obtain ⟨v4741, hv4741⟩ : ∃ v, gI g4721 231 23 = v := ⟨_, rfl⟩
            have rv4741 := RgF.at hI4722.2.1 (p := 231) (b := 23) rfl
            rw [hv4741] at rv4741
            dsimp only at rv4741
            have tv4741 := congrArg Int32.toInt hv4741
            have x4742 := HI.eqI hI4722 (p := 231) (b := 23) (hv4741)
            obtain ⟨c4743, c4744, c4745, c4746, c4747, c4748, c4749, c4750, c4751⟩ := hr4725.2
            refine At.enter rfl ?_
            refine r_goto ?_
            refine At.enter rfl ?_
            refine r_istore_n _ rfl ?_
            refine r_goto ?_
            have w4752 := tw_s x4491.toInt
            have w4753 := bw_s x4493.toInt
            have w4754 := tw_s v4724.toInt
            have w4755 := bw_s v4737.toInt
            have x4756 := HI.eqI hI4722 (p := 231) (b := 8) ((((hF4723.1 231 8 (by decide)).trans (hF4496.1 231 8 (by decide))).trans hv1))
            have x4757 := HI.eqI hI4722 (p := 231) (b := 9) (hv4729)
            have x4758 := HI.eqI hI4722 (p := 231) (b := 10) (hv4731)
            have x4759 := HI.eqI hI4722 (p := 231) (b := 11) (hv4733)
            have x4760 := HI.eqJ hI4722 (b := 12) (hv4735)
            have x4761 := HI.eqI hI4722 (p := 231) (b := 14) (hv4737)
            have x4762 := HI.eqI hI4722 (p := 231) (b := 17) (hv4739)
            have x4763 := HI.eqI hI4722 (p := 231) (b := 23) (hv4741)
            have y4764 := c4751
            unfold PRG at y4764
            have bv4765 := q_bnd v4737
            exact ih4499 (5 * (400 - v4729.toInt) + tw (v4724.toInt) + 10 * bw (v4737.toInt)) _ _ ⟨v4724, v4729, v4737, by first | rfl | omega, hI4722, hF4726, hv4729, hv4737, (w_p1 (by decide) (Or.inr rfl) e4502), (w_p1 (by decide) (Or.inr rfl) e4503), (w_e1 _ _ _), by omega, by omega, by omega, by omega, by omega, by omega, by omega, by omega, c4747, c4750⟩ ⟨by omega, by omega⟩
        · have c4601_ : x4491.toInt = 0 := en_k_ne_f c4601
          refine At.enter rfl ?_
          refine r_aload_n e4502 ?_
          have x4766 := HI.eqI hI4495 (p := 231) (b := 8) (((hF4496.1 231 8 (by decide)).trans hv1))
          have x4767 := HI.eqI hI4495 (p := 231) (b := 9) (e4500)
          have x4768 := HI.eqI hI4495 (p := 231) (b := 10) (hv4530)
          have x4769 := HI.eqI hI4495 (p := 231) (b := 11) (hv4532)
          have x4770 := HI.eqJ hI4495 (b := 12) (hv4534)
          have x4771 := HI.eqI hI4495 (p := 231) (b := 14) (e4501)
          have x4772 := HI.eqI hI4495 (p := 231) (b := 17) (hv4537)
          have x4773 := HI.eqI hI4495 (p := 231) (b := 23) (hv4539)
          have y4774 := (q4514 (by omega)).1
          refine r_callV 40 rfl [.ref 231] [] (Nat.le_of_ble_eq_true rfl) rfl (T_X11_readPlain_231 _ hI4495 (gI g0 231 17).toInt (pE g0 238) (pE g0 239) (by refine ⟨?_, ?_, ?_, ?_⟩ <;> omega) (by omega) (by omega) q4513 (PT.eq (q4514 (by omega)).2 (by omega))) ?_
          rintro _ _ ⟨g4775, rfl, hI4776, hF4777, v4778, rfl, hr4779⟩
          refine At.sti ?_
          have hF4780 := Fr.tr hF4496 hF4777 rfl rfl
          have x4781 := HI.eqI hI4495 (p := 231) (b := 9) (e4500)
          have x4782 := HI.eqI hI4776 (p := 231) (b := 8) ((((hF4777.1 231 8 (by decide)).trans (hF4496.1 231 8 (by decide))).trans hv1))
          obtain ⟨v4783, hv4783⟩ : ∃ v, gI g4775 231 9 = v := ⟨_, rfl⟩
          have rv4783 := RgF.at hI4776.2.1 (p := 231) (b := 9) rfl
          rw [hv4783] at rv4783
          dsimp only at rv4783
          have tv4783 := congrArg Int32.toInt hv4783
          have x4784 := HI.eqI hI4776 (p := 231) (b := 9) (hv4783)
          obtain ⟨v4785, hv4785⟩ : ∃ v, gI g4775 231 10 = v := ⟨_, rfl⟩
          have rv4785 := RgF.at hI4776.2.1 (p := 231) (b := 10) rfl
          rw [hv4785] at rv4785
          dsimp only at rv4785
          have tv4785 := congrArg Int32.toInt hv4785
          have x4786 := HI.eqI hI4776 (p := 231) (b := 10) (hv4785)
          obtain ⟨v4787, hv4787⟩ : ∃ v, gI g4775 231 11 = v := ⟨_, rfl⟩
          have tv4787 := congrArg Int32.toInt hv4787
          have x4788 := HI.eqI hI4776 (p := 231) (b := 11) (hv4787)
          obtain ⟨v4789, hv4789⟩ : ∃ v, gJ g4775 231 12 = v := ⟨_, rfl⟩
          have x4790 := HI.eqJ hI4776 (b := 12) (hv4789)
          obtain ⟨v4791, hv4791⟩ : ∃ v, gI g4775 231 14 = v := ⟨_, rfl⟩
          have tv4791 := congrArg Int32.toInt hv4791
          have x4792 := HI.eqI hI4776 (p := 231) (b := 14) (hv4791)
          obtain ⟨v4793, hv4793⟩ : ∃ v, gI g4775 231 17 = v := ⟨_, rfl⟩
          have rv4793 := RgF.at hI4776.2.1 (p := 231) (b := 17) rfl
          rw [hv4793] at rv4793
          dsimp only at rv4793
          have tv4793 := congrArg Int32.toInt hv4793
          have x4794 := HI.eqI hI4776 (p := 231) (b := 17) (hv4793)
          obtain ⟨v4795, hv4795⟩ : ∃ v, gI g4775 231 23 = v := ⟨_, rfl⟩
          have rv4795 := RgF.at hI4776.2.1 (p := 231) (b := 23) rfl
          rw [hv4795] at rv4795
          dsimp only at rv4795
          have tv4795 := congrArg Int32.toInt hv4795
          have x4796 := HI.eqI hI4776 (p := 231) (b := 23) (hv4795)
          obtain ⟨c4797, c4798, c4799, c4800, c4801, c4802, c4803, c4804, c4805⟩ := hr4779.2
          refine At.enter rfl ?_
          refine r_goto ?_
          refine At.enter rfl ?_
          refine r_istore_n _ rfl ?_
          refine r_goto ?_
          have w4806 := tw_s x4491.toInt
          have w4807 := bw_s x4493.toInt
          have w4808 := tw_s v4778.toInt
          have w4809 := bw_s v4791.toInt
          have x4810 := HI.eqI hI4776 (p := 231) (b := 8) ((((hF4777.1 231 8 (by decide)).trans (hF4496.1 231 8 (by decide))).trans hv1))
          have x4811 := HI.eqI hI4776 (p := 231) (b := 9) (hv4783)
          have x4812 := HI.eqI hI4776 (p := 231) (b := 10) (hv4785)
          have x4813 := HI.eqI hI4776 (p := 231) (b := 11) (hv4787)
          have x4814 := HI.eqJ hI4776 (b := 12) (hv4789)
          have x4815 := HI.eqI hI4776 (p := 231) (b := 14) (hv4791)
          have x4816 := HI.eqI hI4776 (p := 231) (b := 17) (hv4793)
          have x4817 := HI.eqI hI4776 (p := 231) (b := 23) (hv4795)
          have y4818 := c4805
          unfold PRG at y4818
          have bv4819 := q_bnd v4791
          exact ih4499 (5 * (400 - v4783.toInt) + tw (v4778.toInt) + 10 * bw (v4791.toInt)) _ _ ⟨v4778, v4783, v4791, by first | rfl | omega, hI4776, hF4780, hv4783, hv4791, (w_p1 (by decide) (Or.inr rfl) e4502), (w_p1 (by decide) (Or.inr rfl) e4503), (w_e1 _ _ _), by omega, by omega, by omega, by omega, by omega, by omega, by omega, by omega, c4801, c4804⟩ ⟨by omega, by omega⟩
  · have c3815_ : a1.toInt ≠ 0 := en_k_eq_f c3815
    refine At.enter rfl ?_
    refine r_iconst 0 rfl ?_
    refine r_goto ?_
    refine At.enter rfl ?_
    refine r_istore_n ([(2, .int 0), (0, .ref 231), (1, .int a1)]) rfl ?_
    refine Ar.fall 20 rfl ?_
    have z_5558 : (0 : Int32).toInt = 0 := rfl
    have x5559 := HI.eqI hI3813 (p := 231) (b := 8) ((((gI_sI_ne (by decide)).trans (gI_sI_ne (by decide))).trans hv1))
    have x5560 := HI.eqI hI3813 (p := 231) (b := 9) ((((gI_sI_ne (by decide)).trans (gI_sI_ne (by decide))).trans hv2))
    have x5561 := HI.eqI hI3813 (p := 231) (b := 10) ((((gI_sI_ne (by decide)).trans (gI_sI_ne (by decide))).trans hv3))
    have x5562 := HI.eqI hI3813 (p := 231) (b := 11) ((((gI_sI_ne (by decide)).trans (gI_sI_ne (by decide))).trans hv4))
    have x5563 := HI.eqJ hI3813 (b := 12) ((((gJ_sI_ne (by decide)).trans (gJ_sI_ne (by decide))).trans hv5))
    have x5564 := HI.eqI hI3813 (p := 231) (b := 14) ((((gI_sI_ne (by decide)).trans (gI_sI_ne (by decide))).trans hv6))
    have x5565 := HI.eqI hI3813 (p := 231) (b := 17) ((((gI_sI_ne (by decide)).trans (gI_sI_ne (by decide))).trans hv7))
    have x5566 := HI.eqI hI3813 (p := 231) (b := 23) (((gI_sI_ne (by decide)).trans (gI_sI_eq hI0.1 kx_231 rfl _)))
    have zv5567 : (0 : Int32).toInt = 0 := rfl
    refine w_loopI (fun n_ l_ g_ => ∃ x5534 : Int32, ∃ x5535 : Int32, ∃ x5536 : Int32, n_ = 5 * (400 - x5535.toInt) + tw (x5534.toInt) + 10 * bw (x5536.toInt) ∧ HI g_ ∧ Fr F_X11_readExpression_231 A_X11_readExpression_231 g0 g_ ∧ gI g_ 231 9 = x5535 ∧ gI g_ 231 14 = x5536 ∧ en_get 0 l_ = some (.ref 231) ∧ en_get 1 l_ = some (.int a1) ∧ en_get 2 l_ = some (.int x5534) ∧ (0 ≤ x5534.toInt ∧ x5534.toInt ≤ 4) ∧ (0 ≤ x5535.toInt ∧ x5535.toInt ≤ 400) ∧ ((gI g_ 231 9).toInt ≤ (gI g_ 231 10).toInt) ∧ ((gI g_ 231 10).toInt ≤ (gI g_ 231 8).toInt) ∧ (0 ≤ (gI g_ 231 11).toInt) ∧ ((gI g_ 231 11).toInt ≤ 3 * ((gI g_ 231 10).toInt - (gI g_ 231 9).toInt)) ∧ ((gI g_ 231 17).toInt + (gI g_ 231 23).toInt ≤ 400) ∧ ((gI g0 231 9).toInt ≤ (gI g_ 231 9).toInt) ∧ (W26 g_) ∧ (TURN g_ (gI g0 231 17).toInt x5534.toInt (pE g0 238) (pE g0 239))) ?_ (5 * (400 - v2.toInt) + tw (0) + 10 * bw (v6.toInt)) ⟨0, v2, v6, by first | rfl | omega, hI3813, hF3814, (((gI_sI_ne (by decide)).trans (gI_sI_ne (by decide))).trans hv2), (((gI_sI_ne (by decide)).trans (gI_sI_ne (by decide))).trans hv6), rfl, rfl, rfl, by decide, by omega, by omega, by omega, by omega, by omega, by omega, by omega, (W26.cong hW hI3813 (((gI_sI_ne (by decide)).trans (gI_sI_ne (by decide)))) (((gI_sI_ne (by decide)).trans (gI_sI_ne (by decide)))) (((gI_sI_ne (by decide)).trans (gI_sI_ne (by decide)))) (((gJ_sI_ne (by decide)).trans (gJ_sI_ne (by decide))))), (fun _ => ⟨by omega, PT.start hI3813 (((gA_sI).trans (gA_sI))) (((gA_sI).trans (gA_sI))) (((gI_sI_ne (by decide)).trans (gI_sI_ne (by decide)))) (by show (gI _ 231 23).toInt = 0; omega) (by show 0 ≤ (gI _ 231 17).toInt; omega) (by omega)⟩)⟩
    rintro n5541 l5540 g5537 ⟨x5534, x5535, x5536, hm5568, hI5538, hF5539, e5543, e5544, e5545, e5546, e5547, r5548, r5549, q5550, q5551, q5552, q5553, q5554, q5555, q5556, q5557⟩ ih5542
    have tv5569 := congrArg Int32.toInt e5543
    have tv5570 := congrArg Int32.toInt e5544
    have x5571 := HI.eqI hI5538 (p := 231) (b := 8) (((hF5539.1 231 8 (by decide)).trans hv1))
    have x5572 := HI.eqI hI5538 (p := 231) (b := 9) (e5543)
    obtain ⟨v5573, hv5573⟩ : ∃ v, gI g5537 231 10 = v := ⟨_, rfl⟩
    have rv5573 := RgF.at hI5538.2.1 (p := 231) (b := 10) rfl
    rw [hv5573] at rv5573
    dsimp only at rv5573
    have tv5573 := congrArg Int32.toInt hv5573
    have x5574 := HI.eqI hI5538 (p := 231) (b := 10) (hv5573)
    obtain ⟨v5575, hv5575⟩ : ∃ v, gI g5537 231 11 = v := ⟨_, rfl⟩
    have tv5575 := congrArg Int32.toInt hv5575
    have x5576 := HI.eqI hI5538 (p := 231) (b := 11) (hv5575)
    obtain ⟨v5577, hv5577⟩ : ∃ v, gJ g5537 231 12 = v := ⟨_, rfl⟩
    have x5578 := HI.eqJ hI5538 (b := 12) (hv5577)
    have x5579 := HI.eqI hI5538 (p := 231) (b := 14) (e5544)
    obtain ⟨v5580, hv5580⟩ : ∃ v, gI g5537 231 17 = v := ⟨_, rfl⟩
    have rv5580 := RgF.at hI5538.2.1 (p := 231) (b := 17) rfl
    rw [hv5580] at rv5580
    dsimp only at rv5580
    have tv5580 := congrArg Int32.toInt hv5580
    have x5581 := HI.eqI hI5538 (p := 231) (b := 17) (hv5580)
    obtain ⟨v5582, hv5582⟩ : ∃ v, gI g5537 231 23 = v := ⟨_, rfl⟩
    have rv5582 := RgF.at hI5538.2.1 (p := 231) (b := 23) rfl
    rw [hv5582] at rv5582
    dsimp only at rv5582
    have tv5582 := congrArg Int32.toInt hv5582
    have x5583 := HI.eqI hI5538 (p := 231) (b := 23) (hv5582)
    refine At.enter rfl ?_
    refine r_aload_n e5545 ?_
    refine q_getI (Sh.int hI5538.1 kx_231 rfl) x5536 e5544 ?_
    refine r_ifs 27 rfl (fun c5584 => ?_) (fun c5584 => ?_)
    · have c5584_ : x5536.toInt ≠ 0 := en_k_ne_t c5584
      refine At.enter rfl ?_
      refine r_aload_n e5545 ?_
      refine r_iconst 1 rfl ?_
      have x5585 := HI.eqI hI5538 (p := 231) (b := 17) (hv5580)
      have x5586 := HI.eqI hI5538 (p := 231) (b := 23) (hv5582)
      have zv5587 : (1 : Int32).toInt = 1 := rfl
      refine r_callV 81 rfl [.ref 231, .int 1] [] (Nat.le_of_ble_eq_true rfl) rfl (T_X11_settle_231 _ hI5538 1 (by decide) (by omega)) ?_
      rintro _ _ ⟨g5588, rfl, hI5589, hF5590, rfl, hr5592⟩
      refine At.stn ?_
      have hF5593 := Fr.tr hF5539 hF5590 rfl rfl
      have zv5594 : (1 : Int32).toInt = 1 := rfl
      have x5595 := HI.eqI hI5538 (p := 231) (b := 17) (hv5580)
      have x5596 := HI.eqI hI5538 (p := 231) (b := 23) (hv5582)
      obtain ⟨v5597, hv5597⟩ : ∃ v, gI g5588 231 17 = v := ⟨_, rfl⟩
      have rv5597 := RgF.at hI5589.2.1 (p := 231) (b := 17) rfl
      rw [hv5597] at rv5597
      dsimp only at rv5597
      have tv5597 := congrArg Int32.toInt hv5597
      have x5598 := HI.eqI hI5589 (p := 231) (b := 17) (hv5597)
      obtain ⟨v5599, hv5599⟩ : ∃ v, gI g5588 231 23 = v := ⟨_, rfl⟩
      have rv5599 := RgF.at hI5589.2.1 (p := 231) (b := 23) rfl
      rw [hv5599] at rv5599
      dsimp only at rv5599
      have tv5599 := congrArg Int32.toInt hv5599
      have x5600 := HI.eqI hI5589 (p := 231) (b := 23) (hv5599)
      have y5601 : (gI _ 231 23).toInt ≤ (gI _ 231 23).toInt := hr5592.1
      have y5602 : (gI _ 231 17).toInt + (gI _ 231 23).toInt ≤ (gI _ 231 17).toInt + (gI _ 231 23).toInt := hr5592.2.1
      refine At.enter rfl ?_
      refine r_vret ?_
      have x5603 := HI.eqI hI5589 (p := 231) (b := 8) ((((hF5590.1 231 8 (by decide)).trans (hF5539.1 231 8 (by decide))).trans hv1))
      have x5604 := HI.eqI hI5589 (p := 231) (b := 9) (((hF5590.1 231 9 (by decide)).trans e5543))
      have x5605 := HI.eqI hI5589 (p := 231) (b := 10) (((hF5590.1 231 10 (by decide)).trans hv5573))
      have x5606 := HI.eqI hI5589 (p := 231) (b := 11) (((hF5590.1 231 11 (by decide)).trans hv5575))
      have x5607 := HI.eqJ hI5589 (b := 12) (((hF5590.2.2 231 12 (by decide)).trans hv5577))
      have x5608 := HI.eqI hI5589 (p := 231) (b := 14) (((hF5590.1 231 14 (by decide)).trans e5544))
      have x5609 := HI.eqI hI5589 (p := 231) (b := 17) (hv5597)
      have x5610 := HI.eqI hI5589 (p := 231) (b := 23) (hv5599)
      have x5611 := HI.eqI hI0 (p := 231) (b := 9) (hv2)
      have x5612 := HI.eqI hI0 (p := 231) (b := 17) (hv7)
      have w265613 := W26.cong q5556 hI5589 ((hF5590.1 231 9 (by decide))) ((hF5590.1 231 10 (by decide))) ((hF5590.1 231 11 (by decide))) ((hF5590.2.2 231 12 (by decide)))
      exact ⟨_, rfl, hI5589, hF5593, rfl, ⟨by omega, by omega, by omega, by omega, w265613, by omega, (fun hbad => False.elim (by omega))⟩⟩
    · have c5584_ : x5536.toInt = 0 := en_k_ne_f c5584
      refine At.enter rfl ?_
      refine r_iload_n e5547 ?_
      refine r_iconst 4 rfl ?_
      refine r_ics 32 rfl (fun c5614 => ?_) (fun c5614 => ?_)
      · have c5614_ : x5534.toInt = 4 := en_i_eq_t c5614
        refine At.enter rfl ?_
        refine r_aload_n e5545 ?_
        refine r_iconst 1 rfl ?_
        have x5615 := HI.eqI hI5538 (p := 231) (b := 17) (hv5580)
        have x5616 := HI.eqI hI5538 (p := 231) (b := 23) (hv5582)
        have zv5617 : (1 : Int32).toInt = 1 := rfl
        refine r_callV 81 rfl [.ref 231, .int 1] [] (Nat.le_of_ble_eq_true rfl) rfl (T_X11_settle_231 _ hI5538 1 (by decide) (by omega)) ?_
        rintro _ _ ⟨g5618, rfl, hI5619, hF5620, rfl, hr5622⟩
        refine At.stn ?_
        have hF5623 := Fr.tr hF5539 hF5620 rfl rfl
        have zv5624 : (1 : Int32).toInt = 1 := rfl
        have x5625 := HI.eqI hI5538 (p := 231) (b := 17) (hv5580)
        have x5626 := HI.eqI hI5538 (p := 231) (b := 23) (hv5582)
        obtain ⟨v5627, hv5627⟩ : ∃ v, gI g5618 231 17 = v := ⟨_, rfl⟩
        have rv5627 := RgF.at hI5619.2.1 (p := 231) (b := 17) rfl
        rw [hv5627] at rv5627
        dsimp only at rv5627
        have tv5627 := congrArg Int32.toInt hv5627
        have x5628 := HI.eqI hI5619 (p := 231) (b := 17) (hv5627)
        obtain ⟨v5629, hv5629⟩ : ∃ v, gI g5618 231 23 = v := ⟨_, rfl⟩
        have rv5629 := RgF.at hI5619.2.1 (p := 231) (b := 23) rfl
        rw [hv5629] at rv5629
        dsimp only at rv5629
        have tv5629 := congrArg Int32.toInt hv5629
        have x5630 := HI.eqI hI5619 (p := 231) (b := 23) (hv5629)
        have y5631 : (gI _ 231 23).toInt ≤ (gI _ 231 23).toInt := hr5622.1
        have y5632 : (gI _ 231 17).toInt + (gI _ 231 23).toInt ≤ (gI _ 231 17).toInt + (gI _ 231 23).toInt := hr5622.2.1
        refine At.enter rfl ?_
        refine r_vret ?_
        have x5633 := HI.eqI hI5619 (p := 231) (b := 8) ((((hF5620.1 231 8 (by decide)).trans (hF5539.1 231 8 (by decide))).trans hv1))
        have x5634 := HI.eqI hI5619 (p := 231) (b := 9) (((hF5620.1 231 9 (by decide)).trans e5543))
        have x5635 := HI.eqI hI5619 (p := 231) (b := 10) (((hF5620.1 231 10 (by decide)).trans hv5573))
        have x5636 := HI.eqI hI5619 (p := 231) (b := 11) (((hF5620.1 231 11 (by decide)).trans hv5575))
        have x5637 := HI.eqJ hI5619 (b := 12) (((hF5620.2.2 231 12 (by decide)).trans hv5577))
        have x5638 := HI.eqI hI5619 (p := 231) (b := 14) (((hF5620.1 231 14 (by decide)).trans e5544))
        have x5639 := HI.eqI hI5619 (p := 231) (b := 17) (hv5627)
        have x5640 := HI.eqI hI5619 (p := 231) (b := 23) (hv5629)
        have x5641 := HI.eqI hI0 (p := 231) (b := 9) (hv2)
        have x5642 := HI.eqI hI0 (p := 231) (b := 17) (hv7)
        have w265643 := W26.cong q5556 hI5619 ((hF5620.1 231 9 (by decide))) ((hF5620.1 231 10 (by decide))) ((hF5620.1 231 11 (by decide))) ((hF5620.2.2 231 12 (by decide)))
        exact ⟨_, rfl, hI5619, hF5623, rfl, ⟨by omega, by omega, by omega, by omega, w265643, by omega, (fun hbad => ⟨by have y := (q5557 (by omega)).1; omega, (EXPR.of ((q5557 (by omega)).2.2.1 (by omega)) ((q5557 (by omega)).2.2.2.2 (by omega)) hr5622 (by omega) (by show 0 ≤ (gI _ 231 23).toInt; omega) (by show (gI _ 231 17).toInt ≤ 400; omega) rfl rfl rfl).2⟩)⟩⟩
      · have c5614_ : x5534.toInt ≠ 4 := en_i_eq_f c5614
        refine At.enter rfl ?_
        refine r_iload_n e5547 ?_
        refine r_ifs 36 rfl (fun c5644 => ?_) (fun c5644 => ?_)
        · have c5644_ : x5534.toInt ≠ 0 := en_k_ne_t c5644
          refine At.enter rfl ?_
          refine r_iload_n e5547 ?_
          refine r_iconst 1 rfl ?_
          refine r_ics 48 rfl (fun c5645 => ?_) (fun c5645 => ?_)
          · have c5645_ : x5534.toInt ≠ 1 := en_i_ne_t c5645
            refine At.enter rfl ?_
            refine r_iload_n e5547 ?_
            refine r_iconst 3 rfl ?_
            refine r_ics 60 rfl (fun c5646 => ?_) (fun c5646 => ?_)
            · have c5646_ : x5534.toInt ≠ 3 := en_i_ne_t c5646
              refine At.enter rfl ?_
              refine r_aload_n e5545 ?_
              have x5647 := HI.eqI hI5538 (p := 231) (b := 8) (((hF5539.1 231 8 (by decide)).trans hv1))
              have x5648 := HI.eqI hI5538 (p := 231) (b := 9) (e5543)
              have x5649 := HI.eqI hI5538 (p := 231) (b := 10) (hv5573)
              have x5650 := HI.eqI hI5538 (p := 231) (b := 11) (hv5575)
              have x5651 := HI.eqJ hI5538 (b := 12) (hv5577)
              have x5652 := HI.eqI hI5538 (p := 231) (b := 14) (e5544)
              have x5653 := HI.eqI hI5538 (p := 231) (b := 17) (hv5580)
              have x5654 := HI.eqI hI5538 (p := 231) (b := 23) (hv5582)
              have y5655 := (q5557 (by omega)).1
              refine r_callV 72 rfl [.ref 231] [] (Nat.le_of_ble_eq_true rfl) rfl (T_X11_behindTest_231 _ hI5538 (gI g0 231 17).toInt (pE g0 238) (pE g0 239) (by refine ⟨?_, ?_, ?_, ?_⟩ <;> omega) (by omega) (by omega) q5556 (PT.eq (q5557 (by omega)).2 (by omega))) ?_
              rintro _ _ ⟨g5656, rfl, hI5657, hF5658, v5659, rfl, hr5660⟩
              refine At.sti ?_
              have hF5661 := Fr.tr hF5539 hF5658 rfl rfl
              have x5662 := HI.eqI hI5538 (p := 231) (b := 9) (e5543)
              have x5663 := HI.eqI hI5657 (p := 231) (b := 8) ((((hF5658.1 231 8 (by decide)).trans (hF5539.1 231 8 (by decide))).trans hv1))
              obtain ⟨v5664, hv5664⟩ : ∃ v, gI g5656 231 9 = v := ⟨_, rfl⟩
              have rv5664 := RgF.at hI5657.2.1 (p := 231) (b := 9) rfl
              rw [hv5664] at rv5664
              dsimp only at rv5664
              have tv5664 := congrArg Int32.toInt hv5664
              have x5665 := HI.eqI hI5657 (p := 231) (b := 9) (hv5664)
              obtain ⟨v5666, hv5666⟩ : ∃ v, gI g5656 231 10 = v := ⟨_, rfl⟩
              have rv5666 := RgF.at hI5657.2.1 (p := 231) (b := 10) rfl
              rw [hv5666] at rv5666
              dsimp only at rv5666
              have tv5666 := congrArg Int32.toInt hv5666
              have x5667 := HI.eqI hI5657 (p := 231) (b := 10) (hv5666)
              obtain ⟨v5668, hv5668⟩ : ∃ v, gI g5656 231 11 = v := ⟨_, rfl⟩
              have tv5668 := congrArg Int32.toInt hv5668
              have x5669 := HI.eqI hI5657 (p := 231) (b := 11) (hv5668)
              obtain ⟨v5670, hv5670⟩ : ∃ v, gJ g5656 231 12 = v := ⟨_, rfl⟩
              have x5671 := HI.eqJ hI5657 (b := 12) (hv5670)
              obtain ⟨v5672, hv5672⟩ : ∃ v, gI g5656 231 14 = v := ⟨_, rfl⟩
              have tv5672 := congrArg Int32.toInt hv5672
              have x5673 := HI.eqI hI5657 (p := 231) (b := 14) (hv5672)
              obtain ⟨v5674, hv5674⟩ : ∃ v, gI g5656 231 17 = v := ⟨_, rfl⟩
              have rv5674 := RgF.at hI5657.2.1 (p := 231) (b := 17) rfl
              rw [hv5674] at rv5674
              dsimp only at rv5674
              have tv5674 := congrArg Int32.toInt hv5674
              have x5675 := HI.eqI hI5657 (p := 231) (b := 17) (hv5674)
              obtain ⟨v5676, hv5676⟩ : ∃ v, gI g5656 231 23 = v := ⟨_, rfl⟩
              have rv5676 := RgF.at hI5657.2.1 (p := 231) (b := 23) rfl
              rw [hv5676] at rv5676
              dsimp only at rv5676
              have tv5676 := congrArg Int32.toInt hv5676
              have x5677 := HI.eqI hI5657 (p := 231) (b := 23) (hv5676)
              obtain ⟨c5678, c5679, c5680, c5681, c5682, c5683, c5684, c5685, c5686⟩ := hr5660.2
              refine At.enter rfl ?_
              refine r_istore_n _ rfl ?_
              refine r_goto ?_
              have w5687 := tw_s x5534.toInt
              have w5688 := bw_s x5536.toInt
              have w5689 := tw_s v5659.toInt
              have w5690 := bw_s v5672.toInt
              have x5691 := HI.eqI hI5657 (p := 231) (b := 8) ((((hF5658.1 231 8 (by decide)).trans (hF5539.1 231 8 (by decide))).trans hv1))
              have x5692 := HI.eqI hI5657 (p := 231) (b := 9) (hv5664)
              have x5693 := HI.eqI hI5657 (p := 231) (b := 10) (hv5666)
              have x5694 := HI.eqI hI5657 (p := 231) (b := 11) (hv5668)
              have x5695 := HI.eqJ hI5657 (b := 12) (hv5670)
              have x5696 := HI.eqI hI5657 (p := 231) (b := 14) (hv5672)
              have x5697 := HI.eqI hI5657 (p := 231) (b := 17) (hv5674)
              have x5698 := HI.eqI hI5657 (p := 231) (b := 23) (hv5676)
              have y5699 := c5686
              unfold PRG at y5699
              have bv5700 := q_bnd v5672
              exact ih5542 (5 * (400 - v5664.toInt) + tw (v5659.toInt) + 10 * bw (v5672.toInt)) _ _ ⟨v5659, v5664, v5672, by first | rfl | omega, hI5657, hF5661, hv5664, hv5672, (w_p1 (by decide) (Or.inr rfl) e5545), (w_p1 (by decide) (Or.inr rfl) e5546), (w_e1 _ _ _), by omega, by omega, by omega, by omega, by omega, by omega, by omega, by omega, c5682, c5685⟩ ⟨by omega, by omega⟩
            · have c5646_ : x5534.toInt = 3 := en_i_ne_f c5646
              refine At.enter rfl ?_
              refine r_aload_n e5545 ?_
              refine r_iload_n e5546 ?_
              have x5701 := HI.eqI hI5538 (p := 231) (b := 8) (((hF5539.1 231 8 (by decide)).trans hv1))
              have x5702 := HI.eqI hI5538 (p := 231) (b := 9) (e5543)
              have x5703 := HI.eqI hI5538 (p := 231) (b := 10) (hv5573)
              have x5704 := HI.eqI hI5538 (p := 231) (b := 11) (hv5575)
              have x5705 := HI.eqJ hI5538 (b := 12) (hv5577)
              have x5706 := HI.eqI hI5538 (p := 231) (b := 14) (e5544)
              have x5707 := HI.eqI hI5538 (p := 231) (b := 17) (hv5580)
              have x5708 := HI.eqI hI5538 (p := 231) (b := 23) (hv5582)
              have y5709 := (q5557 (by omega)).1
              refine r_callV 65 rfl [.ref 231, .int a1] [] (Nat.le_of_ble_eq_true rfl) rfl (T_X11_behindSum_231 _ hI5538 a1 (by omega) (gI g0 231 17).toInt (pE g0 238) (pE g0 239) (by refine ⟨?_, ?_, ?_, ?_⟩ <;> omega) (by omega) (by omega) q5556 (PT.eq (q5557 (by omega)).2 (by omega))) ?_
              rintro _ _ ⟨g5710, rfl, hI5711, hF5712, v5713, rfl, hr5714⟩
              refine At.sti ?_
              have hF5715 := Fr.tr hF5539 hF5712 rfl rfl
              have x5716 := HI.eqI hI5538 (p := 231) (b := 9) (e5543)
              have x5717 := HI.eqI hI5711 (p := 231) (b := 8) ((((hF5712.1 231 8 (by decide)).trans (hF5539.1 231 8 (by decide))).trans hv1))
              obtain ⟨v5718, hv5718⟩ : ∃ v, gI g5710 231 9 = v := ⟨_, rfl⟩
              have rv5718 := RgF.at hI5711.2.1 (p := 231) (b := 9) rfl
              rw [hv5718] at rv5718
              dsimp only at rv5718
              have tv5718 := congrArg Int32.toInt hv5718
              have x5719 := HI.eqI hI5711 (p := 231) (b := 9) (hv5718)
              obtain ⟨v5720, hv5720⟩ : ∃ v, gI g5710 231 10 = v := ⟨_, rfl⟩
              have rv5720 := RgF.at hI5711.2.1 (p := 231) (b := 10) rfl
              rw [hv5720] at rv5720
              dsimp only at rv5720
              have tv5720 := congrArg Int32.toInt hv5720
              have x5721 := HI.eqI hI5711 (p := 231) (b := 10) (hv5720)
              obtain ⟨v5722, hv5722⟩ : ∃ v, gI g5710 231 11 = v := ⟨_, rfl⟩
              have tv5722 := congrArg Int32.toInt hv5722
              have x5723 := HI.eqI hI5711 (p := 231) (b := 11) (hv5722)
              obtain ⟨v5724, hv5724⟩ : ∃ v, gJ g5710 231 12 = v := ⟨_, rfl⟩
              have x5725 := HI.eqJ hI5711 (b := 12) (hv5724)
              obtain ⟨v5726, hv5726⟩ : ∃ v, gI g5710 231 14 = v := ⟨_, rfl⟩
              have tv5726 := congrArg Int32.toInt hv5726
              have x5727 := HI.eqI hI5711 (p := 231) (b := 14) (hv5726)
              obtain ⟨v5728, hv5728⟩ : ∃ v, gI g5710 231 17 = v := ⟨_, rfl⟩
              have rv5728 := RgF.at hI5711.2.1 (p := 231) (b := 17) rfl
              rw [hv5728] at rv5728
              dsimp only at rv5728
              have tv5728 := congrArg Int32.toInt hv5728
              have x5729 := HI.eqI hI5711 (p := 231) (b := 17) (hv5728)
              obtain ⟨v5730, hv5730⟩ : ∃ v, gI g5710 231 23 = v := ⟨_, rfl⟩
              have rv5730 := RgF.at hI5711.2.1 (p := 231) (b := 23) rfl
              rw [hv5730] at rv5730
              dsimp only at rv5730
              have tv5730 := congrArg Int32.toInt hv5730
              have x5731 := HI.eqI hI5711 (p := 231) (b := 23) (hv5730)
              obtain ⟨c5732, c5733, c5734, c5735, c5736, c5737, c5738, c5739, c5740⟩ := hr5714.2
              refine At.enter rfl ?_
              refine r_goto ?_
              refine At.enter rfl ?_
              refine r_istore_n _ rfl ?_
              refine r_goto ?_
              have w5741 := tw_s x5534.toInt
              have w5742 := bw_s x5536.toInt
              have w5743 := tw_s v5713.toInt
              have w5744 := bw_s v5726.toInt
              have x5745 := HI.eqI hI5711 (p := 231) (b := 8) ((((hF5712.1 231 8 (by decide)).trans (hF5539.1 231 8 (by decide))).trans hv1))
              have x5746 := HI.eqI hI5711 (p := 231) (b := 9) (hv5718)
              have x5747 := HI.eqI hI5711 (p := 231) (b := 10) (hv5720)
              have x5748 := HI.eqI hI5711 (p := 231) (b := 11) (hv5722)
              have x5749 := HI.eqJ hI5711 (b := 12) (hv5724)
              have x5750 := HI.eqI hI5711 (p := 231) (b := 14) (hv5726)
              have x5751 := HI.eqI hI5711 (p := 231) (b := 17) (hv5728)
              have x5752 := HI.eqI hI5711 (p := 231) (b := 23) (hv5730)
              have y5753 := c5740
              unfold PRG at y5753
              have bv5754 := q_bnd v5726
              exact ih5542 (5 * (400 - v5718.toInt) + tw (v5713.toInt) + 10 * bw (v5726.toInt)) _ _ ⟨v5713, v5718, v5726, by first | rfl | omega, hI5711, hF5715, hv5718, hv5726, (w_p1 (by decide) (Or.inr rfl) e5545), (w_p1 (by decide) (Or.inr rfl) e5546), (w_e1 _ _ _), by omega, by omega, by omega, by omega, by omega, by omega, by omega, by omega, c5736, c5739⟩ ⟨by omega, by omega⟩
          · have c5645_ : x5534.toInt = 1 := en_i_ne_f c5645
            refine At.enter rfl ?_
            refine r_aload_n e5545 ?_
            have x5755 := HI.eqI hI5538 (p := 231) (b := 8) (((hF5539.1 231 8 (by decide)).trans hv1))
            have x5756 := HI.eqI hI5538 (p := 231) (b := 9) (e5543)
            have x5757 := HI.eqI hI5538 (p := 231) (b := 10) (hv5573)
            have x5758 := HI.eqI hI5538 (p := 231) (b := 11) (hv5575)
            have x5759 := HI.eqJ hI5538 (b := 12) (hv5577)
            have x5760 := HI.eqI hI5538 (p := 231) (b := 14) (e5544)
            have x5761 := HI.eqI hI5538 (p := 231) (b := 17) (hv5580)
            have x5762 := HI.eqI hI5538 (p := 231) (b := 23) (hv5582)
            have y5763 := (q5557 (by omega)).1
            refine r_callV 52 rfl [.ref 231] [] (Nat.le_of_ble_eq_true rfl) rfl (T_X11_readPart_231 _ hI5538 (gI g0 231 17).toInt (pE g0 238) (pE g0 239) (by refine ⟨?_, ?_, ?_, ?_⟩ <;> omega) (by omega) (by omega) q5556 (PT.eq (q5557 (by omega)).2 (by omega))) ?_
            rintro _ _ ⟨g5764, rfl, hI5765, hF5766, v5767, rfl, hr5768⟩
            refine At.sti ?_
            have hF5769 := Fr.tr hF5539 hF5766 rfl rfl
            have x5770 := HI.eqI hI5538 (p := 231) (b := 9) (e5543)
            have x5771 := HI.eqI hI5765 (p := 231) (b := 8) ((((hF5766.1 231 8 (by decide)).trans (hF5539.1 231 8 (by decide))).trans hv1))
            obtain ⟨v5772, hv5772⟩ : ∃ v, gI g5764 231 9 = v := ⟨_, rfl⟩
            have rv5772 := RgF.at hI5765.2.1 (p := 231) (b := 9) rfl
            rw [hv5772] at rv5772
            dsimp only at rv5772
            have tv5772 := congrArg Int32.toInt hv5772
            have x5773 := HI.eqI hI5765 (p := 231) (b := 9) (hv5772)
            obtain ⟨v5774, hv5774⟩ : ∃ v, gI g5764 231 10 = v := ⟨_, rfl⟩
            have rv5774 := RgF.at hI5765.2.1 (p := 231) (b := 10) rfl
            rw [hv5774] at rv5774
            dsimp only at rv5774
            have tv5774 := congrArg Int32.toInt hv5774
            have x5775 := HI.eqI hI5765 (p := 231) (b := 10) (hv5774)
            obtain ⟨v5776, hv5776⟩ : ∃ v, gI g5764 231 11 = v := ⟨_, rfl⟩
            have tv5776 := congrArg Int32.toInt hv5776
            have x5777 := HI.eqI hI5765 (p := 231) (b := 11) (hv5776)
            obtain ⟨v5778, hv5778⟩ : ∃ v, gJ g5764 231 12 = v := ⟨_, rfl⟩
            have x5779 := HI.eqJ hI5765 (b := 12) (hv5778)
            obtain ⟨v5780, hv5780⟩ : ∃ v, gI g5764 231 14 = v := ⟨_, rfl⟩
            have tv5780 := congrArg Int32.toInt hv5780
            have x5781 := HI.eqI hI5765 (p := 231) (b := 14) (hv5780)
            obtain ⟨v5782, hv5782⟩ : ∃ v, gI g5764 231 17 = v := ⟨_, rfl⟩
            have rv5782 := RgF.at hI5765.2.1 (p := 231) (b := 17) rfl
            rw [hv5782] at rv5782
            dsimp only at rv5782
            have tv5782 := congrArg Int32.toInt hv5782
            have x5783 := HI.eqI hI5765 (p := 231) (b := 17) (hv5782)
            obtain ⟨v5784, hv5784⟩ : ∃ v, gI g5764 231 23 = v := ⟨_, rfl⟩
            have rv5784 := RgF.at hI5765.2.1 (p := 231) (b := 23) rfl
            rw [hv5784] at rv5784
            dsimp only at rv5784
            have tv5784 := congrArg Int32.toInt hv5784
            have x5785 := HI.eqI hI5765 (p := 231) (b := 23) (hv5784)
            obtain ⟨c5786, c5787, c5788, c5789, c5790, c5791, c5792, c5793, c5794⟩ := hr5768.2
            refine At.enter rfl ?_
            refine r_goto ?_
            refine At.enter rfl ?_
            refine r_istore_n _ rfl ?_
            refine r_goto ?_
            have w5795 := tw_s x5534.toInt
            have w5796 := bw_s x5536.toInt
            have w5797 := tw_s v5767.toInt
            have w5798 := bw_s v5780.toInt
            have x5799 := HI.eqI hI5765 (p := 231) (b := 8) ((((hF5766.1 231 8 (by decide)).trans (hF5539.1 231 8 (by decide))).trans hv1))
            have x5800 := HI.eqI hI5765 (p := 231) (b := 9) (hv5772)
            have x5801 := HI.eqI hI5765 (p := 231) (b := 10) (hv5774)
            have x5802 := HI.eqI hI5765 (p := 231) (b := 11) (hv5776)
            have x5803 := HI.eqJ hI5765 (b := 12) (hv5778)
            have x5804 := HI.eqI hI5765 (p := 231) (b := 14) (hv5780)
            have x5805 := HI.eqI hI5765 (p := 231) (b := 17) (hv5782)
            have x5806 := HI.eqI hI5765 (p := 231) (b := 23) (hv5784)
            have y5807 := c5794
            unfold PRG at y5807
            have bv5808 := q_bnd v5780
            exact ih5542 (5 * (400 - v5772.toInt) + tw (v5767.toInt) + 10 * bw (v5780.toInt)) _ _ ⟨v5767, v5772, v5780, by first | rfl | omega, hI5765, hF5769, hv5772, hv5780, (w_p1 (by decide) (Or.inr rfl) e5545), (w_p1 (by decide) (Or.inr rfl) e5546), (w_e1 _ _ _), by omega, by omega, by omega, by omega, by omega, by omega, by omega, by omega, c5790, c5793⟩ ⟨by omega, by omega⟩
        · have c5644_ : x5534.toInt = 0 := en_k_ne_f c5644
          refine At.enter rfl ?_
          refine r_aload_n e5545 ?_
          have x5809 := HI.eqI hI5538 (p := 231) (b := 8) (((hF5539.1 231 8 (by decide)).trans hv1))
          have x5810 := HI.eqI hI5538 (p := 231) (b := 9) (e5543)
          have x5811 := HI.eqI hI5538 (p := 231) (b := 10) (hv5573)
          have x5812 := HI.eqI hI5538 (p := 231) (b := 11) (hv5575)
          have x5813 := HI.eqJ hI5538 (b := 12) (hv5577)
          have x5814 := HI.eqI hI5538 (p := 231) (b := 14) (e5544)
          have x5815 := HI.eqI hI5538 (p := 231) (b := 17) (hv5580)
          have x5816 := HI.eqI hI5538 (p := 231) (b := 23) (hv5582)
          have y5817 := (q5557 (by omega)).1
          refine r_callV 40 rfl [.ref 231] [] (Nat.le_of_ble_eq_true rfl) rfl (T_X11_readPlain_231 _ hI5538 (gI g0 231 17).toInt (pE g0 238) (pE g0 239) (by refine ⟨?_, ?_, ?_, ?_⟩ <;> omega) (by omega) (by omega) q5556 (PT.eq (q5557 (by omega)).2 (by omega))) ?_
          rintro _ _ ⟨g5818, rfl, hI5819, hF5820, v5821, rfl, hr5822⟩
          refine At.sti ?_
          have hF5823 := Fr.tr hF5539 hF5820 rfl rfl
          have x5824 := HI.eqI hI5538 (p := 231) (b := 9) (e5543)
          have x5825 := HI.eqI hI5819 (p := 231) (b := 8) ((((hF5820.1 231 8 (by decide)).trans (hF5539.1 231 8 (by decide))).trans hv1))
          obtain ⟨v5826, hv5826⟩ : ∃ v, gI g5818 231 9 = v := ⟨_, rfl⟩
          have rv5826 := RgF.at hI5819.2.1 (p := 231) (b := 9) rfl
          rw [hv5826] at rv5826
          dsimp only at rv5826
          have tv5826 := congrArg Int32.toInt hv5826
          have x5827 := HI.eqI hI5819 (p := 231) (b := 9) (hv5826)
          obtain ⟨v5828, hv5828⟩ : ∃ v, gI g5818 231 10 = v := ⟨_, rfl⟩
          have rv5828 := RgF.at hI5819.2.1 (p := 231) (b := 10) rfl
          rw [hv5828] at rv5828
          dsimp only at rv5828
          have tv5828 := congrArg Int32.toInt hv5828
          have x5829 := HI.eqI hI5819 (p := 231) (b := 10) (hv5828)
          obtain ⟨v5830, hv5830⟩ : ∃ v, gI g5818 231 11 = v := ⟨_, rfl⟩
          have tv5830 := congrArg Int32.toInt hv5830
          have x5831 := HI.eqI hI5819 (p := 231) (b := 11) (hv5830)
          obtain ⟨v5832, hv5832⟩ : ∃ v, gJ g5818 231 12 = v := ⟨_, rfl⟩
          have x5833 := HI.eqJ hI5819 (b := 12) (hv5832)
          obtain ⟨v5834, hv5834⟩ : ∃ v, gI g5818 231 14 = v := ⟨_, rfl⟩
          have tv5834 := congrArg Int32.toInt hv5834
          have x5835 := HI.eqI hI5819 (p := 231) (b := 14) (hv5834)
          obtain ⟨v5836, hv5836⟩ : ∃ v, gI g5818 231 17 = v := ⟨_, rfl⟩
          have rv5836 := RgF.at hI5819.2.1 (p := 231) (b := 17) rfl
          rw [hv5836] at rv5836
          dsimp only at rv5836
          have tv5836 := congrArg Int32.toInt hv5836
          have x5837 := HI.eqI hI5819 (p := 231) (b := 17) (hv5836)
          obtain ⟨v5838, hv5838⟩ : ∃ v, gI g5818 231 23 = v := ⟨_, rfl⟩
          have rv5838 := RgF.at hI5819.2.1 (p := 231) (b := 23) rfl
          rw [hv5838] at rv5838
          dsimp only at rv5838
          have tv5838 := congrArg Int32.toInt hv5838
          have x5839 := HI.eqI hI5819 (p := 231) (b := 23) (hv5838)
          obtain ⟨c5840, c5841, c5842, c5843, c5844, c5845, c5846, c5847, c5848⟩ := hr5822.2
          refine At.enter rfl ?_
          refine r_goto ?_
          refine At.enter rfl ?_
          refine r_istore_n _ rfl ?_
          refine r_goto ?_
          have w5849 := tw_s x5534.toInt
          have w5850 := bw_s x5536.toInt
          have w5851 := tw_s v5821.toInt
          have w5852 := bw_s v5834.toInt
          have x5853 := HI.eqI hI5819 (p := 231) (b := 8) ((((hF5820.1 231 8 (by decide)).trans (hF5539.1 231 8 (by decide))).trans hv1))
          have x5854 := HI.eqI hI5819 (p := 231) (b := 9) (hv5826)
          have x5855 := HI.eqI hI5819 (p := 231) (b := 10) (hv5828)
          have x5856 := HI.eqI hI5819 (p := 231) (b := 11) (hv5830)
          have x5857 := HI.eqJ hI5819 (b := 12) (hv5832)
          have x5858 := HI.eqI hI5819 (p := 231) (b := 14) (hv5834)
          have x5859 := HI.eqI hI5819 (p := 231) (b := 17) (hv5836)
          have x5860 := HI.eqI hI5819 (p := 231) (b := 23) (hv5838)
          have y5861 := c5848
          unfold PRG at y5861
          have bv5862 := q_bnd v5834
          exact ih5542 (5 * (400 - v5826.toInt) + tw (v5821.toInt) + 10 * bw (v5834.toInt)) _ _ ⟨v5821, v5826, v5834, by first | rfl | omega, hI5819, hF5823, hv5826, hv5834, (w_p1 (by decide) (Or.inr rfl) e5545), (w_p1 (by decide) (Or.inr rfl) e5546), (w_e1 _ _ _), by omega, by omega, by omega, by omega, by omega, by omega, by omega, by omega, c5844, c5847⟩ ⟨by omega, by omega⟩
