def F_X11_behindTest_231 : List (Nat × Nat) := [(231, 9), (231, 10), (231, 11), (231, 12), (231, 13), (231, 14), (231, 17), (231, 23), (231, 24)]
def A_X11_behindTest_231 : List Nat := [238, 239, 240, 241]
set_option maxRecDepth 100000 in
set_option maxHeartbeats 4000000 in
theorem T_X11_behindTest_231 (d : Nat) {N : Nat} {g0 : List en_E} (hI0 : HI g0) (b : Int) (o0 : Int → Int) (a0 : Int → Int) (h1 : ((gI g0 231 9).toInt ≤ (gI g0 231 10).toInt ∧ (gI g0 231 10).toInt ≤ (gI g0 231 8).toInt ∧ 0 ≤ (gI g0 231 11).toInt ∧ (gI g0 231 11).toInt ≤ 3 * ((gI g0 231 10).toInt - (gI g0 231 9).toInt))) (h2 : (gI g0 231 14).toInt = 0) (h3 : (gI g0 231 17).toInt + (gI g0 231 23).toInt ≤ (gI g0 231 9).toInt) (hW : W26 g0) (hP : PT g0 b 2 o0 a0) : Ev (d + 4) 207 [.ref 231] (g0, N) (fun w h' => ∃ g', h' = (g', N) ∧ HI g' ∧ Fr F_X11_behindTest_231 A_X11_behindTest_231 g0 g' ∧ ∃ r : Int32, w = some (.int r) ∧ (0 ≤ r.toInt ∧ r.toInt ≤ 4) ∧ ((gI g' 231 9).toInt ≤ (gI g' 231 10).toInt ∧ (gI g' 231 10).toInt ≤ (gI g' 231 8).toInt ∧ 0 ≤ (gI g' 231 11).toInt ∧ (gI g' 231 11).toInt ≤ 3 * ((gI g' 231 10).toInt - (gI g' 231 9).toInt) ∧ W26 g' ∧ (gI g' 231 17).toInt + (gI g' 231 23).toInt ≤ 400 ∧ (gI g0 231 9).toInt ≤ (gI g' 231 9).toInt ∧ TURN g' b r.toInt o0 a0 ∧ PRG (gI g' 231 14).toInt (gI g0 231 9).toInt (gI g' 231 9).toInt r.toInt 4)) := by
  have hF0 : Fr F_X11_behindTest_231 A_X11_behindTest_231 g0 g0 := Fr.rf
  obtain ⟨v1, hv1⟩ : ∃ v, gI g0 231 8 = v := ⟨_, rfl⟩
  have rv1 := RgF.at hI0.2.1 (p := 231) (b := 8) rfl
  rw [hv1] at rv1
  dsimp only at rv1
  have tv1 := congrArg Int32.toInt hv1
  obtain ⟨v2, hv2⟩ : ∃ v, gI g0 231 9 = v := ⟨_, rfl⟩
  have rv2 := RgF.at hI0.2.1 (p := 231) (b := 9) rfl
  rw [hv2] at rv2
  dsimp only at rv2
  have tv2 := congrArg Int32.toInt hv2
  obtain ⟨v3, hv3⟩ : ∃ v, gI g0 231 10 = v := ⟨_, rfl⟩
  have rv3 := RgF.at hI0.2.1 (p := 231) (b := 10) rfl
  rw [hv3] at rv3
  dsimp only at rv3
  have tv3 := congrArg Int32.toInt hv3
  obtain ⟨v4, hv4⟩ : ∃ v, gI g0 231 11 = v := ⟨_, rfl⟩
  have tv4 := congrArg Int32.toInt hv4
  obtain ⟨v5, hv5⟩ : ∃ v, gJ g0 231 12 = v := ⟨_, rfl⟩
  have tv5 := congrArg Int64.toInt hv5
  obtain ⟨v6, hv6⟩ : ∃ v, gI g0 231 14 = v := ⟨_, rfl⟩
  have tv6 := congrArg Int32.toInt hv6
  obtain ⟨v7, hv7⟩ : ∃ v, gI g0 231 17 = v := ⟨_, rfl⟩
  have rv7 := RgF.at hI0.2.1 (p := 231) (b := 17) rfl
  rw [hv7] at rv7
  dsimp only at rv7
  have tv7 := congrArg Int32.toInt hv7
  obtain ⟨v8, hv8⟩ : ∃ v, gI g0 231 23 = v := ⟨_, rfl⟩
  have rv8 := RgF.at hI0.2.1 (p := 231) (b := 23) rfl
  rw [hv8] at rv8
  dsimp only at rv8
  have tv8 := congrArg Int32.toInt hv8
  refine Ev.mk rfl rfl ⟨Nat.le_of_ble_eq_true rfl, Or.inr (q_rc hI0.1 kx_231 rfl)⟩ ?_
  show At _ none _ _ (0, [(0, .ref 231)], [], (_, _)) _
  refine At.enter rfl ?_
  refine r_aload_n rfl ?_
  refine r_ldc2 1476 rfl ?_
  have x609 := HI.eqI hI0 (p := 231) (b := 11) (hv4)
  have zv610 : (1476 : Int64).toInt = 1476 := rfl
  refine r_callV 7 rfl [.ref 231, .long 1476] [] (Nat.le_of_ble_eq_true rfl) rfl (T_X11_isWord_231 _ hI0 1476 (by omega)) ?_
  rintro _ _ ⟨g611, rfl, hI612, hF613, v614, rfl, hr615⟩
  refine At.sti ?_
  have hF616 := Fr.tr hF0 hF613 rfl rfl
  have zv617 : (1476 : Int64).toInt = 1476 := rfl
  have x618 := HI.eqI hI0 (p := 231) (b := 9) (hv2)
  have x619 := HI.eqI hI0 (p := 231) (b := 10) (hv3)
  have x620 := HI.eqI hI0 (p := 231) (b := 11) (hv4)
  have x621 := HI.eqI hI612 (p := 231) (b := 9) (((hF613.1 231 9 (by decide)).trans hv2))
  have x622 := HI.eqI hI612 (p := 231) (b := 10) (((hF613.1 231 10 (by decide)).trans hv3))
  have x623 := HI.eqI hI612 (p := 231) (b := 11) (((hF613.1 231 11 (by decide)).trans hv4))
  obtain ⟨c626, c624, isw625⟩ := hr615
  refine At.enter rfl ?_
  refine r_istore_n ([(1, .int v614), (0, .ref 231)]) rfl ?_
  refine r_iload_n rfl ?_
  refine r_ifs 12 rfl (fun c627 => ?_) (fun c627 => ?_)
  · have c627_ : v614.toInt ≠ 0 := en_k_ne_t c627
    have i628 := W26.two hW isw625 (by omega) (by decide)
    refine At.enter rfl ?_
    refine r_aload_n rfl ?_
    refine r_iload_n rfl ?_
    refine r_ifs 27 rfl (fun c629 => ?_) (fun c629 => ?_)
    · have c629_ : v614.toInt = 0 := en_k_eq_t c629
      exfalso; omega
    · have c629_ : v614.toInt ≠ 0 := en_k_eq_f c629
      have i630 := W26.two hW isw625 (by omega) (by decide)
      refine At.enter rfl ?_
      refine r_iconst 2 rfl ?_
      refine r_goto ?_
      refine At.enter rfl ?_
      have x631 := HI.eqI hI612 (p := 231) (b := 17) (((hF613.1 231 17 (by decide)).trans hv7))
      have x632 := HI.eqI hI612 (p := 231) (b := 23) (((hF613.1 231 23 (by decide)).trans hv8))
      have zv633 : (2 : Int32).toInt = 2 := rfl
      refine r_callV 35 rfl [.ref 231, .int 2] [] (Nat.le_of_ble_eq_true rfl) rfl (T_X11_settle_231 _ hI612 2 (by decide) (by omega)) ?_
      rintro _ _ ⟨g634, rfl, hI635, hF636, rfl, hr638⟩
      refine At.stn ?_
      have hF639 := Fr.tr hF616 hF636 rfl rfl
      have zv640 : (2 : Int32).toInt = 2 := rfl
      have x641 := HI.eqI hI612 (p := 231) (b := 17) (((hF613.1 231 17 (by decide)).trans hv7))
      have x642 := HI.eqI hI612 (p := 231) (b := 23) (((hF613.1 231 23 (by decide)).trans hv8))
      obtain ⟨v643, hv643⟩ : ∃ v, gI g634 231 17 = v := ⟨_, rfl⟩
      have rv643 := RgF.at hI635.2.1 (p := 231) (b := 17) rfl
      rw [hv643] at rv643
      dsimp only at rv643
      have tv643 := congrArg Int32.toInt hv643
      have x644 := HI.eqI hI635 (p := 231) (b := 17) (hv643)
      obtain ⟨v645, hv645⟩ : ∃ v, gI g634 231 23 = v := ⟨_, rfl⟩
      have rv645 := RgF.at hI635.2.1 (p := 231) (b := 23) rfl
      rw [hv645] at rv645
      dsimp only at rv645
      have tv645 := congrArg Int32.toInt hv645
      have x646 := HI.eqI hI635 (p := 231) (b := 23) (hv645)
      have y647 : (gI _ 231 23).toInt ≤ (gI _ 231 23).toInt := hr638.1
      have y648 : (gI _ 231 17).toInt + (gI _ 231 23).toInt ≤ (gI _ 231 17).toInt + (gI _ 231 23).toInt := hr638.2.1
      have nsq649 := NSQ.cong (hP.2.2.1 (by decide) (by decide)) hI612 ((hF613.2.1 240 (by decide))) ((hF613.1 231 23 (by decide)))
      have pg650 := PG.cong (hP.2.1 (by decide)) hI612 ((hF613.2.1 238 (by decide))) ((hF613.2.1 239 (by decide))) ((hF613.2.1 240 (by decide))) ((hF613.2.1 241 (by decide))) ((hF613.1 231 17 (by decide))) ((hF613.1 231 23 (by decide)))
      have pg651 := hr638.2.2.1 _ _ _ pg650
      have nsq652 := NSQ.le nsq649 hI635 hr638.2.2.2.2.1 hr638.1
      refine At.enter rfl ?_
      refine r_aload_n rfl ?_
      refine r_iload_n rfl ?_
      refine r_ifs 40 rfl (fun c653 => ?_) (fun c653 => ?_)
      · have c653_ : v614.toInt = 0 := en_k_eq_t c653
        exfalso; omega
      · have c653_ : v614.toInt ≠ 0 := en_k_eq_f c653
        have i654 := W26.two hW isw625 (by omega) (by decide)
        refine At.enter rfl ?_
        refine r_bipush 28 rfl ?_
        refine r_goto ?_
        refine At.enter rfl ?_
        refine r_aload_n rfl ?_
        refine q_getI (Sh.int hI635.1 kx_231 rfl) v643 hv643 ?_
        have x655 := HI.eqI hI635 (p := 231) (b := 23) (hv645)
        have zv656 : (28 : Int32).toInt = 28 := rfl
        refine r_callV 54 rfl [.ref 231, .int 28, .int v643] [] (Nat.le_of_ble_eq_true rfl) rfl (T_X11_push_231 _ hI635 28 (by decide) v643 (by omega) (by omega)) ?_
        rintro _ _ ⟨g657, rfl, hI658, hF659, rfl, hr661⟩
        refine At.stn ?_
        have hF662 := Fr.tr hF639 hF659 rfl rfl
        have zv663 : (28 : Int32).toInt = 28 := rfl
        have x664 := HI.eqI hI635 (p := 231) (b := 17) (hv643)
        have x665 := HI.eqI hI635 (p := 231) (b := 23) (hv645)
        have x666 := HI.eqI hI658 (p := 231) (b := 17) (((hF659.1 231 17 (by decide)).trans hv643))
        obtain ⟨v667, hv667⟩ : ∃ v, gI g657 231 23 = v := ⟨_, rfl⟩
        have rv667 := RgF.at hI658.2.1 (p := 231) (b := 23) rfl
        rw [hv667] at rv667
        dsimp only at rv667
        have tv667 := congrArg Int32.toInt hv667
        have x668 := HI.eqI hI658 (p := 231) (b := 23) (hv667)
        have y669 : (gI _ 231 23).toInt = (gI _ 231 23).toInt + 1 := hr661.1
        have nsq671 := NSQ.push nsq652 hr661 (by omega)
        refine At.enter rfl ?_
        refine r_aload_n rfl ?_
        refine r_iload_n rfl ?_
        refine r_ifs 59 rfl (fun c672 => ?_) (fun c672 => ?_)
        · have c672_ : v614.toInt = 0 := en_k_eq_t c672
          exfalso; omega
        · have c672_ : v614.toInt ≠ 0 := en_k_eq_f c672
          have i673 := W26.two hW isw625 (by omega) (by decide)
          refine At.enter rfl ?_
          refine r_bipush 28 rfl ?_
          refine r_goto ?_
          refine At.enter rfl ?_
          refine r_iconst 0 rfl ?_
          have x674 := HI.eqI hI658 (p := 231) (b := 17) (((hF659.1 231 17 (by decide)).trans hv643))
          have zv675 : (28 : Int32).toInt = 28 := rfl
          have zv676 : (0 : Int32).toInt = 0 := rfl
          refine r_callV 70 rfl [.ref 231, .int 28, .int 0] [] (Nat.le_of_ble_eq_true rfl) rfl (T_X11_emit_231 _ hI658 28 0 (by omega)) ?_
          rintro _ _ ⟨g677, rfl, hI678, hF679, rfl, hr681⟩
          refine At.stn ?_
          have hF682 := Fr.tr hF662 hF679 rfl rfl
          have zv683 : (28 : Int32).toInt = 28 := rfl
          have zv684 : (0 : Int32).toInt = 0 := rfl
          have x685 := HI.eqI hI658 (p := 231) (b := 17) (((hF659.1 231 17 (by decide)).trans hv643))
          have x686 := HI.eqI hI658 (p := 231) (b := 23) (hv667)
          obtain ⟨v687, hv687⟩ : ∃ v, gI g677 231 17 = v := ⟨_, rfl⟩
          have rv687 := RgF.at hI678.2.1 (p := 231) (b := 17) rfl
          rw [hv687] at rv687
          dsimp only at rv687
          have tv687 := congrArg Int32.toInt hv687
          have x688 := HI.eqI hI678 (p := 231) (b := 17) (hv687)
          have y689 : (gI _ 231 17).toInt = (gI _ 231 17).toInt + 1 := hr681.1
          have pg690 := PG.andor pg651 hr661 (hF659.2.1 238 (by decide)) (hF659.2.1 239 (by decide)) (hF659.1 231 17 (by decide)) hr681 (hF679.2.1 240 (by decide)) (hF679.2.1 241 (by decide)) (hF679.1 231 23 (by decide)) ⟨by omega, by omega⟩ (by show _ = (gI _ 231 17).toInt; omega) nsq652 (by show 0 ≤ (gI _ 231 23).toInt; omega)
          have nsq691 := NSQ.cong nsq671 hI678 ((hF679.2.1 240 (by decide))) ((hF679.1 231 23 (by decide)))
          refine At.enter rfl ?_
          refine r_aload_n rfl ?_
          have x692 := HI.eqI hI678 (p := 231) (b := 8) ((((hF679.1 231 8 (by decide)).trans ((hF659.1 231 8 (by decide)).trans ((hF636.1 231 8 (by decide)).trans (hF613.1 231 8 (by decide))))).trans hv1))
          have x693 := HI.eqI hI678 (p := 231) (b := 10) ((((hF679.1 231 10 (by decide)).trans ((hF659.1 231 10 (by decide)).trans ((hF636.1 231 10 (by decide)).trans (hF613.1 231 10 (by decide))))).trans hv3))
          refine r_callV 74 rfl [.ref 231] [] (Nat.le_of_ble_eq_true rfl) rfl (T_X11_next_231 _ hI678 (by omega)) ?_
          rintro _ _ ⟨g694, rfl, hI695, hF696, rfl, hr698⟩
          refine At.stn ?_
          have hF699 := Fr.tr hF682 hF696 rfl rfl
          have x700 := HI.eqI hI678 (p := 231) (b := 8) ((((hF679.1 231 8 (by decide)).trans ((hF659.1 231 8 (by decide)).trans ((hF636.1 231 8 (by decide)).trans (hF613.1 231 8 (by decide))))).trans hv1))
          have x701 := HI.eqI hI678 (p := 231) (b := 10) ((((hF679.1 231 10 (by decide)).trans ((hF659.1 231 10 (by decide)).trans ((hF636.1 231 10 (by decide)).trans (hF613.1 231 10 (by decide))))).trans hv3))
          have x702 := HI.eqI hI695 (p := 231) (b := 8) ((((hF696.1 231 8 (by decide)).trans ((hF679.1 231 8 (by decide)).trans ((hF659.1 231 8 (by decide)).trans ((hF636.1 231 8 (by decide)).trans (hF613.1 231 8 (by decide)))))).trans hv1))
          obtain ⟨v703, hv703⟩ : ∃ v, gI g694 231 9 = v := ⟨_, rfl⟩
          have rv703 := RgF.at hI695.2.1 (p := 231) (b := 9) rfl
          rw [hv703] at rv703
          dsimp only at rv703
          have tv703 := congrArg Int32.toInt hv703
          have x704 := HI.eqI hI695 (p := 231) (b := 9) (hv703)
          obtain ⟨v705, hv705⟩ : ∃ v, gI g694 231 10 = v := ⟨_, rfl⟩
          have rv705 := RgF.at hI695.2.1 (p := 231) (b := 10) rfl
          rw [hv705] at rv705
          dsimp only at rv705
          have tv705 := congrArg Int32.toInt hv705
          have x706 := HI.eqI hI695 (p := 231) (b := 10) (hv705)
          obtain ⟨v707, hv707⟩ : ∃ v, gI g694 231 11 = v := ⟨_, rfl⟩
          have tv707 := congrArg Int32.toInt hv707
          have x708 := HI.eqI hI695 (p := 231) (b := 11) (hv707)
          obtain ⟨c709, c710, c711, c712, c713, c714⟩ := hr698
          refine At.enter rfl ?_
          refine r_iconst 0 rfl ?_
          refine r_ireti ?_
          have x715 := HI.eqI hI695 (p := 231) (b := 8) ((((hF696.1 231 8 (by decide)).trans ((hF679.1 231 8 (by decide)).trans ((hF659.1 231 8 (by decide)).trans ((hF636.1 231 8 (by decide)).trans (hF613.1 231 8 (by decide)))))).trans hv1))
          have x716 := HI.eqI hI695 (p := 231) (b := 9) (hv703)
          have x717 := HI.eqI hI695 (p := 231) (b := 10) (hv705)
          have x718 := HI.eqI hI695 (p := 231) (b := 11) (hv707)
          obtain ⟨v719, hv719⟩ : ∃ v, gJ g694 231 12 = v := ⟨_, rfl⟩
          have x720 := HI.eqJ hI695 (b := 12) (hv719)
          have x721 := HI.eqI hI695 (p := 231) (b := 14) ((((hF696.1 231 14 (by decide)).trans ((hF679.1 231 14 (by decide)).trans ((hF659.1 231 14 (by decide)).trans ((hF636.1 231 14 (by decide)).trans (hF613.1 231 14 (by decide)))))).trans hv6))
          have x722 := HI.eqI hI695 (p := 231) (b := 17) (((hF696.1 231 17 (by decide)).trans hv687))
          have x723 := HI.eqI hI695 (p := 231) (b := 23) ((((hF696.1 231 23 (by decide)).trans (hF679.1 231 23 (by decide))).trans hv667))
          have x724 := HI.eqI hI0 (p := 231) (b := 9) (hv2)
          have zv725 : (0 : Int32).toInt = 0 := rfl
          have pg726 := PG.cong pg690 hI695 ((hF696.2.1 238 (by decide))) ((hF696.2.1 239 (by decide))) ((hF696.2.1 240 (by decide))) ((hF696.2.1 241 (by decide))) ((hF696.1 231 17 (by decide))) ((hF696.1 231 23 (by decide)))
          have nsq727 := NSQ.cong nsq691 hI695 ((hF696.2.1 240 (by decide))) ((hF696.1 231 23 (by decide)))
          exact ⟨_, rfl, hI695, hF699, _, rfl, by decide, ⟨by omega, by omega, by omega, by omega, c714, by omega, by omega, (fun hbad => ⟨by omega, (PT.mk (fun _ => pg726) (fun h => False.elim (by omega)) (fun _ _ => nsq727) (fun h => False.elim (by omega)))⟩), (fun hbad => by omega)⟩⟩
  · have c627_ : v614.toInt = 0 := en_k_ne_f c627
    refine At.enter rfl ?_
    refine r_aload_n rfl ?_
    refine r_ldc2 498 rfl ?_
    have x728 := HI.eqI hI612 (p := 231) (b := 11) (((hF613.1 231 11 (by decide)).trans hv4))
    have zv729 : (498 : Int64).toInt = 498 := rfl
    refine r_callV 19 rfl [.ref 231, .long 498] [] (Nat.le_of_ble_eq_true rfl) rfl (T_X11_isWord_231 _ hI612 498 (by omega)) ?_
    rintro _ _ ⟨g730, rfl, hI731, hF732, v733, rfl, hr734⟩
    refine At.sti ?_
    have hF735 := Fr.tr hF616 hF732 rfl rfl
    have zv736 : (498 : Int64).toInt = 498 := rfl
    have x737 := HI.eqI hI612 (p := 231) (b := 9) (((hF613.1 231 9 (by decide)).trans hv2))
    have x738 := HI.eqI hI612 (p := 231) (b := 10) (((hF613.1 231 10 (by decide)).trans hv3))
    have x739 := HI.eqI hI612 (p := 231) (b := 11) (((hF613.1 231 11 (by decide)).trans hv4))
    have x740 := HI.eqI hI731 (p := 231) (b := 9) ((((hF732.1 231 9 (by decide)).trans (hF613.1 231 9 (by decide))).trans hv2))
    have x741 := HI.eqI hI731 (p := 231) (b := 10) ((((hF732.1 231 10 (by decide)).trans (hF613.1 231 10 (by decide))).trans hv3))
    have x742 := HI.eqI hI731 (p := 231) (b := 11) ((((hF732.1 231 11 (by decide)).trans (hF613.1 231 11 (by decide))).trans hv4))
    obtain ⟨c745, c743, isw744⟩ := hr734
    have w26746 := W26.cong hW hI612 ((hF613.1 231 9 (by decide))) ((hF613.1 231 10 (by decide))) ((hF613.1 231 11 (by decide))) ((hF613.2.2 231 12 (by decide)))
    refine At.enter rfl ?_
    refine r_ifs 22 rfl (fun c747 => ?_) (fun c747 => ?_)
    · have c747_ : v733.toInt = 0 := en_k_eq_t c747
      refine At.enter rfl ?_
      refine r_aload_n rfl ?_
      refine r_callV 80 rfl [.ref 231] [] (Nat.le_of_ble_eq_true rfl) rfl (T_X11_inner_231 _ hI731) ?_
      rintro _ _ ⟨g748, rfl, hI749, hF750, v751, rfl, hr752⟩
      refine At.sti ?_
      have hF753 := Fr.tr hF735 hF750 rfl rfl
      have inn754 := INN.cong hr752.2 hI749 (hF750.2.1 240 (by decide)) (hF750.1 231 23 (by decide))
      refine At.enter rfl ?_
      refine r_iconst (-1) rfl ?_
      refine r_ics 84 rfl (fun c755 => ?_) (fun c755 => ?_)
      · have c755_ : v751.toInt ≠ (-1) := en_i_ne_t c755
        refine At.enter rfl ?_
        refine r_aload_n rfl ?_
        refine r_aload_n rfl ?_
        refine r_bipush 41 rfl ?_
        have x756 := HI.eqI hI749 (p := 231) (b := 11) ((((hF750.1 231 11 (by decide)).trans ((hF732.1 231 11 (by decide)).trans (hF613.1 231 11 (by decide)))).trans hv4))
        have zv757 : (41 : Int32).toInt = 41 := rfl
        refine r_callV 93 rfl [.ref 231, .int 41] [.ref 231] (Nat.le_of_ble_eq_true rfl) rfl (T_X11_isSign_231 _ hI749 41 (by omega)) ?_
        rintro _ _ ⟨g758, rfl, hI759, hF760, v761, rfl, hr762⟩
        refine At.sti ?_
        have hF763 := Fr.tr hF753 hF760 rfl rfl
        have zv764 : (41 : Int32).toInt = 41 := rfl
        have x765 := HI.eqI hI749 (p := 231) (b := 11) ((((hF750.1 231 11 (by decide)).trans ((hF732.1 231 11 (by decide)).trans (hF613.1 231 11 (by decide)))).trans hv4))
        have x766 := HI.eqI hI759 (p := 231) (b := 11) ((((hF760.1 231 11 (by decide)).trans ((hF750.1 231 11 (by decide)).trans ((hF732.1 231 11 (by decide)).trans (hF613.1 231 11 (by decide))))).trans hv4))
        refine At.enter rfl ?_
        have x767 := HI.eqI hI759 (p := 231) (b := 8) ((((hF760.1 231 8 (by decide)).trans ((hF750.1 231 8 (by decide)).trans ((hF732.1 231 8 (by decide)).trans (hF613.1 231 8 (by decide))))).trans hv1))
        have x768 := HI.eqI hI759 (p := 231) (b := 9) ((((hF760.1 231 9 (by decide)).trans ((hF750.1 231 9 (by decide)).trans ((hF732.1 231 9 (by decide)).trans (hF613.1 231 9 (by decide))))).trans hv2))
        have x769 := HI.eqI hI759 (p := 231) (b := 10) ((((hF760.1 231 10 (by decide)).trans ((hF750.1 231 10 (by decide)).trans ((hF732.1 231 10 (by decide)).trans (hF613.1 231 10 (by decide))))).trans hv3))
        have x770 := HI.eqI hI759 (p := 231) (b := 11) ((((hF760.1 231 11 (by decide)).trans ((hF750.1 231 11 (by decide)).trans ((hF732.1 231 11 (by decide)).trans (hF613.1 231 11 (by decide))))).trans hv4))
        have w26771 := W26.cong hW hI759 (((hF760.1 231 9 (by decide)).trans ((hF750.1 231 9 (by decide)).trans ((hF732.1 231 9 (by decide)).trans (hF613.1 231 9 (by decide)))))) (((hF760.1 231 10 (by decide)).trans ((hF750.1 231 10 (by decide)).trans ((hF732.1 231 10 (by decide)).trans (hF613.1 231 10 (by decide)))))) (((hF760.1 231 11 (by decide)).trans ((hF750.1 231 11 (by decide)).trans ((hF732.1 231 11 (by decide)).trans (hF613.1 231 11 (by decide)))))) (((hF760.2.2 231 12 (by decide)).trans ((hF750.2.2 231 12 (by decide)).trans ((hF732.2.2 231 12 (by decide)).trans (hF613.2.2 231 12 (by decide))))))
        refine r_callV 96 rfl [.ref 231, .int v761] [] (Nat.le_of_ble_eq_true rfl) rfl (T_X11_must_231 _ hI759 v761 (by omega) (by refine ⟨?_, ?_, ?_, ?_⟩ <;> omega) w26771) ?_
        rintro _ _ ⟨g772, rfl, hI773, hF774, rfl, hr776⟩
        refine At.stn ?_
        have hF777 := Fr.tr hF763 hF774 rfl rfl
        have x778 := HI.eqI hI759 (p := 231) (b := 8) ((((hF760.1 231 8 (by decide)).trans ((hF750.1 231 8 (by decide)).trans ((hF732.1 231 8 (by decide)).trans (hF613.1 231 8 (by decide))))).trans hv1))
        have x779 := HI.eqI hI759 (p := 231) (b := 9) ((((hF760.1 231 9 (by decide)).trans ((hF750.1 231 9 (by decide)).trans ((hF732.1 231 9 (by decide)).trans (hF613.1 231 9 (by decide))))).trans hv2))
        have x780 := HI.eqI hI759 (p := 231) (b := 10) ((((hF760.1 231 10 (by decide)).trans ((hF750.1 231 10 (by decide)).trans ((hF732.1 231 10 (by decide)).trans (hF613.1 231 10 (by decide))))).trans hv3))
        have x781 := HI.eqI hI759 (p := 231) (b := 11) ((((hF760.1 231 11 (by decide)).trans ((hF750.1 231 11 (by decide)).trans ((hF732.1 231 11 (by decide)).trans (hF613.1 231 11 (by decide))))).trans hv4))
        have x782 := HI.eqI hI759 (p := 231) (b := 14) ((((hF760.1 231 14 (by decide)).trans ((hF750.1 231 14 (by decide)).trans ((hF732.1 231 14 (by decide)).trans (hF613.1 231 14 (by decide))))).trans hv6))
        have x783 := HI.eqI hI773 (p := 231) (b := 8) ((((hF774.1 231 8 (by decide)).trans ((hF760.1 231 8 (by decide)).trans ((hF750.1 231 8 (by decide)).trans ((hF732.1 231 8 (by decide)).trans (hF613.1 231 8 (by decide)))))).trans hv1))
        obtain ⟨v784, hv784⟩ : ∃ v, gI g772 231 9 = v := ⟨_, rfl⟩
        have rv784 := RgF.at hI773.2.1 (p := 231) (b := 9) rfl
        rw [hv784] at rv784
        dsimp only at rv784
        have tv784 := congrArg Int32.toInt hv784
        have x785 := HI.eqI hI773 (p := 231) (b := 9) (hv784)
        obtain ⟨v786, hv786⟩ : ∃ v, gI g772 231 10 = v := ⟨_, rfl⟩
        have rv786 := RgF.at hI773.2.1 (p := 231) (b := 10) rfl
        rw [hv786] at rv786
        dsimp only at rv786
        have tv786 := congrArg Int32.toInt hv786
        have x787 := HI.eqI hI773 (p := 231) (b := 10) (hv786)
        obtain ⟨v788, hv788⟩ : ∃ v, gI g772 231 11 = v := ⟨_, rfl⟩
        have tv788 := congrArg Int32.toInt hv788
        have x789 := HI.eqI hI773 (p := 231) (b := 11) (hv788)
        obtain ⟨v790, hv790⟩ : ∃ v, gI g772 231 14 = v := ⟨_, rfl⟩
        have tv790 := congrArg Int32.toInt hv790
        have x791 := HI.eqI hI773 (p := 231) (b := 14) (hv790)
        obtain ⟨c792, c793, c794, c795, c796, c797, c798⟩ := hr776
        refine At.enter rfl ?_
        refine r_aload_n rfl ?_
        refine q_getI (Sh.int hI773.1 kx_231 rfl) v790 hv790 ?_
        refine r_ifs 103 rfl (fun c799 => ?_) (fun c799 => ?_)
        · have c799_ : v790.toInt ≠ 0 := en_k_ne_t c799
          clear c798
          refine At.enter rfl ?_
          refine r_iconst 2 rfl ?_
          refine r_ireti ?_
          have x800 := HI.eqI hI773 (p := 231) (b := 8) ((((hF774.1 231 8 (by decide)).trans ((hF760.1 231 8 (by decide)).trans ((hF750.1 231 8 (by decide)).trans ((hF732.1 231 8 (by decide)).trans (hF613.1 231 8 (by decide)))))).trans hv1))
          have x801 := HI.eqI hI773 (p := 231) (b := 9) (hv784)
          have x802 := HI.eqI hI773 (p := 231) (b := 10) (hv786)
          have x803 := HI.eqI hI773 (p := 231) (b := 11) (hv788)
          obtain ⟨v804, hv804⟩ : ∃ v, gJ g772 231 12 = v := ⟨_, rfl⟩
          have x805 := HI.eqJ hI773 (b := 12) (hv804)
          have x806 := HI.eqI hI773 (p := 231) (b := 14) (hv790)
          have x807 := HI.eqI hI773 (p := 231) (b := 17) ((((hF774.1 231 17 (by decide)).trans ((hF760.1 231 17 (by decide)).trans ((hF750.1 231 17 (by decide)).trans ((hF732.1 231 17 (by decide)).trans (hF613.1 231 17 (by decide)))))).trans hv7))
          have x808 := HI.eqI hI773 (p := 231) (b := 23) ((((hF774.1 231 23 (by decide)).trans ((hF760.1 231 23 (by decide)).trans ((hF750.1 231 23 (by decide)).trans ((hF732.1 231 23 (by decide)).trans (hF613.1 231 23 (by decide)))))).trans hv8))
          have x809 := HI.eqI hI0 (p := 231) (b := 9) (hv2)
          have zv810 : (2 : Int32).toInt = 2 := rfl
          have pg811 := PG.cong (hP.2.1 (by decide)) hI773 (((hF774.2.1 238 (by decide)).trans ((hF760.2.1 238 (by decide)).trans ((hF750.2.1 238 (by decide)).trans ((hF732.2.1 238 (by decide)).trans (hF613.2.1 238 (by decide))))))) (((hF774.2.1 239 (by decide)).trans ((hF760.2.1 239 (by decide)).trans ((hF750.2.1 239 (by decide)).trans ((hF732.2.1 239 (by decide)).trans (hF613.2.1 239 (by decide))))))) (((hF774.2.1 240 (by decide)).trans ((hF760.2.1 240 (by decide)).trans ((hF750.2.1 240 (by decide)).trans ((hF732.2.1 240 (by decide)).trans (hF613.2.1 240 (by decide))))))) (((hF774.2.1 241 (by decide)).trans ((hF760.2.1 241 (by decide)).trans ((hF750.2.1 241 (by decide)).trans ((hF732.2.1 241 (by decide)).trans (hF613.2.1 241 (by decide))))))) (((hF774.1 231 17 (by decide)).trans ((hF760.1 231 17 (by decide)).trans ((hF750.1 231 17 (by decide)).trans ((hF732.1 231 17 (by decide)).trans (hF613.1 231 17 (by decide))))))) (((hF774.1 231 23 (by decide)).trans ((hF760.1 231 23 (by decide)).trans ((hF750.1 231 23 (by decide)).trans ((hF732.1 231 23 (by decide)).trans (hF613.1 231 23 (by decide)))))))
          have nsq812 := NSQ.cong (hP.2.2.1 (by decide) (by decide)) hI773 (((hF774.2.1 240 (by decide)).trans ((hF760.2.1 240 (by decide)).trans ((hF750.2.1 240 (by decide)).trans ((hF732.2.1 240 (by decide)).trans (hF613.2.1 240 (by decide))))))) (((hF774.1 231 23 (by decide)).trans ((hF760.1 231 23 (by decide)).trans ((hF750.1 231 23 (by decide)).trans ((hF732.1 231 23 (by decide)).trans (hF613.1 231 23 (by decide)))))))
          exact ⟨_, rfl, hI773, hF777, _, rfl, by decide, ⟨by omega, by omega, by omega, by omega, c797, by omega, by omega, (fun hbad => ⟨by omega, (PT.mk (fun h => False.elim (by omega)) (fun _ => pg811) (fun _ _ => nsq812) (fun h => False.elim (by omega)))⟩), (fun hbad => by omega)⟩⟩
        · have c799_ : v790.toInt = 0 := en_k_ne_f c799
          obtain ⟨i813, i814, i815⟩ := c798 (by omega)
          refine At.enter rfl ?_
          refine r_aload_n rfl ?_
          refine r_iconst 1 rfl ?_
          have x816 := HI.eqI hI773 (p := 231) (b := 17) ((((hF774.1 231 17 (by decide)).trans ((hF760.1 231 17 (by decide)).trans ((hF750.1 231 17 (by decide)).trans ((hF732.1 231 17 (by decide)).trans (hF613.1 231 17 (by decide)))))).trans hv7))
          have x817 := HI.eqI hI773 (p := 231) (b := 23) ((((hF774.1 231 23 (by decide)).trans ((hF760.1 231 23 (by decide)).trans ((hF750.1 231 23 (by decide)).trans ((hF732.1 231 23 (by decide)).trans (hF613.1 231 23 (by decide)))))).trans hv8))
          have zv818 : (1 : Int32).toInt = 1 := rfl
          refine r_callV 108 rfl [.ref 231, .int 1] [] (Nat.le_of_ble_eq_true rfl) rfl (T_X11_settle_231 _ hI773 1 (by decide) (by omega)) ?_
          rintro _ _ ⟨g819, rfl, hI820, hF821, rfl, hr823⟩
          refine At.stn ?_
          have hF824 := Fr.tr hF777 hF821 rfl rfl
          have zv825 : (1 : Int32).toInt = 1 := rfl
          have x826 := HI.eqI hI773 (p := 231) (b := 17) ((((hF774.1 231 17 (by decide)).trans ((hF760.1 231 17 (by decide)).trans ((hF750.1 231 17 (by decide)).trans ((hF732.1 231 17 (by decide)).trans (hF613.1 231 17 (by decide)))))).trans hv7))
          have x827 := HI.eqI hI773 (p := 231) (b := 23) ((((hF774.1 231 23 (by decide)).trans ((hF760.1 231 23 (by decide)).trans ((hF750.1 231 23 (by decide)).trans ((hF732.1 231 23 (by decide)).trans (hF613.1 231 23 (by decide)))))).trans hv8))
          obtain ⟨v828, hv828⟩ : ∃ v, gI g819 231 17 = v := ⟨_, rfl⟩
          have rv828 := RgF.at hI820.2.1 (p := 231) (b := 17) rfl
          rw [hv828] at rv828
          dsimp only at rv828
          have tv828 := congrArg Int32.toInt hv828
          have x829 := HI.eqI hI820 (p := 231) (b := 17) (hv828)
          obtain ⟨v830, hv830⟩ : ∃ v, gI g819 231 23 = v := ⟨_, rfl⟩
          have rv830 := RgF.at hI820.2.1 (p := 231) (b := 23) rfl
          rw [hv830] at rv830
          dsimp only at rv830
          have tv830 := congrArg Int32.toInt hv830
          have x831 := HI.eqI hI820 (p := 231) (b := 23) (hv830)
          have y832 : (gI _ 231 23).toInt ≤ (gI _ 231 23).toInt := hr823.1
          have y833 : (gI _ 231 17).toInt + (gI _ 231 23).toInt ≤ (gI _ 231 17).toInt + (gI _ 231 23).toInt := hr823.2.1
          have nsq834 := NSQ.cong (hP.2.2.1 (by decide) (by decide)) hI773 (((hF774.2.1 240 (by decide)).trans ((hF760.2.1 240 (by decide)).trans ((hF750.2.1 240 (by decide)).trans ((hF732.2.1 240 (by decide)).trans (hF613.2.1 240 (by decide))))))) (((hF774.1 231 23 (by decide)).trans ((hF760.1 231 23 (by decide)).trans ((hF750.1 231 23 (by decide)).trans ((hF732.1 231 23 (by decide)).trans (hF613.1 231 23 (by decide)))))))
          have pg835 := PG.cong (hP.2.1 (by decide)) hI773 (((hF774.2.1 238 (by decide)).trans ((hF760.2.1 238 (by decide)).trans ((hF750.2.1 238 (by decide)).trans ((hF732.2.1 238 (by decide)).trans (hF613.2.1 238 (by decide))))))) (((hF774.2.1 239 (by decide)).trans ((hF760.2.1 239 (by decide)).trans ((hF750.2.1 239 (by decide)).trans ((hF732.2.1 239 (by decide)).trans (hF613.2.1 239 (by decide))))))) (((hF774.2.1 240 (by decide)).trans ((hF760.2.1 240 (by decide)).trans ((hF750.2.1 240 (by decide)).trans ((hF732.2.1 240 (by decide)).trans (hF613.2.1 240 (by decide))))))) (((hF774.2.1 241 (by decide)).trans ((hF760.2.1 241 (by decide)).trans ((hF750.2.1 241 (by decide)).trans ((hF732.2.1 241 (by decide)).trans (hF613.2.1 241 (by decide))))))) (((hF774.1 231 17 (by decide)).trans ((hF760.1 231 17 (by decide)).trans ((hF750.1 231 17 (by decide)).trans ((hF732.1 231 17 (by decide)).trans (hF613.1 231 17 (by decide))))))) (((hF774.1 231 23 (by decide)).trans ((hF760.1 231 23 (by decide)).trans ((hF750.1 231 23 (by decide)).trans ((hF732.1 231 23 (by decide)).trans (hF613.1 231 23 (by decide)))))))
          have inn837 := INN.cong inn754 hI773 (((hF774.2.1 240 (by decide)).trans (hF760.2.1 240 (by decide)))) (((hF774.1 231 23 (by decide)).trans (hF760.1 231 23 (by decide))))
          have top838 := SETP.close1 hr823 (by omega) inn837 (by omega)
          have y839 : 1 ≤ (gI _ 231 23).toInt := top838.1
          have pg836 := hr823.2.2.1 _ _ _ pg835
          have nsq840 := NSQ.le nsq834 hI820 hr823.2.2.2.2.1 hr823.1
          refine At.enter rfl ?_
          refine r_aload_n rfl ?_
          refine r_dup rfl ?_
          refine q_getI (Sh.int hI820.1 kx_231 rfl) v830 hv830 ?_
          refine r_iconst 1 rfl ?_
          refine q_isub (v830.toInt - 1) rfl (by omega) (fun v841 hv841 => ?_)
          refine q_putI (Sh.int hI820.1 kx_231 rfl) rfl ?_
          have hI842 := HI.wI1 hI820 kx_231 rfl (p := 231) (b := 23) (v := v841) rfl (by dsimp only; omega)
          have hF843 := Fr.wI (p := 231) (b := 23) (v := v841) hF824 rfl
          refine r_aload_n rfl ?_
          refine r_dup rfl ?_
          obtain ⟨v844, hv844⟩ : ∃ v, gI g0 231 24 = v := ⟨_, rfl⟩
          refine q_getI (Sh.int hI842.1 kx_231 rfl) v844 (((gI_sI_ne (by decide)).trans ((hF821.1 231 24 (by decide)).trans ((hF774.1 231 24 (by decide)).trans ((hF760.1 231 24 (by decide)).trans ((hF750.1 231 24 (by decide)).trans ((hF732.1 231 24 (by decide)).trans (hF613.1 231 24 (by decide)))))))).trans hv844) ?_
          refine r_iconst 1 rfl ?_
          refine q_isubO (fun v845 _ => ?_)
          refine q_putI (Sh.int hI842.1 kx_231 rfl) rfl ?_
          have hI846 := HI.wI0 hI842 kx_231 rfl (p := 231) (b := 24) (v := v845) rfl
          have hF847 := Fr.wI (p := 231) (b := 24) (v := v845) hF843 rfl
          refine Ar.fall 128 rfl ?_
          refine At.enter rfl ?_
          refine r_iconst 2 rfl ?_
          refine r_ireti ?_
          have x848 := HI.eqI hI846 (p := 231) (b := 8) ((((gI_sI_ne (by decide)).trans ((gI_sI_ne (by decide)).trans ((hF821.1 231 8 (by decide)).trans ((hF774.1 231 8 (by decide)).trans ((hF760.1 231 8 (by decide)).trans ((hF750.1 231 8 (by decide)).trans ((hF732.1 231 8 (by decide)).trans (hF613.1 231 8 (by decide))))))))).trans hv1))
          have x849 := HI.eqI hI846 (p := 231) (b := 9) ((((gI_sI_ne (by decide)).trans ((gI_sI_ne (by decide)).trans (hF821.1 231 9 (by decide)))).trans hv784))
          have x850 := HI.eqI hI846 (p := 231) (b := 10) ((((gI_sI_ne (by decide)).trans ((gI_sI_ne (by decide)).trans (hF821.1 231 10 (by decide)))).trans hv786))
          have x851 := HI.eqI hI846 (p := 231) (b := 11) ((((gI_sI_ne (by decide)).trans ((gI_sI_ne (by decide)).trans (hF821.1 231 11 (by decide)))).trans hv788))
          obtain ⟨v852, hv852⟩ : ∃ v, gJ g772 231 12 = v := ⟨_, rfl⟩
          have x853 := HI.eqJ hI846 (b := 12) ((((gJ_sI_ne (by decide)).trans ((gJ_sI_ne (by decide)).trans (hF821.2.2 231 12 (by decide)))).trans hv852))
          have x854 := HI.eqI hI846 (p := 231) (b := 14) ((((gI_sI_ne (by decide)).trans ((gI_sI_ne (by decide)).trans (hF821.1 231 14 (by decide)))).trans hv790))
          have x855 := HI.eqI hI846 (p := 231) (b := 17) ((((gI_sI_ne (by decide)).trans (gI_sI_ne (by decide))).trans hv828))
          have x856 := HI.eqI hI846 (p := 231) (b := 23) (((gI_sI_ne (by decide)).trans (gI_sI_eq hI820.1 kx_231 rfl _)))
          have x857 := HI.eqI hI0 (p := 231) (b := 9) (hv2)
          have zv858 : (2 : Int32).toInt = 2 := rfl
          have x860 := HI.eqI hI846 (p := 231) (b := 23) (((gI_sI_ne (by decide)).trans (gI_sI_eq hI820.1 kx_231 rfl _)))
          have pg859 := PG.popB pg836 hI846 (((gA_sI).trans (gA_sI))) (((gA_sI).trans (gA_sI))) (((gA_sI).trans (gA_sI))) (((gA_sI).trans (gA_sI))) (((gI_sI_ne (by decide)).trans (gI_sI_ne (by decide)))) (by show (gI _ 231 23).toInt = (gI _ 231 23).toInt - 1; omega) top838.1 top838.2
          have x862 := HI.eqI hI846 (p := 231) (b := 23) (((gI_sI_ne (by decide)).trans (gI_sI_eq hI820.1 kx_231 rfl _)))
          have nsq861 := NSQ.le nsq840 hI846 (((gA_sI).trans (gA_sI))) (by show (gI _ 231 23).toInt ≤ (gI _ 231 23).toInt; omega)
          have w26863 := W26.cong c797 hI846 (((gI_sI_ne (by decide)).trans ((gI_sI_ne (by decide)).trans (hF821.1 231 9 (by decide))))) (((gI_sI_ne (by decide)).trans ((gI_sI_ne (by decide)).trans (hF821.1 231 10 (by decide))))) (((gI_sI_ne (by decide)).trans ((gI_sI_ne (by decide)).trans (hF821.1 231 11 (by decide))))) (((gJ_sI_ne (by decide)).trans ((gJ_sI_ne (by decide)).trans (hF821.2.2 231 12 (by decide)))))
          exact ⟨_, rfl, hI846, hF847, _, rfl, by decide, ⟨by omega, by omega, by omega, by omega, w26863, by omega, by omega, (fun hbad => ⟨by omega, (PT.mk (fun h => False.elim (by omega)) (fun _ => pg859) (fun _ _ => nsq861) (fun h => False.elim (by omega)))⟩), (fun hbad => by omega)⟩⟩
      · have c755_ : v751.toInt = (-1) := en_i_ne_f c755
        refine At.enter rfl ?_
        refine r_iconst 4 rfl ?_
        refine r_ireti ?_
        have x864 := HI.eqI hI749 (p := 231) (b := 8) ((((hF750.1 231 8 (by decide)).trans ((hF732.1 231 8 (by decide)).trans (hF613.1 231 8 (by decide)))).trans hv1))
        have x865 := HI.eqI hI749 (p := 231) (b := 9) ((((hF750.1 231 9 (by decide)).trans ((hF732.1 231 9 (by decide)).trans (hF613.1 231 9 (by decide)))).trans hv2))
        have x866 := HI.eqI hI749 (p := 231) (b := 10) ((((hF750.1 231 10 (by decide)).trans ((hF732.1 231 10 (by decide)).trans (hF613.1 231 10 (by decide)))).trans hv3))
        have x867 := HI.eqI hI749 (p := 231) (b := 11) ((((hF750.1 231 11 (by decide)).trans ((hF732.1 231 11 (by decide)).trans (hF613.1 231 11 (by decide)))).trans hv4))
        have x868 := HI.eqJ hI749 (b := 12) ((((hF750.2.2 231 12 (by decide)).trans ((hF732.2.2 231 12 (by decide)).trans (hF613.2.2 231 12 (by decide)))).trans hv5))
        have x869 := HI.eqI hI749 (p := 231) (b := 14) ((((hF750.1 231 14 (by decide)).trans ((hF732.1 231 14 (by decide)).trans (hF613.1 231 14 (by decide)))).trans hv6))
        have x870 := HI.eqI hI749 (p := 231) (b := 17) ((((hF750.1 231 17 (by decide)).trans ((hF732.1 231 17 (by decide)).trans (hF613.1 231 17 (by decide)))).trans hv7))
        have x871 := HI.eqI hI749 (p := 231) (b := 23) ((((hF750.1 231 23 (by decide)).trans ((hF732.1 231 23 (by decide)).trans (hF613.1 231 23 (by decide)))).trans hv8))
        have x872 := HI.eqI hI0 (p := 231) (b := 9) (hv2)
        have zv873 : (4 : Int32).toInt = 4 := rfl
        have pg874 := PG.cong (hP.2.1 (by decide)) hI749 (((hF750.2.1 238 (by decide)).trans ((hF732.2.1 238 (by decide)).trans (hF613.2.1 238 (by decide))))) (((hF750.2.1 239 (by decide)).trans ((hF732.2.1 239 (by decide)).trans (hF613.2.1 239 (by decide))))) (((hF750.2.1 240 (by decide)).trans ((hF732.2.1 240 (by decide)).trans (hF613.2.1 240 (by decide))))) (((hF750.2.1 241 (by decide)).trans ((hF732.2.1 241 (by decide)).trans (hF613.2.1 241 (by decide))))) (((hF750.1 231 17 (by decide)).trans ((hF732.1 231 17 (by decide)).trans (hF613.1 231 17 (by decide))))) (((hF750.1 231 23 (by decide)).trans ((hF732.1 231 23 (by decide)).trans (hF613.1 231 23 (by decide)))))
        have nsq875 := NSQ.cong (hP.2.2.1 (by decide) (by decide)) hI749 (((hF750.2.1 240 (by decide)).trans ((hF732.2.1 240 (by decide)).trans (hF613.2.1 240 (by decide))))) (((hF750.1 231 23 (by decide)).trans ((hF732.1 231 23 (by decide)).trans (hF613.1 231 23 (by decide)))))
        have w26876 := W26.cong hW hI749 (((hF750.1 231 9 (by decide)).trans ((hF732.1 231 9 (by decide)).trans (hF613.1 231 9 (by decide))))) (((hF750.1 231 10 (by decide)).trans ((hF732.1 231 10 (by decide)).trans (hF613.1 231 10 (by decide))))) (((hF750.1 231 11 (by decide)).trans ((hF732.1 231 11 (by decide)).trans (hF613.1 231 11 (by decide))))) (((hF750.2.2 231 12 (by decide)).trans ((hF732.2.2 231 12 (by decide)).trans (hF613.2.2 231 12 (by decide)))))
        exact ⟨_, rfl, hI749, hF753, _, rfl, by decide, ⟨by omega, by omega, by omega, by omega, w26876, by omega, by omega, (fun hbad => ⟨by omega, (PT.mk (fun h => False.elim (by omega)) (fun _ => pg874) (fun _ _ => nsq875) (fun _ => INN.nbr (INN.eq inn754 (by omega))))⟩), (fun hbad => by omega)⟩⟩
    · have c747_ : v733.toInt ≠ 0 := en_k_eq_f c747
      have i877 := W26.two w26746 isw744 (by omega) (by decide)
      refine At.enter rfl ?_
      refine r_aload_n rfl ?_
      refine r_iload_n rfl ?_
      refine r_ifs 27 rfl (fun c878 => ?_) (fun c878 => ?_)
      · have c878_ : v614.toInt = 0 := en_k_eq_t c878
        refine At.enter rfl ?_
        refine r_iconst 1 rfl ?_
        refine Ar.fall 32 rfl ?_
        refine At.enter rfl ?_
        have x879 := HI.eqI hI731 (p := 231) (b := 17) ((((hF732.1 231 17 (by decide)).trans (hF613.1 231 17 (by decide))).trans hv7))
        have x880 := HI.eqI hI731 (p := 231) (b := 23) ((((hF732.1 231 23 (by decide)).trans (hF613.1 231 23 (by decide))).trans hv8))
        have zv881 : (1 : Int32).toInt = 1 := rfl
        refine r_callV 35 rfl [.ref 231, .int 1] [] (Nat.le_of_ble_eq_true rfl) rfl (T_X11_settle_231 _ hI731 1 (by decide) (by omega)) ?_
        rintro _ _ ⟨g882, rfl, hI883, hF884, rfl, hr886⟩
        refine At.stn ?_
        have hF887 := Fr.tr hF735 hF884 rfl rfl
        have zv888 : (1 : Int32).toInt = 1 := rfl
        have x889 := HI.eqI hI731 (p := 231) (b := 17) ((((hF732.1 231 17 (by decide)).trans (hF613.1 231 17 (by decide))).trans hv7))
        have x890 := HI.eqI hI731 (p := 231) (b := 23) ((((hF732.1 231 23 (by decide)).trans (hF613.1 231 23 (by decide))).trans hv8))
        obtain ⟨v891, hv891⟩ : ∃ v, gI g882 231 17 = v := ⟨_, rfl⟩
        have rv891 := RgF.at hI883.2.1 (p := 231) (b := 17) rfl
        rw [hv891] at rv891
        dsimp only at rv891
        have tv891 := congrArg Int32.toInt hv891
        have x892 := HI.eqI hI883 (p := 231) (b := 17) (hv891)
        obtain ⟨v893, hv893⟩ : ∃ v, gI g882 231 23 = v := ⟨_, rfl⟩
        have rv893 := RgF.at hI883.2.1 (p := 231) (b := 23) rfl
        rw [hv893] at rv893
        dsimp only at rv893
        have tv893 := congrArg Int32.toInt hv893
        have x894 := HI.eqI hI883 (p := 231) (b := 23) (hv893)
        have y895 : (gI _ 231 23).toInt ≤ (gI _ 231 23).toInt := hr886.1
        have y896 : (gI _ 231 17).toInt + (gI _ 231 23).toInt ≤ (gI _ 231 17).toInt + (gI _ 231 23).toInt := hr886.2.1
        have nsq897 := NSQ.cong (hP.2.2.1 (by decide) (by decide)) hI731 (((hF732.2.1 240 (by decide)).trans (hF613.2.1 240 (by decide)))) (((hF732.1 231 23 (by decide)).trans (hF613.1 231 23 (by decide))))
        have pg898 := PG.cong (hP.2.1 (by decide)) hI731 (((hF732.2.1 238 (by decide)).trans (hF613.2.1 238 (by decide)))) (((hF732.2.1 239 (by decide)).trans (hF613.2.1 239 (by decide)))) (((hF732.2.1 240 (by decide)).trans (hF613.2.1 240 (by decide)))) (((hF732.2.1 241 (by decide)).trans (hF613.2.1 241 (by decide)))) (((hF732.1 231 17 (by decide)).trans (hF613.1 231 17 (by decide)))) (((hF732.1 231 23 (by decide)).trans (hF613.1 231 23 (by decide))))
        have pg899 := hr886.2.2.1 _ _ _ pg898
        have nsq900 := NSQ.le nsq897 hI883 hr886.2.2.2.2.1 hr886.1
        refine At.enter rfl ?_
        refine r_aload_n rfl ?_
        refine r_iload_n rfl ?_
        refine r_ifs 40 rfl (fun c901 => ?_) (fun c901 => ?_)
        · have c901_ : v614.toInt = 0 := en_k_eq_t c901
          refine At.enter rfl ?_
          refine r_bipush 29 rfl ?_
          refine Ar.fall 47 rfl ?_
          refine At.enter rfl ?_
          refine r_aload_n rfl ?_
          refine q_getI (Sh.int hI883.1 kx_231 rfl) v891 hv891 ?_
          have x902 := HI.eqI hI883 (p := 231) (b := 23) (hv893)
          have zv903 : (29 : Int32).toInt = 29 := rfl
          refine r_callV 54 rfl [.ref 231, .int 29, .int v891] [] (Nat.le_of_ble_eq_true rfl) rfl (T_X11_push_231 _ hI883 29 (by decide) v891 (by omega) (by omega)) ?_
          rintro _ _ ⟨g904, rfl, hI905, hF906, rfl, hr908⟩
          refine At.stn ?_
          have hF909 := Fr.tr hF887 hF906 rfl rfl
          have zv910 : (29 : Int32).toInt = 29 := rfl
          have x911 := HI.eqI hI883 (p := 231) (b := 17) (hv891)
          have x912 := HI.eqI hI883 (p := 231) (b := 23) (hv893)
          have x913 := HI.eqI hI905 (p := 231) (b := 17) (((hF906.1 231 17 (by decide)).trans hv891))
          obtain ⟨v914, hv914⟩ : ∃ v, gI g904 231 23 = v := ⟨_, rfl⟩
          have rv914 := RgF.at hI905.2.1 (p := 231) (b := 23) rfl
          rw [hv914] at rv914
          dsimp only at rv914
          have tv914 := congrArg Int32.toInt hv914
          have x915 := HI.eqI hI905 (p := 231) (b := 23) (hv914)
          have y916 : (gI _ 231 23).toInt = (gI _ 231 23).toInt + 1 := hr908.1
          have nsq918 := NSQ.push nsq900 hr908 (by omega)
          refine At.enter rfl ?_
          refine r_aload_n rfl ?_
          refine r_iload_n rfl ?_
          refine r_ifs 59 rfl (fun c919 => ?_) (fun c919 => ?_)
          · have c919_ : v614.toInt = 0 := en_k_eq_t c919
            refine At.enter rfl ?_
            refine r_bipush 29 rfl ?_
            refine Ar.fall 66 rfl ?_
            refine At.enter rfl ?_
            refine r_iconst 0 rfl ?_
            have x920 := HI.eqI hI905 (p := 231) (b := 17) (((hF906.1 231 17 (by decide)).trans hv891))
            have zv921 : (29 : Int32).toInt = 29 := rfl
            have zv922 : (0 : Int32).toInt = 0 := rfl
            refine r_callV 70 rfl [.ref 231, .int 29, .int 0] [] (Nat.le_of_ble_eq_true rfl) rfl (T_X11_emit_231 _ hI905 29 0 (by omega)) ?_
            rintro _ _ ⟨g923, rfl, hI924, hF925, rfl, hr927⟩
            refine At.stn ?_
            have hF928 := Fr.tr hF909 hF925 rfl rfl
            have zv929 : (29 : Int32).toInt = 29 := rfl
            have zv930 : (0 : Int32).toInt = 0 := rfl
            have x931 := HI.eqI hI905 (p := 231) (b := 17) (((hF906.1 231 17 (by decide)).trans hv891))
            have x932 := HI.eqI hI905 (p := 231) (b := 23) (hv914)
            obtain ⟨v933, hv933⟩ : ∃ v, gI g923 231 17 = v := ⟨_, rfl⟩
            have rv933 := RgF.at hI924.2.1 (p := 231) (b := 17) rfl
            rw [hv933] at rv933
            dsimp only at rv933
            have tv933 := congrArg Int32.toInt hv933
            have x934 := HI.eqI hI924 (p := 231) (b := 17) (hv933)
            have y935 : (gI _ 231 17).toInt = (gI _ 231 17).toInt + 1 := hr927.1
            have pg936 := PG.andor pg899 hr908 (hF906.2.1 238 (by decide)) (hF906.2.1 239 (by decide)) (hF906.1 231 17 (by decide)) hr927 (hF925.2.1 240 (by decide)) (hF925.2.1 241 (by decide)) (hF925.1 231 23 (by decide)) ⟨by omega, by omega⟩ (by show _ = (gI _ 231 17).toInt; omega) nsq900 (by show 0 ≤ (gI _ 231 23).toInt; omega)
            have nsq937 := NSQ.cong nsq918 hI924 ((hF925.2.1 240 (by decide))) ((hF925.1 231 23 (by decide)))
            refine At.enter rfl ?_
            refine r_aload_n rfl ?_
            have x938 := HI.eqI hI924 (p := 231) (b := 8) ((((hF925.1 231 8 (by decide)).trans ((hF906.1 231 8 (by decide)).trans ((hF884.1 231 8 (by decide)).trans ((hF732.1 231 8 (by decide)).trans (hF613.1 231 8 (by decide)))))).trans hv1))
            have x939 := HI.eqI hI924 (p := 231) (b := 10) ((((hF925.1 231 10 (by decide)).trans ((hF906.1 231 10 (by decide)).trans ((hF884.1 231 10 (by decide)).trans ((hF732.1 231 10 (by decide)).trans (hF613.1 231 10 (by decide)))))).trans hv3))
            refine r_callV 74 rfl [.ref 231] [] (Nat.le_of_ble_eq_true rfl) rfl (T_X11_next_231 _ hI924 (by omega)) ?_
            rintro _ _ ⟨g940, rfl, hI941, hF942, rfl, hr944⟩
            refine At.stn ?_
            have hF945 := Fr.tr hF928 hF942 rfl rfl
            have x946 := HI.eqI hI924 (p := 231) (b := 8) ((((hF925.1 231 8 (by decide)).trans ((hF906.1 231 8 (by decide)).trans ((hF884.1 231 8 (by decide)).trans ((hF732.1 231 8 (by decide)).trans (hF613.1 231 8 (by decide)))))).trans hv1))
            have x947 := HI.eqI hI924 (p := 231) (b := 10) ((((hF925.1 231 10 (by decide)).trans ((hF906.1 231 10 (by decide)).trans ((hF884.1 231 10 (by decide)).trans ((hF732.1 231 10 (by decide)).trans (hF613.1 231 10 (by decide)))))).trans hv3))
            have x948 := HI.eqI hI941 (p := 231) (b := 8) ((((hF942.1 231 8 (by decide)).trans ((hF925.1 231 8 (by decide)).trans ((hF906.1 231 8 (by decide)).trans ((hF884.1 231 8 (by decide)).trans ((hF732.1 231 8 (by decide)).trans (hF613.1 231 8 (by decide))))))).trans hv1))
            obtain ⟨v949, hv949⟩ : ∃ v, gI g940 231 9 = v := ⟨_, rfl⟩
            have rv949 := RgF.at hI941.2.1 (p := 231) (b := 9) rfl
            rw [hv949] at rv949
            dsimp only at rv949
            have tv949 := congrArg Int32.toInt hv949
            have x950 := HI.eqI hI941 (p := 231) (b := 9) (hv949)
            obtain ⟨v951, hv951⟩ : ∃ v, gI g940 231 10 = v := ⟨_, rfl⟩
            have rv951 := RgF.at hI941.2.1 (p := 231) (b := 10) rfl
            rw [hv951] at rv951
            dsimp only at rv951
            have tv951 := congrArg Int32.toInt hv951
            have x952 := HI.eqI hI941 (p := 231) (b := 10) (hv951)
            obtain ⟨v953, hv953⟩ : ∃ v, gI g940 231 11 = v := ⟨_, rfl⟩
            have tv953 := congrArg Int32.toInt hv953
            have x954 := HI.eqI hI941 (p := 231) (b := 11) (hv953)
            obtain ⟨c955, c956, c957, c958, c959, c960⟩ := hr944
            refine At.enter rfl ?_
            refine r_iconst 0 rfl ?_
            refine r_ireti ?_
            have x961 := HI.eqI hI941 (p := 231) (b := 8) ((((hF942.1 231 8 (by decide)).trans ((hF925.1 231 8 (by decide)).trans ((hF906.1 231 8 (by decide)).trans ((hF884.1 231 8 (by decide)).trans ((hF732.1 231 8 (by decide)).trans (hF613.1 231 8 (by decide))))))).trans hv1))
            have x962 := HI.eqI hI941 (p := 231) (b := 9) (hv949)
            have x963 := HI.eqI hI941 (p := 231) (b := 10) (hv951)
            have x964 := HI.eqI hI941 (p := 231) (b := 11) (hv953)
            obtain ⟨v965, hv965⟩ : ∃ v, gJ g940 231 12 = v := ⟨_, rfl⟩
            have x966 := HI.eqJ hI941 (b := 12) (hv965)
            have x967 := HI.eqI hI941 (p := 231) (b := 14) ((((hF942.1 231 14 (by decide)).trans ((hF925.1 231 14 (by decide)).trans ((hF906.1 231 14 (by decide)).trans ((hF884.1 231 14 (by decide)).trans ((hF732.1 231 14 (by decide)).trans (hF613.1 231 14 (by decide))))))).trans hv6))
            have x968 := HI.eqI hI941 (p := 231) (b := 17) (((hF942.1 231 17 (by decide)).trans hv933))
            have x969 := HI.eqI hI941 (p := 231) (b := 23) ((((hF942.1 231 23 (by decide)).trans (hF925.1 231 23 (by decide))).trans hv914))
            have x970 := HI.eqI hI0 (p := 231) (b := 9) (hv2)
            have zv971 : (0 : Int32).toInt = 0 := rfl
            have pg972 := PG.cong pg936 hI941 ((hF942.2.1 238 (by decide))) ((hF942.2.1 239 (by decide))) ((hF942.2.1 240 (by decide))) ((hF942.2.1 241 (by decide))) ((hF942.1 231 17 (by decide))) ((hF942.1 231 23 (by decide)))
            have nsq973 := NSQ.cong nsq937 hI941 ((hF942.2.1 240 (by decide))) ((hF942.1 231 23 (by decide)))
            exact ⟨_, rfl, hI941, hF945, _, rfl, by decide, ⟨by omega, by omega, by omega, by omega, c960, by omega, by omega, (fun hbad => ⟨by omega, (PT.mk (fun _ => pg972) (fun h => False.elim (by omega)) (fun _ _ => nsq973) (fun h => False.elim (by omega)))⟩), (fun hbad => by omega)⟩⟩
          · have c919_ : v614.toInt ≠ 0 := en_k_eq_f c919
            have i974 := W26.two hW isw625 (by omega) (by decide)
            exfalso; omega
        · have c901_ : v614.toInt ≠ 0 := en_k_eq_f c901
          have i975 := W26.two hW isw625 (by omega) (by decide)
          exfalso; omega
      · have c878_ : v614.toInt ≠ 0 := en_k_eq_f c878
        have i976 := W26.two hW isw625 (by omega) (by decide)
        exfalso; omega
