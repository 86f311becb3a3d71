def F_X11_behindTest_231 : List (Nat × Nat) := [(231, 9), (231, 10), (231, 11), (231, 12), (231, 13), (231, 14), (231, 17), (231, 23), (231, 24)]
def A_X11_behindTest_231 : List Nat := [238, 239, 240, 241]
set_option maxRecDepth 100000 in
set_option maxHeartbeats 4000000 in
theorem T_X11_behindTest_231 (d : Nat) {N : Nat} {g0 : List en_E} (hI0 : HI g0) (b : Int) (o0 : Int → Int) (a0 : Int → Int) (h1 : ((gI g0 231 9).toInt ≤ (gI g0 231 10).toInt ∧ (gI g0 231 10).toInt ≤ (gI g0 231 8).toInt ∧ 0 ≤ (gI g0 231 11).toInt ∧ (gI g0 231 11).toInt ≤ 3 * ((gI g0 231 10).toInt - (gI g0 231 9).toInt))) (h2 : (gI g0 231 14).toInt = 0) (h3 : (gI g0 231 17).toInt + (gI g0 231 23).toInt ≤ (gI g0 231 9).toInt) (hW : W26 g0) (hP : PT g0 b 2 o0 a0) (hK : TKM g0) : Ev (d + 4) 207 [.ref 231] (g0, N) (fun w h' => ∃ g', h' = (g', N) ∧ HI g' ∧ Fr F_X11_behindTest_231 A_X11_behindTest_231 g0 g' ∧ ∃ r : Int32, w = some (.int r) ∧ (0 ≤ r.toInt ∧ r.toInt ≤ 4) ∧ ((gI g' 231 9).toInt ≤ (gI g' 231 10).toInt ∧ (gI g' 231 10).toInt ≤ (gI g' 231 8).toInt ∧ 0 ≤ (gI g' 231 11).toInt ∧ (gI g' 231 11).toInt ≤ 3 * ((gI g' 231 10).toInt - (gI g' 231 9).toInt) ∧ W26 g' ∧ (gI g' 231 17).toInt + (gI g' 231 23).toInt ≤ 400 ∧ (gI g0 231 9).toInt ≤ (gI g' 231 9).toInt ∧ TURN g' b r.toInt o0 a0 ∧ PRG (gI g' 231 14).toInt (gI g0 231 9).toInt (gI g' 231 9).toInt r.toInt 4 ∧ TKM g' ∧ MTP g0 g' 2 r.toInt (fun _ => True))) := by
  have hF0 : Fr F_X11_behindTest_231 A_X11_behindTest_231 g0 g0 := Fr.rf
  obtain ⟨v1, hv1⟩ : ∃ v, gI g0 231 8 = v := ⟨_, rfl⟩
  have rv1 := RgF.at hI0.2.1 (p := 231) (b := 8) rfl
  rw [hv1] at rv1
  dsimp only at rv1
  have tv1 := congrArg Int32.toInt hv1
  obtain ⟨v2, hv2⟩ : ∃ v, gI g0 231 9 = v := ⟨_, rfl⟩
  have rv2 := RgF.at hI0.2.1 (p := 231) (b := 9) rfl
  rw [hv2] at rv2
  dsimp only at rv2
  have tv2 := congrArg Int32.toInt hv2
  obtain ⟨v3, hv3⟩ : ∃ v, gI g0 231 10 = v := ⟨_, rfl⟩
  have rv3 := RgF.at hI0.2.1 (p := 231) (b := 10) rfl
  rw [hv3] at rv3
  dsimp only at rv3
  have tv3 := congrArg Int32.toInt hv3
  obtain ⟨v4, hv4⟩ : ∃ v, gI g0 231 11 = v := ⟨_, rfl⟩
  have tv4 := congrArg Int32.toInt hv4
  obtain ⟨v5, hv5⟩ : ∃ v, gJ g0 231 12 = v := ⟨_, rfl⟩
  have tv5 := congrArg Int64.toInt hv5
  obtain ⟨v6, hv6⟩ : ∃ v, gI g0 231 14 = v := ⟨_, rfl⟩
  have tv6 := congrArg Int32.toInt hv6
  obtain ⟨v7, hv7⟩ : ∃ v, gI g0 231 17 = v := ⟨_, rfl⟩
  have rv7 := RgF.at hI0.2.1 (p := 231) (b := 17) rfl
  rw [hv7] at rv7
  dsimp only at rv7
  have tv7 := congrArg Int32.toInt hv7
  obtain ⟨v8, hv8⟩ : ∃ v, gI g0 231 23 = v := ⟨_, rfl⟩
  have rv8 := RgF.at hI0.2.1 (p := 231) (b := 23) rfl
  rw [hv8] at rv8
  dsimp only at rv8
  have tv8 := congrArg Int32.toInt hv8
  refine Ev.mk rfl rfl ⟨Nat.le_of_ble_eq_true rfl, Or.inr (q_rc hI0.1 kx_231 rfl)⟩ ?_
  show At _ none _ _ (0, [(0, .ref 231)], [], (_, _)) _
  refine At.enter rfl ?_
  refine r_aload_n rfl ?_
  refine r_ldc2 1476 rfl ?_
  have zv712 : (1476 : Int64).toInt = 1476 := rfl
  refine r_callV 7 rfl [.ref 231, .long 1476] [] (Nat.le_of_ble_eq_true rfl) rfl (T_X11_isWord_231 _ hI0 1476 (by omega)) ?_
  rintro _ _ ⟨g713, rfl, hI714, hF715, v716, rfl, hr717⟩
  refine At.sti ?_
  have hF718 := Fr.tr hF0 hF715 rfl rfl
  have x723 := HI.eqI hI714 (p := 231) (b := 9) (((hF715.1 231 9 mf_X11_isWord_231_231_9).trans hv2))
  have x724 := HI.eqI hI714 (p := 231) (b := 10) (((hF715.1 231 10 mf_X11_isWord_231_231_10).trans hv3))
  have x725 := HI.eqI hI714 (p := 231) (b := 11) (((hF715.1 231 11 mf_X11_isWord_231_231_11).trans hv4))
  obtain ⟨c729, c726, isw727, ib728⟩ := hr717
  have hb730 : BL (CDM g0 = 28) v716.toInt := ISM.word (c := 28) ib728 hK (isWC_d (by omega)) (by decide +kernel) (by decide)
  refine At.enter rfl ?_
  refine r_istore_n ([(1, .int v716), (0, .ref 231)]) rfl ?_
  refine r_iload_n rfl ?_
  refine r_ifs 12 rfl (fun c731 => ?_) (fun c731 => ?_)
  · have c731_ : v716.toInt ≠ 0 := en_k_ne_t c731
    have i732 := W26.two hW isw727 (by omega) (by decide)
    have i733 := BL.yes hb730 (by omega)
    refine At.enter rfl ?_
    refine r_aload_n rfl ?_
    refine r_iload_n rfl ?_
    refine r_ifs 27 rfl (fun c734 => ?_) (fun c734 => ?_)
    · have c734_ : v716.toInt = 0 := en_k_eq_t c734
      have i735 := BL.no hb730 (by omega)
      exfalso; omega
    · have c734_ : v716.toInt ≠ 0 := en_k_eq_f c734
      refine At.enter rfl ?_
      refine r_iconst 2 rfl ?_
      refine r_goto ?_
      refine At.enter rfl ?_
      have x738 := HI.eqI hI714 (p := 231) (b := 17) (((hF715.1 231 17 mf_X11_isWord_231_231_17).trans hv7))
      have x739 := HI.eqI hI714 (p := 231) (b := 23) (((hF715.1 231 23 mf_X11_isWord_231_231_23).trans hv8))
      have zv740 : (2 : Int32).toInt = 2 := rfl
      refine r_callV 35 rfl [.ref 231, .int 2] [] (Nat.le_of_ble_eq_true rfl) rfl (T_X11_settle_231 _ hI714 2 (by decide) (by omega)) ?_
      rintro _ _ ⟨g741, rfl, hI742, hF743, rfl, hr745⟩
      refine At.stn ?_
      have hF746 := Fr.tr hF718 hF743 rfl rfl
      obtain ⟨sp748, sq749⟩ := hr745
      have sq750 := SETQ.fr sq749 ((hF715.2.1 240 ma_X11_isWord_231_240)) ((hF715.1 231 23 mf_X11_isWord_231_231_23))
      obtain ⟨v753, hv753⟩ : ∃ v, gI g741 231 17 = v := ⟨_, rfl⟩
      have rv753 := RgF.at hI742.2.1 (p := 231) (b := 17) rfl
      rw [hv753] at rv753
      dsimp only at rv753
      have tv753 := congrArg Int32.toInt hv753
      obtain ⟨v755, hv755⟩ : ∃ v, gI g741 231 23 = v := ⟨_, rfl⟩
      have rv755 := RgF.at hI742.2.1 (p := 231) (b := 23) rfl
      rw [hv755] at rv755
      dsimp only at rv755
      have tv755 := congrArg Int32.toInt hv755
      have y757 : (gI _ 231 23).toInt ≤ (gI _ 231 23).toInt := sp748.1
      have y758 : (gI _ 231 17).toInt + (gI _ 231 23).toInt ≤ (gI _ 231 17).toInt + (gI _ 231 23).toInt := sp748.2.1
      have nsq759 := NSQ.cong (hP.2.2.1 (by decide) (by decide)) hI714 ((hF715.2.1 240 ma_X11_isWord_231_240)) ((hF715.1 231 23 mf_X11_isWord_231_231_23))
      have pg760 := PG.cong (hP.2.1 (by decide)) hI714 ((hF715.2.1 238 ma_X11_isWord_231_238)) ((hF715.2.1 239 ma_X11_isWord_231_239)) ((hF715.2.1 240 ma_X11_isWord_231_240)) ((hF715.2.1 241 ma_X11_isWord_231_241)) ((hF715.1 231 17 mf_X11_isWord_231_231_17)) ((hF715.1 231 23 mf_X11_isWord_231_231_23))
      have pg761 := sp748.2.2.1 _ _ _ pg760
      have nsq762 := NSQ.le nsq759 hI742 sp748.2.2.2.2.1 sp748.1
      refine At.enter rfl ?_
      refine r_aload_n rfl ?_
      refine r_iload_n rfl ?_
      refine r_ifs 40 rfl (fun c763 => ?_) (fun c763 => ?_)
      · have c763_ : v716.toInt = 0 := en_k_eq_t c763
        have i764 := BL.no hb730 (by omega)
        exfalso; omega
      · have c763_ : v716.toInt ≠ 0 := en_k_eq_f c763
        refine At.enter rfl ?_
        refine r_bipush 28 rfl ?_
        refine r_goto ?_
        refine At.enter rfl ?_
        refine r_aload_n rfl ?_
        refine q_getI (Sh.int hI742.1 kx_231 rfl) v753 hv753 ?_
        have zv768 : (28 : Int32).toInt = 28 := rfl
        refine r_callV 54 rfl [.ref 231, .int 28, .int v753] [] (Nat.le_of_ble_eq_true rfl) rfl (T_X11_push_231 _ hI742 28 (by decide) v753 (by omega) (by omega)) ?_
        rintro _ _ ⟨g769, rfl, hI770, hF771, rfl, hr773⟩
        refine At.stn ?_
        have hF774 := Fr.tr hF746 hF771 rfl rfl
        have x778 := HI.eqI hI770 (p := 231) (b := 17) (((hF771.1 231 17 mf_X11_push_231_231_17).trans hv753))
        obtain ⟨v779, hv779⟩ : ∃ v, gI g769 231 23 = v := ⟨_, rfl⟩
        have rv779 := RgF.at hI770.2.1 (p := 231) (b := 23) rfl
        rw [hv779] at rv779
        dsimp only at rv779
        have tv779 := congrArg Int32.toInt hv779
        have y781 : (gI _ 231 23).toInt = (gI _ 231 23).toInt + 1 := hr773.1
        have nsq783 := NSQ.push nsq762 hr773 (by omega)
        refine At.enter rfl ?_
        refine r_aload_n rfl ?_
        refine r_iload_n rfl ?_
        refine r_ifs 59 rfl (fun c784 => ?_) (fun c784 => ?_)
        · have c784_ : v716.toInt = 0 := en_k_eq_t c784
          have i785 := BL.no hb730 (by omega)
          exfalso; omega
        · have c784_ : v716.toInt ≠ 0 := en_k_eq_f c784
          refine At.enter rfl ?_
          refine r_bipush 28 rfl ?_
          refine r_goto ?_
          refine At.enter rfl ?_
          refine r_iconst 0 rfl ?_
          have zv790 : (0 : Int32).toInt = 0 := rfl
          refine r_callV 70 rfl [.ref 231, .int 28, .int 0] [] (Nat.le_of_ble_eq_true rfl) rfl (T_X11_emit_231 _ hI770 28 0 (by omega)) ?_
          rintro _ _ ⟨g791, rfl, hI792, hF793, rfl, hr795⟩
          refine At.stn ?_
          have hF796 := Fr.tr hF774 hF793 rfl rfl
          obtain ⟨v801, hv801⟩ : ∃ v, gI g791 231 17 = v := ⟨_, rfl⟩
          have rv801 := RgF.at hI792.2.1 (p := 231) (b := 17) rfl
          rw [hv801] at rv801
          dsimp only at rv801
          have tv801 := congrArg Int32.toInt hv801
          have y803 : (gI _ 231 17).toInt = (gI _ 231 17).toInt + 1 := hr795.1
          have pg804 := PG.andor pg761 hr773 (hF771.2.1 238 ma_X11_push_231_238) (hF771.2.1 239 ma_X11_push_231_239) (hF771.1 231 17 mf_X11_push_231_231_17) hr795 (hF793.2.1 240 ma_X11_emit_231_240) (hF793.2.1 241 ma_X11_emit_231_241) (hF793.1 231 23 mf_X11_emit_231_231_23) ⟨by omega, by omega⟩ (by show _ = (gI _ 231 17).toInt; omega) nsq762 (by show 0 ≤ (gI _ 231 23).toInt; omega)
          have nsq805 := NSQ.cong nsq783 hI792 ((hF793.2.1 240 ma_X11_emit_231_240)) ((hF793.1 231 23 mf_X11_emit_231_231_23))
          refine At.enter rfl ?_
          refine r_aload_n rfl ?_
          have x806 := HI.eqI hI792 (p := 231) (b := 8) ((((hF793.1 231 8 mf_X11_emit_231_231_8).trans ((hF771.1 231 8 mf_X11_push_231_231_8).trans ((hF743.1 231 8 mf_X11_settle_231_231_8).trans (hF715.1 231 8 mf_X11_isWord_231_231_8)))).trans hv1))
          have x807 := HI.eqI hI792 (p := 231) (b := 10) ((((hF793.1 231 10 mf_X11_emit_231_231_10).trans ((hF771.1 231 10 mf_X11_push_231_231_10).trans ((hF743.1 231 10 mf_X11_settle_231_231_10).trans (hF715.1 231 10 mf_X11_isWord_231_231_10)))).trans hv3))
          refine r_callV 74 rfl [.ref 231] [] (Nat.le_of_ble_eq_true rfl) rfl (T_X11_next_231 _ hI792 (by omega)) ?_
          rintro _ _ ⟨g808, rfl, hI809, hF810, rfl, hr812⟩
          refine At.stn ?_
          have hF813 := Fr.tr hF796 hF810 rfl rfl
          have x816 := HI.eqI hI809 (p := 231) (b := 8) ((((hF810.1 231 8 mf_X11_next_231_231_8).trans ((hF793.1 231 8 mf_X11_emit_231_231_8).trans ((hF771.1 231 8 mf_X11_push_231_231_8).trans ((hF743.1 231 8 mf_X11_settle_231_231_8).trans (hF715.1 231 8 mf_X11_isWord_231_231_8))))).trans hv1))
          obtain ⟨v817, hv817⟩ : ∃ v, gI g808 231 9 = v := ⟨_, rfl⟩
          have rv817 := RgF.at hI809.2.1 (p := 231) (b := 9) rfl
          rw [hv817] at rv817
          dsimp only at rv817
          have tv817 := congrArg Int32.toInt hv817
          obtain ⟨v819, hv819⟩ : ∃ v, gI g808 231 10 = v := ⟨_, rfl⟩
          have rv819 := RgF.at hI809.2.1 (p := 231) (b := 10) rfl
          rw [hv819] at rv819
          dsimp only at rv819
          have tv819 := congrArg Int32.toInt hv819
          obtain ⟨v821, hv821⟩ : ∃ v, gI g808 231 11 = v := ⟨_, rfl⟩
          have tv821 := congrArg Int32.toInt hv821
          obtain ⟨c823, c824, c825, c826, c827, c828, c829⟩ := hr812
          have tok830_ := c829.2
          rw [TM.c (((hF793.2.1 236 ma_X11_emit_231_236).trans ((hF771.2.1 236 ma_X11_push_231_236).trans ((hF743.2.1 236 ma_X11_settle_231_236).trans (hF715.2.1 236 ma_X11_isWord_231_236))))), nM.c (((hF793.1 231 8 mf_X11_emit_231_231_8).trans ((hF771.1 231 8 mf_X11_push_231_231_8).trans ((hF743.1 231 8 mf_X11_settle_231_231_8).trans (hF715.1 231 8 mf_X11_isWord_231_231_8))))), pI.c (b := 10) (((hF793.1 231 10 mf_X11_emit_231_231_10).trans ((hF771.1 231 10 mf_X11_push_231_231_10).trans ((hF743.1 231 10 mf_X11_settle_231_231_10).trans (hF715.1 231 10 mf_X11_isWord_231_231_10)))))] at tok830_
          have tok830 := TKM.tok hK tok830_
          have hK831 := c829.1
          refine At.enter rfl ?_
          refine r_iconst 0 rfl ?_
          refine r_ireti ?_
          obtain ⟨v836, hv836⟩ : ∃ v, gJ g808 231 12 = v := ⟨_, rfl⟩
          have x837 := HI.eqJ hI809 (b := 12) (hv836)
          have x838 := HI.eqI hI809 (p := 231) (b := 14) ((((hF810.1 231 14 mf_X11_next_231_231_14).trans ((hF793.1 231 14 mf_X11_emit_231_231_14).trans ((hF771.1 231 14 mf_X11_push_231_231_14).trans ((hF743.1 231 14 mf_X11_settle_231_231_14).trans (hF715.1 231 14 mf_X11_isWord_231_231_14))))).trans hv6))
          have x839 := HI.eqI hI809 (p := 231) (b := 17) (((hF810.1 231 17 mf_X11_next_231_231_17).trans hv801))
          have x840 := HI.eqI hI809 (p := 231) (b := 23) ((((hF810.1 231 23 mf_X11_next_231_231_23).trans (hF793.1 231 23 mf_X11_emit_231_231_23)).trans hv779))
          have pg843 := PG.cong pg804 hI809 ((hF810.2.1 238 ma_X11_next_231_238)) ((hF810.2.1 239 ma_X11_next_231_239)) ((hF810.2.1 240 ma_X11_next_231_240)) ((hF810.2.1 241 ma_X11_next_231_241)) ((hF810.1 231 17 mf_X11_next_231_231_17)) ((hF810.1 231 23 mf_X11_next_231_231_23))
          have nsq844 := NSQ.cong nsq805 hI809 ((hF810.2.1 240 ma_X11_next_231_240)) ((hF810.1 231 23 mf_X11_next_231_231_23))
          obtain ⟨v846, hv846⟩ : ∃ v, gI g0 231 13 = v := ⟨_, rfl⟩
          have tv846 := congrArg Int32.toInt hv846
          have x847 := HI.eqI hI809 (p := 231) (b := 13) ((((hF810.1 231 13 mf_X11_next_231_231_13).trans ((hF793.1 231 13 mf_X11_emit_231_231_13).trans ((hF771.1 231 13 mf_X11_push_231_231_13).trans ((hF743.1 231 13 mf_X11_settle_231_231_13).trans (hF715.1 231 13 mf_X11_isWord_231_231_13))))).trans hv846))
          obtain ⟨v849, hv849⟩ : ∃ v, gI g0 231 15 = v := ⟨_, rfl⟩
          have rv849 := RgF.at hI0.2.1 (p := 231) (b := 15) rfl
          rw [hv849] at rv849
          dsimp only at rv849
          have tv849 := congrArg Int32.toInt hv849
          have x850 := HI.eqI hI809 (p := 231) (b := 15) ((((hF810.1 231 15 mf_X11_next_231_231_15).trans ((hF793.1 231 15 mf_X11_emit_231_231_15).trans ((hF771.1 231 15 mf_X11_push_231_231_15).trans ((hF743.1 231 15 mf_X11_settle_231_231_15).trans (hF715.1 231 15 mf_X11_isWord_231_231_15))))).trans hv849))
          obtain ⟨v851, hv851⟩ : ∃ v, gI g0 231 20 = v := ⟨_, rfl⟩
          have tv851 := congrArg Int32.toInt hv851
          have x852 := HI.eqI hI809 (p := 231) (b := 20) ((((hF810.1 231 20 mf_X11_next_231_231_20).trans ((hF793.1 231 20 mf_X11_emit_231_231_20).trans ((hF771.1 231 20 mf_X11_push_231_231_20).trans ((hF743.1 231 20 mf_X11_settle_231_231_20).trans (hF715.1 231 20 mf_X11_isWord_231_231_20))))).trans hv851))
          obtain ⟨v854, hv854⟩ : ∃ v, gI g0 231 24 = v := ⟨_, rfl⟩
          have tv854 := congrArg Int32.toInt hv854
          have x855 := HI.eqI hI809 (p := 231) (b := 24) ((((hF810.1 231 24 mf_X11_next_231_231_24).trans ((hF793.1 231 24 mf_X11_emit_231_231_24).trans ((hF771.1 231 24 mf_X11_push_231_231_24).trans ((hF743.1 231 24 mf_X11_settle_231_231_24).trans (hF715.1 231 24 mf_X11_isWord_231_231_24))))).trans hv854))
          have x864 := HI.eqI hI742 (p := 231) (b := 24) ((((hF743.1 231 24 mf_X11_settle_231_231_24).trans (hF715.1 231 24 mf_X11_isWord_231_231_24)).trans hv854))
          exact ⟨_, rfl, hI809, hF813, _, rfl, by decide, ⟨by omega, by omega, by omega, by omega, c828, by omega, by omega, (fun hbad => ⟨by omega, (PT.mk (fun _ => pg843) (fun h => by first | exact absurd h (by decide) | (exfalso; omega)) (fun _ _ => nsq844) (fun h => by first | exact absurd h (by decide) | (exfalso; omega)))⟩), (fun hbad => by omega), hK831, (fun c0 b hC h => M.andor h tok830 (by omega) sq750 (PUSH.fr2 hr773 rfl rfl rfl (((hF810.2.1 240 ma_X11_next_231_240).trans (hF793.2.1 240 ma_X11_emit_231_240))) (((hF810.2.1 241 ma_X11_next_231_241).trans (hF793.2.1 241 ma_X11_emit_231_241))) (((hF810.1 231 23 mf_X11_next_231_231_23).trans (hF793.1 231 23 mf_X11_emit_231_231_23)))) (by omega) (pI.c (((hF743.1 231 24 mf_X11_settle_231_231_24).trans (hF715.1 231 24 mf_X11_isWord_231_231_24)))) (show (gI _ 231 24).toInt = (gI g741 231 24).toInt from (by first | exact x855.trans x864.symm | omega)) (show (gI _ 231 20).toInt = (gI g0 231 20).toInt from (by first | exact x852.trans tv851.symm | omega)) (show (gI _ 231 15).toInt = (gI g0 231 15).toInt from (by first | exact x850.trans tv849.symm | omega)) (fun _ => ⟨show (gI _ 231 14).toInt = 0 from by omega, show (gI _ 231 13).toInt = (gI g0 231 13).toInt from (by first | exact x847.trans tv846.symm | omega)⟩) (fun z => absurd (show (gI g0 231 14).toInt = 0 from (by first | exact h2 | omega)) z))⟩⟩
  · have c731_ : v716.toInt = 0 := en_k_ne_f c731
    have i865 := BL.no hb730 (by omega)
    refine At.enter rfl ?_
    refine r_aload_n rfl ?_
    refine r_ldc2 498 rfl ?_
    have zv867 : (498 : Int64).toInt = 498 := rfl
    refine r_callV 19 rfl [.ref 231, .long 498] [] (Nat.le_of_ble_eq_true rfl) rfl (T_X11_isWord_231 _ hI714 498 (by omega)) ?_
    rintro _ _ ⟨g868, rfl, hI869, hF870, v871, rfl, hr872⟩
    refine At.sti ?_
    have hF873 := Fr.tr hF718 hF870 rfl rfl
    have x878 := HI.eqI hI869 (p := 231) (b := 9) ((((hF870.1 231 9 mf_X11_isWord_231_231_9).trans (hF715.1 231 9 mf_X11_isWord_231_231_9)).trans hv2))
    have x879 := HI.eqI hI869 (p := 231) (b := 10) ((((hF870.1 231 10 mf_X11_isWord_231_231_10).trans (hF715.1 231 10 mf_X11_isWord_231_231_10)).trans hv3))
    have x880 := HI.eqI hI869 (p := 231) (b := 11) ((((hF870.1 231 11 mf_X11_isWord_231_231_11).trans (hF715.1 231 11 mf_X11_isWord_231_231_11)).trans hv4))
    obtain ⟨c884, c881, isw882, ib883⟩ := hr872
    have w26885 := W26.cong hW hI714 ((hF715.1 231 9 mf_X11_isWord_231_231_9)) ((hF715.1 231 10 mf_X11_isWord_231_231_10)) ((hF715.1 231 11 mf_X11_isWord_231_231_11)) ((hF715.2.2 231 12 mf_X11_isWord_231_231_12))
    have hb886 : BL (CDM g0 = 29) v871.toInt := by have z := ISM.word (c := 29) ib883 (TKM.c hK ((hF715.2.1 236 ma_X11_isWord_231_236)) ((hF715.1 231 8 mf_X11_isWord_231_231_8)) ((hF715.1 231 9 mf_X11_isWord_231_231_9)) ((hF715.1 231 10 mf_X11_isWord_231_231_10)) ((hF715.1 231 11 mf_X11_isWord_231_231_11)) ((hF715.2.2 231 12 mf_X11_isWord_231_231_12))) (isWC_d (by omega)) (by decide +kernel) (by decide); rw [CDM.c ((hF715.2.1 236 ma_X11_isWord_231_236)) ((hF715.1 231 9 mf_X11_isWord_231_231_9)) ((hF715.1 231 10 mf_X11_isWord_231_231_10)) ((hF715.1 231 11 mf_X11_isWord_231_231_11))] at z; exact z
    refine At.enter rfl ?_
    refine r_ifs 22 rfl (fun c887 => ?_) (fun c887 => ?_)
    · have c887_ : v871.toInt = 0 := en_k_eq_t c887
      have i888 := BL.no hb886 (by omega)
      refine At.enter rfl ?_
      refine r_aload_n rfl ?_
      refine r_callV 80 rfl [.ref 231] [] (Nat.le_of_ble_eq_true rfl) rfl (T_X11_inner_231 _ hI869) ?_
      rintro _ _ ⟨g889, rfl, hI890, hF891, v892, rfl, hr893⟩
      refine At.sti ?_
      have hF894 := Fr.tr hF873 hF891 rfl rfl
      have inn895 := INN.cong hr893.2 hI890 (hF891.2.1 240 ma_X11_inner_231_240) (hF891.1 231 23 mf_X11_inner_231_231_23)
      have inn896 := INN.cong hr893.2 hI0 (((hF870.2.1 240 ma_X11_isWord_231_240).trans (hF715.2.1 240 ma_X11_isWord_231_240))).symm (((hF870.1 231 23 mf_X11_isWord_231_231_23).trans (hF715.1 231 23 mf_X11_isWord_231_231_23))).symm
      refine At.enter rfl ?_
      refine r_iconst (-1) rfl ?_
      refine r_ics 84 rfl (fun c897 => ?_) (fun c897 => ?_)
      · have c897_ : v892.toInt ≠ (-1) := en_i_ne_t c897
        refine At.enter rfl ?_
        refine r_aload_n rfl ?_
        refine r_aload_n rfl ?_
        refine r_bipush 41 rfl ?_
        have x898 := HI.eqI hI890 (p := 231) (b := 11) ((((hF891.1 231 11 mf_X11_inner_231_231_11).trans ((hF870.1 231 11 mf_X11_isWord_231_231_11).trans (hF715.1 231 11 mf_X11_isWord_231_231_11))).trans hv4))
        have zv899 : (41 : Int32).toInt = 41 := rfl
        refine r_callV 93 rfl [.ref 231, .int 41] [.ref 231] (Nat.le_of_ble_eq_true rfl) rfl (T_X11_isSign_231 _ hI890 41 (by omega)) ?_
        rintro _ _ ⟨g900, rfl, hI901, hF902, v903, rfl, hr904⟩
        refine At.sti ?_
        have hF905 := Fr.tr hF894 hF902 rfl rfl
        have x908 := HI.eqI hI901 (p := 231) (b := 11) ((((hF902.1 231 11 mf_X11_isSign_231_231_11).trans ((hF891.1 231 11 mf_X11_inner_231_231_11).trans ((hF870.1 231 11 mf_X11_isWord_231_231_11).trans (hF715.1 231 11 mf_X11_isWord_231_231_11)))).trans hv4))
        have hb909 : BL (CDM g0 = 9) v903.toInt := by have z := ISM.sign (c := 9) hr904.2.2 (TKM.c hK (((hF891.2.1 236 ma_X11_inner_231_236).trans ((hF870.2.1 236 ma_X11_isWord_231_236).trans (hF715.2.1 236 ma_X11_isWord_231_236)))) (((hF891.1 231 8 mf_X11_inner_231_231_8).trans ((hF870.1 231 8 mf_X11_isWord_231_231_8).trans (hF715.1 231 8 mf_X11_isWord_231_231_8)))) (((hF891.1 231 9 mf_X11_inner_231_231_9).trans ((hF870.1 231 9 mf_X11_isWord_231_231_9).trans (hF715.1 231 9 mf_X11_isWord_231_231_9)))) (((hF891.1 231 10 mf_X11_inner_231_231_10).trans ((hF870.1 231 10 mf_X11_isWord_231_231_10).trans (hF715.1 231 10 mf_X11_isWord_231_231_10)))) (((hF891.1 231 11 mf_X11_inner_231_231_11).trans ((hF870.1 231 11 mf_X11_isWord_231_231_11).trans (hF715.1 231 11 mf_X11_isWord_231_231_11)))) (((hF891.2.2 231 12 mf_X11_inner_231_231_12).trans ((hF870.2.2 231 12 mf_X11_isWord_231_231_12).trans (hF715.2.2 231 12 mf_X11_isWord_231_231_12))))) (isSC_d (by omega)) (by decide +kernel); rw [CDM.c (((hF891.2.1 236 ma_X11_inner_231_236).trans ((hF870.2.1 236 ma_X11_isWord_231_236).trans (hF715.2.1 236 ma_X11_isWord_231_236)))) (((hF891.1 231 9 mf_X11_inner_231_231_9).trans ((hF870.1 231 9 mf_X11_isWord_231_231_9).trans (hF715.1 231 9 mf_X11_isWord_231_231_9)))) (((hF891.1 231 10 mf_X11_inner_231_231_10).trans ((hF870.1 231 10 mf_X11_isWord_231_231_10).trans (hF715.1 231 10 mf_X11_isWord_231_231_10)))) (((hF891.1 231 11 mf_X11_inner_231_231_11).trans ((hF870.1 231 11 mf_X11_isWord_231_231_11).trans (hF715.1 231 11 mf_X11_isWord_231_231_11))))] at z; exact z
        refine At.enter rfl ?_
        have x910 := HI.eqI hI901 (p := 231) (b := 8) ((((hF902.1 231 8 mf_X11_isSign_231_231_8).trans ((hF891.1 231 8 mf_X11_inner_231_231_8).trans ((hF870.1 231 8 mf_X11_isWord_231_231_8).trans (hF715.1 231 8 mf_X11_isWord_231_231_8)))).trans hv1))
        have x911 := HI.eqI hI901 (p := 231) (b := 9) ((((hF902.1 231 9 mf_X11_isSign_231_231_9).trans ((hF891.1 231 9 mf_X11_inner_231_231_9).trans ((hF870.1 231 9 mf_X11_isWord_231_231_9).trans (hF715.1 231 9 mf_X11_isWord_231_231_9)))).trans hv2))
        have x912 := HI.eqI hI901 (p := 231) (b := 10) ((((hF902.1 231 10 mf_X11_isSign_231_231_10).trans ((hF891.1 231 10 mf_X11_inner_231_231_10).trans ((hF870.1 231 10 mf_X11_isWord_231_231_10).trans (hF715.1 231 10 mf_X11_isWord_231_231_10)))).trans hv3))
        have w26914 := W26.cong hW hI901 (((hF902.1 231 9 mf_X11_isSign_231_231_9).trans ((hF891.1 231 9 mf_X11_inner_231_231_9).trans ((hF870.1 231 9 mf_X11_isWord_231_231_9).trans (hF715.1 231 9 mf_X11_isWord_231_231_9))))) (((hF902.1 231 10 mf_X11_isSign_231_231_10).trans ((hF891.1 231 10 mf_X11_inner_231_231_10).trans ((hF870.1 231 10 mf_X11_isWord_231_231_10).trans (hF715.1 231 10 mf_X11_isWord_231_231_10))))) (((hF902.1 231 11 mf_X11_isSign_231_231_11).trans ((hF891.1 231 11 mf_X11_inner_231_231_11).trans ((hF870.1 231 11 mf_X11_isWord_231_231_11).trans (hF715.1 231 11 mf_X11_isWord_231_231_11))))) (((hF902.2.2 231 12 mf_X11_isSign_231_231_12).trans ((hF891.2.2 231 12 mf_X11_inner_231_231_12).trans ((hF870.2.2 231 12 mf_X11_isWord_231_231_12).trans (hF715.2.2 231 12 mf_X11_isWord_231_231_12)))))
        refine r_callV 96 rfl [.ref 231, .int v903] [] (Nat.le_of_ble_eq_true rfl) rfl (T_X11_must_231 _ hI901 v903 (by omega) (by refine ⟨?_, ?_, ?_, ?_⟩ <;> omega) w26914 (TKM.c hK (((hF902.2.1 236 ma_X11_isSign_231_236).trans ((hF891.2.1 236 ma_X11_inner_231_236).trans ((hF870.2.1 236 ma_X11_isWord_231_236).trans (hF715.2.1 236 ma_X11_isWord_231_236))))) (((hF902.1 231 8 mf_X11_isSign_231_231_8).trans ((hF891.1 231 8 mf_X11_inner_231_231_8).trans ((hF870.1 231 8 mf_X11_isWord_231_231_8).trans (hF715.1 231 8 mf_X11_isWord_231_231_8))))) (((hF902.1 231 9 mf_X11_isSign_231_231_9).trans ((hF891.1 231 9 mf_X11_inner_231_231_9).trans ((hF870.1 231 9 mf_X11_isWord_231_231_9).trans (hF715.1 231 9 mf_X11_isWord_231_231_9))))) (((hF902.1 231 10 mf_X11_isSign_231_231_10).trans ((hF891.1 231 10 mf_X11_inner_231_231_10).trans ((hF870.1 231 10 mf_X11_isWord_231_231_10).trans (hF715.1 231 10 mf_X11_isWord_231_231_10))))) (((hF902.1 231 11 mf_X11_isSign_231_231_11).trans ((hF891.1 231 11 mf_X11_inner_231_231_11).trans ((hF870.1 231 11 mf_X11_isWord_231_231_11).trans (hF715.1 231 11 mf_X11_isWord_231_231_11))))) (((hF902.2.2 231 12 mf_X11_isSign_231_231_12).trans ((hF891.2.2 231 12 mf_X11_inner_231_231_12).trans ((hF870.2.2 231 12 mf_X11_isWord_231_231_12).trans (hF715.2.2 231 12 mf_X11_isWord_231_231_12))))))) ?_
        rintro _ _ ⟨g915, rfl, hI916, hF917, rfl, hr919⟩
        refine At.stn ?_
        have hF920 := Fr.tr hF905 hF917 rfl rfl
        have x925 := HI.eqI hI901 (p := 231) (b := 14) ((((hF902.1 231 14 mf_X11_isSign_231_231_14).trans ((hF891.1 231 14 mf_X11_inner_231_231_14).trans ((hF870.1 231 14 mf_X11_isWord_231_231_14).trans (hF715.1 231 14 mf_X11_isWord_231_231_14)))).trans hv6))
        have x926 := HI.eqI hI916 (p := 231) (b := 8) ((((hF917.1 231 8 mf_X11_must_231_231_8).trans ((hF902.1 231 8 mf_X11_isSign_231_231_8).trans ((hF891.1 231 8 mf_X11_inner_231_231_8).trans ((hF870.1 231 8 mf_X11_isWord_231_231_8).trans (hF715.1 231 8 mf_X11_isWord_231_231_8))))).trans hv1))
        obtain ⟨v927, hv927⟩ : ∃ v, gI g915 231 9 = v := ⟨_, rfl⟩
        have rv927 := RgF.at hI916.2.1 (p := 231) (b := 9) rfl
        rw [hv927] at rv927
        dsimp only at rv927
        have tv927 := congrArg Int32.toInt hv927
        obtain ⟨v929, hv929⟩ : ∃ v, gI g915 231 10 = v := ⟨_, rfl⟩
        have rv929 := RgF.at hI916.2.1 (p := 231) (b := 10) rfl
        rw [hv929] at rv929
        dsimp only at rv929
        have tv929 := congrArg Int32.toInt hv929
        obtain ⟨v931, hv931⟩ : ∃ v, gI g915 231 11 = v := ⟨_, rfl⟩
        have tv931 := congrArg Int32.toInt hv931
        obtain ⟨v933, hv933⟩ : ∃ v, gI g915 231 14 = v := ⟨_, rfl⟩
        have tv933 := congrArg Int32.toInt hv933
        obtain ⟨c935, c936, c937, c938, c939, c940, c941, c942⟩ := hr919
        obtain ⟨v943, hv943⟩ : ∃ v, gI g0 231 13 = v := ⟨_, rfl⟩
        have tv943 := congrArg Int32.toInt hv943
        have x944 := HI.eqI hI901 (p := 231) (b := 13) ((((hF902.1 231 13 mf_X11_isSign_231_231_13).trans ((hF891.1 231 13 mf_X11_inner_231_231_13).trans ((hF870.1 231 13 mf_X11_isWord_231_231_13).trans (hF715.1 231 13 mf_X11_isWord_231_231_13)))).trans hv943))
        obtain ⟨v946, hv946⟩ : ∃ v, gI g915 231 13 = v := ⟨_, rfl⟩
        have tv946 := congrArg Int32.toInt hv946
        unfold MUSTP at c942
        rw [TM.c (((hF902.2.1 236 ma_X11_isSign_231_236).trans ((hF891.2.1 236 ma_X11_inner_231_236).trans ((hF870.2.1 236 ma_X11_isWord_231_236).trans (hF715.2.1 236 ma_X11_isWord_231_236))))), nM.c (((hF902.1 231 8 mf_X11_isSign_231_231_8).trans ((hF891.1 231 8 mf_X11_inner_231_231_8).trans ((hF870.1 231 8 mf_X11_isWord_231_231_8).trans (hF715.1 231 8 mf_X11_isWord_231_231_8))))), pI.c (b := 14) (((hF902.1 231 14 mf_X11_isSign_231_231_14).trans ((hF891.1 231 14 mf_X11_inner_231_231_14).trans ((hF870.1 231 14 mf_X11_isWord_231_231_14).trans (hF715.1 231 14 mf_X11_isWord_231_231_14))))), pI.c (b := 13) (((hF902.1 231 13 mf_X11_isSign_231_231_13).trans ((hF891.1 231 13 mf_X11_inner_231_231_13).trans ((hF870.1 231 13 mf_X11_isWord_231_231_13).trans (hF715.1 231 13 mf_X11_isWord_231_231_13))))), pI.c (b := 10) (((hF902.1 231 10 mf_X11_isSign_231_231_10).trans ((hF891.1 231 10 mf_X11_inner_231_231_10).trans ((hF870.1 231 10 mf_X11_isWord_231_231_10).trans (hF715.1 231 10 mf_X11_isWord_231_231_10))))), pI.c (b := 9) (((hF902.1 231 9 mf_X11_isSign_231_231_9).trans ((hF891.1 231 9 mf_X11_inner_231_231_9).trans ((hF870.1 231 9 mf_X11_isWord_231_231_9).trans (hF715.1 231 9 mf_X11_isWord_231_231_9)))))] at c942
        have mu948 : MUSTP g0 g915 v903.toInt := c942
        clear c942
        have hK949 := mu948.1
        refine At.enter rfl ?_
        refine r_aload_n rfl ?_
        refine q_getI (Sh.int hI916.1 kx_231 rfl) v933 hv933 ?_
        refine r_ifs 103 rfl (fun c950 => ?_) (fun c950 => ?_)
        · have c950_ : v933.toInt ≠ 0 := en_k_ne_t c950
          clear c941
          obtain ⟨i951, i952⟩ := MUSTP.y mu948 (by omega) (by omega)
          have i953 := BL.no hb909 (by omega)
          refine At.enter rfl ?_
          refine r_iconst 2 rfl ?_
          refine r_ireti ?_
          obtain ⟨v958, hv958⟩ : ∃ v, gJ g915 231 12 = v := ⟨_, rfl⟩
          have x959 := HI.eqJ hI916 (b := 12) (hv958)
          have x961 := HI.eqI hI916 (p := 231) (b := 17) ((((hF917.1 231 17 mf_X11_must_231_231_17).trans ((hF902.1 231 17 mf_X11_isSign_231_231_17).trans ((hF891.1 231 17 mf_X11_inner_231_231_17).trans ((hF870.1 231 17 mf_X11_isWord_231_231_17).trans (hF715.1 231 17 mf_X11_isWord_231_231_17))))).trans hv7))
          have x962 := HI.eqI hI916 (p := 231) (b := 23) ((((hF917.1 231 23 mf_X11_must_231_231_23).trans ((hF902.1 231 23 mf_X11_isSign_231_231_23).trans ((hF891.1 231 23 mf_X11_inner_231_231_23).trans ((hF870.1 231 23 mf_X11_isWord_231_231_23).trans (hF715.1 231 23 mf_X11_isWord_231_231_23))))).trans hv8))
          have zv964 : (2 : Int32).toInt = 2 := rfl
          have pg965 := PG.cong (hP.2.1 (by decide)) hI916 (((hF917.2.1 238 ma_X11_must_231_238).trans ((hF902.2.1 238 ma_X11_isSign_231_238).trans ((hF891.2.1 238 ma_X11_inner_231_238).trans ((hF870.2.1 238 ma_X11_isWord_231_238).trans (hF715.2.1 238 ma_X11_isWord_231_238)))))) (((hF917.2.1 239 ma_X11_must_231_239).trans ((hF902.2.1 239 ma_X11_isSign_231_239).trans ((hF891.2.1 239 ma_X11_inner_231_239).trans ((hF870.2.1 239 ma_X11_isWord_231_239).trans (hF715.2.1 239 ma_X11_isWord_231_239)))))) (((hF917.2.1 240 ma_X11_must_231_240).trans ((hF902.2.1 240 ma_X11_isSign_231_240).trans ((hF891.2.1 240 ma_X11_inner_231_240).trans ((hF870.2.1 240 ma_X11_isWord_231_240).trans (hF715.2.1 240 ma_X11_isWord_231_240)))))) (((hF917.2.1 241 ma_X11_must_231_241).trans ((hF902.2.1 241 ma_X11_isSign_231_241).trans ((hF891.2.1 241 ma_X11_inner_231_241).trans ((hF870.2.1 241 ma_X11_isWord_231_241).trans (hF715.2.1 241 ma_X11_isWord_231_241)))))) (((hF917.1 231 17 mf_X11_must_231_231_17).trans ((hF902.1 231 17 mf_X11_isSign_231_231_17).trans ((hF891.1 231 17 mf_X11_inner_231_231_17).trans ((hF870.1 231 17 mf_X11_isWord_231_231_17).trans (hF715.1 231 17 mf_X11_isWord_231_231_17)))))) (((hF917.1 231 23 mf_X11_must_231_231_23).trans ((hF902.1 231 23 mf_X11_isSign_231_231_23).trans ((hF891.1 231 23 mf_X11_inner_231_231_23).trans ((hF870.1 231 23 mf_X11_isWord_231_231_23).trans (hF715.1 231 23 mf_X11_isWord_231_231_23))))))
          have nsq966 := NSQ.cong (hP.2.2.1 (by decide) (by decide)) hI916 (((hF917.2.1 240 ma_X11_must_231_240).trans ((hF902.2.1 240 ma_X11_isSign_231_240).trans ((hF891.2.1 240 ma_X11_inner_231_240).trans ((hF870.2.1 240 ma_X11_isWord_231_240).trans (hF715.2.1 240 ma_X11_isWord_231_240)))))) (((hF917.1 231 23 mf_X11_must_231_231_23).trans ((hF902.1 231 23 mf_X11_isSign_231_231_23).trans ((hF891.1 231 23 mf_X11_inner_231_231_23).trans ((hF870.1 231 23 mf_X11_isWord_231_231_23).trans (hF715.1 231 23 mf_X11_isWord_231_231_23))))))
          obtain ⟨v970, hv970⟩ : ∃ v, gI g0 231 15 = v := ⟨_, rfl⟩
          have rv970 := RgF.at hI0.2.1 (p := 231) (b := 15) rfl
          rw [hv970] at rv970
          dsimp only at rv970
          have tv970 := congrArg Int32.toInt hv970
          have x971 := HI.eqI hI916 (p := 231) (b := 15) ((((hF917.1 231 15 mf_X11_must_231_231_15).trans ((hF902.1 231 15 mf_X11_isSign_231_231_15).trans ((hF891.1 231 15 mf_X11_inner_231_231_15).trans ((hF870.1 231 15 mf_X11_isWord_231_231_15).trans (hF715.1 231 15 mf_X11_isWord_231_231_15))))).trans hv970))
          obtain ⟨v972, hv972⟩ : ∃ v, gI g0 231 20 = v := ⟨_, rfl⟩
          have tv972 := congrArg Int32.toInt hv972
          have x973 := HI.eqI hI916 (p := 231) (b := 20) ((((hF917.1 231 20 mf_X11_must_231_231_20).trans ((hF902.1 231 20 mf_X11_isSign_231_231_20).trans ((hF891.1 231 20 mf_X11_inner_231_231_20).trans ((hF870.1 231 20 mf_X11_isWord_231_231_20).trans (hF715.1 231 20 mf_X11_isWord_231_231_20))))).trans hv972))
          obtain ⟨v975, hv975⟩ : ∃ v, gI g0 231 24 = v := ⟨_, rfl⟩
          have tv975 := congrArg Int32.toInt hv975
          have x976 := HI.eqI hI916 (p := 231) (b := 24) ((((hF917.1 231 24 mf_X11_must_231_231_24).trans ((hF902.1 231 24 mf_X11_isSign_231_231_24).trans ((hF891.1 231 24 mf_X11_inner_231_231_24).trans ((hF870.1 231 24 mf_X11_isWord_231_231_24).trans (hF715.1 231 24 mf_X11_isWord_231_231_24))))).trans hv975))
          have mf984 := mu948.2.2.1 (show (gI g0 231 14).toInt = 0 from by omega) (by omega)
          have y985 : (gI _ 231 14).toInt ≠ 0 := mf984.1
          have y986 : (gI _ 231 13).toInt = (gI g0 231 9).toInt := mf984.2
          first | (clear x723 x724 x725 x878 x879 x880 x898 hr717 hr872 hr893 hr904 c731_ c887_ zv899 zv964; exact ⟨_, rfl, hI916, hF920, _, rfl, by decide, ⟨by omega, by omega, by omega, by omega, c940, by omega, by omega, (fun hbad => ⟨by omega, (PT.mk (fun h => by first | exact absurd h (by decide) | (exfalso; omega)) (fun _ => pg965) (fun _ _ => nsq966) (fun h => by first | exact absurd h (by decide) | (exfalso; omega)))⟩), (fun hbad => by omega), hK949, (fun c0 b hC h => M.rndEF h (TKM.some hK).choose_spec (by omega) (by omega) inn896 ⟨by omega, INN.n31 inn896 (hP.2.2.1 (by decide) (by decide))⟩ (fun _ => ⟨show (gI _ 231 14).toInt ≠ 0 from by omega, show (gI _ 231 13).toInt = (gI g0 231 9).toInt from by omega⟩) (fun z => absurd (show (gI g0 231 14).toInt = 0 from (by first | exact h2 | omega)) z) _)⟩⟩) | exact ⟨_, rfl, hI916, hF920, _, rfl, by decide, ⟨by omega, by omega, by omega, by omega, c940, by omega, by omega, (fun hbad => ⟨by omega, (PT.mk (fun h => by first | exact absurd h (by decide) | (exfalso; omega)) (fun _ => pg965) (fun _ _ => nsq966) (fun h => by first | exact absurd h (by decide) | (exfalso; omega)))⟩), (fun hbad => by omega), hK949, (fun c0 b hC h => M.rndEF h (TKM.some hK).choose_spec (by omega) (by omega) inn896 ⟨by omega, INN.n31 inn896 (hP.2.2.1 (by decide) (by decide))⟩ (fun _ => ⟨show (gI _ 231 14).toInt ≠ 0 from by omega, show (gI _ 231 13).toInt = (gI g0 231 9).toInt from by omega⟩) (fun z => absurd (show (gI g0 231 14).toInt = 0 from (by first | exact h2 | omega)) z) _)⟩⟩
        · have c950_ : v933.toInt = 0 := en_k_ne_f c950
          obtain ⟨i987, i988, i989⟩ := c941 (by omega)
          obtain ⟨i990, i991⟩ := MUSTP.z mu948 (by omega) (by omega)
          have i992 := BL.yes hb909 (by omega)
          refine At.enter rfl ?_
          refine r_aload_n rfl ?_
          refine r_iconst 1 rfl ?_
          have x993 := HI.eqI hI916 (p := 231) (b := 17) ((((hF917.1 231 17 mf_X11_must_231_231_17).trans ((hF902.1 231 17 mf_X11_isSign_231_231_17).trans ((hF891.1 231 17 mf_X11_inner_231_231_17).trans ((hF870.1 231 17 mf_X11_isWord_231_231_17).trans (hF715.1 231 17 mf_X11_isWord_231_231_17))))).trans hv7))
          have x994 := HI.eqI hI916 (p := 231) (b := 23) ((((hF917.1 231 23 mf_X11_must_231_231_23).trans ((hF902.1 231 23 mf_X11_isSign_231_231_23).trans ((hF891.1 231 23 mf_X11_inner_231_231_23).trans ((hF870.1 231 23 mf_X11_isWord_231_231_23).trans (hF715.1 231 23 mf_X11_isWord_231_231_23))))).trans hv8))
          have zv995 : (1 : Int32).toInt = 1 := rfl
          refine r_callV 108 rfl [.ref 231, .int 1] [] (Nat.le_of_ble_eq_true rfl) rfl (T_X11_settle_231 _ hI916 1 (by decide) (by omega)) ?_
          rintro _ _ ⟨g996, rfl, hI997, hF998, rfl, hr1000⟩
          refine At.stn ?_
          have hF1001 := Fr.tr hF920 hF998 rfl rfl
          obtain ⟨sp1003, sq1004⟩ := hr1000
          have sq1005 := SETQ.fr sq1004 (((hF917.2.1 240 ma_X11_must_231_240).trans ((hF902.2.1 240 ma_X11_isSign_231_240).trans ((hF891.2.1 240 ma_X11_inner_231_240).trans ((hF870.2.1 240 ma_X11_isWord_231_240).trans (hF715.2.1 240 ma_X11_isWord_231_240)))))) (((hF917.1 231 23 mf_X11_must_231_231_23).trans ((hF902.1 231 23 mf_X11_isSign_231_231_23).trans ((hF891.1 231 23 mf_X11_inner_231_231_23).trans ((hF870.1 231 23 mf_X11_isWord_231_231_23).trans (hF715.1 231 23 mf_X11_isWord_231_231_23))))))
          obtain ⟨v1008, hv1008⟩ : ∃ v, gI g996 231 17 = v := ⟨_, rfl⟩
          have rv1008 := RgF.at hI997.2.1 (p := 231) (b := 17) rfl
          rw [hv1008] at rv1008
          dsimp only at rv1008
          have tv1008 := congrArg Int32.toInt hv1008
          obtain ⟨v1010, hv1010⟩ : ∃ v, gI g996 231 23 = v := ⟨_, rfl⟩
          have rv1010 := RgF.at hI997.2.1 (p := 231) (b := 23) rfl
          rw [hv1010] at rv1010
          dsimp only at rv1010
          have tv1010 := congrArg Int32.toInt hv1010
          have y1012 : (gI _ 231 23).toInt ≤ (gI _ 231 23).toInt := sp1003.1
          have y1013 : (gI _ 231 17).toInt + (gI _ 231 23).toInt ≤ (gI _ 231 17).toInt + (gI _ 231 23).toInt := sp1003.2.1
          have nsq1014 := NSQ.cong (hP.2.2.1 (by decide) (by decide)) hI916 (((hF917.2.1 240 ma_X11_must_231_240).trans ((hF902.2.1 240 ma_X11_isSign_231_240).trans ((hF891.2.1 240 ma_X11_inner_231_240).trans ((hF870.2.1 240 ma_X11_isWord_231_240).trans (hF715.2.1 240 ma_X11_isWord_231_240)))))) (((hF917.1 231 23 mf_X11_must_231_231_23).trans ((hF902.1 231 23 mf_X11_isSign_231_231_23).trans ((hF891.1 231 23 mf_X11_inner_231_231_23).trans ((hF870.1 231 23 mf_X11_isWord_231_231_23).trans (hF715.1 231 23 mf_X11_isWord_231_231_23))))))
          have pg1015 := PG.cong (hP.2.1 (by decide)) hI916 (((hF917.2.1 238 ma_X11_must_231_238).trans ((hF902.2.1 238 ma_X11_isSign_231_238).trans ((hF891.2.1 238 ma_X11_inner_231_238).trans ((hF870.2.1 238 ma_X11_isWord_231_238).trans (hF715.2.1 238 ma_X11_isWord_231_238)))))) (((hF917.2.1 239 ma_X11_must_231_239).trans ((hF902.2.1 239 ma_X11_isSign_231_239).trans ((hF891.2.1 239 ma_X11_inner_231_239).trans ((hF870.2.1 239 ma_X11_isWord_231_239).trans (hF715.2.1 239 ma_X11_isWord_231_239)))))) (((hF917.2.1 240 ma_X11_must_231_240).trans ((hF902.2.1 240 ma_X11_isSign_231_240).trans ((hF891.2.1 240 ma_X11_inner_231_240).trans ((hF870.2.1 240 ma_X11_isWord_231_240).trans (hF715.2.1 240 ma_X11_isWord_231_240)))))) (((hF917.2.1 241 ma_X11_must_231_241).trans ((hF902.2.1 241 ma_X11_isSign_231_241).trans ((hF891.2.1 241 ma_X11_inner_231_241).trans ((hF870.2.1 241 ma_X11_isWord_231_241).trans (hF715.2.1 241 ma_X11_isWord_231_241)))))) (((hF917.1 231 17 mf_X11_must_231_231_17).trans ((hF902.1 231 17 mf_X11_isSign_231_231_17).trans ((hF891.1 231 17 mf_X11_inner_231_231_17).trans ((hF870.1 231 17 mf_X11_isWord_231_231_17).trans (hF715.1 231 17 mf_X11_isWord_231_231_17)))))) (((hF917.1 231 23 mf_X11_must_231_231_23).trans ((hF902.1 231 23 mf_X11_isSign_231_231_23).trans ((hF891.1 231 23 mf_X11_inner_231_231_23).trans ((hF870.1 231 23 mf_X11_isWord_231_231_23).trans (hF715.1 231 23 mf_X11_isWord_231_231_23))))))
          have inn1017 := INN.cong inn895 hI916 (((hF917.2.1 240 ma_X11_must_231_240).trans (hF902.2.1 240 ma_X11_isSign_231_240))) (((hF917.1 231 23 mf_X11_must_231_231_23).trans (hF902.1 231 23 mf_X11_isSign_231_231_23)))
          have top1018 := SETP.close1 sp1003 (by omega) inn1017 (by omega)
          have y1019 : 1 ≤ (gI _ 231 23).toInt := top1018.1
          have pg1016 := sp1003.2.2.1 _ _ _ pg1015
          have nsq1020 := NSQ.le nsq1014 hI997 sp1003.2.2.2.2.1 sp1003.1
          refine At.enter rfl ?_
          refine r_aload_n rfl ?_
          refine r_dup rfl ?_
          refine q_getI (Sh.int hI997.1 kx_231 rfl) v1010 hv1010 ?_
          refine r_iconst 1 rfl ?_
          refine q_isub (v1010.toInt - 1) rfl (by omega) (fun v1021 hv1021 => ?_)
          refine q_putI (Sh.int hI997.1 kx_231 rfl) rfl ?_
          have hI1022 := HI.wI1 hI997 kx_231 rfl (p := 231) (b := 23) (v := v1021) rfl (by dsimp only; omega)
          have hF1023 := Fr.wI (p := 231) (b := 23) (v := v1021) hF1001 rfl
          refine r_aload_n rfl ?_
          refine r_dup rfl ?_
          obtain ⟨v1024, hv1024⟩ : ∃ v, gI g0 231 24 = v := ⟨_, rfl⟩
          refine q_getI (Sh.int hI1022.1 kx_231 rfl) v1024 (((gI_sI_ne (by decide)).trans ((hF998.1 231 24 mf_X11_settle_231_231_24).trans ((hF917.1 231 24 mf_X11_must_231_231_24).trans ((hF902.1 231 24 mf_X11_isSign_231_231_24).trans ((hF891.1 231 24 mf_X11_inner_231_231_24).trans ((hF870.1 231 24 mf_X11_isWord_231_231_24).trans (hF715.1 231 24 mf_X11_isWord_231_231_24))))))).trans hv1024) ?_
          refine r_iconst 1 rfl ?_
          refine q_isubO (fun v1025 ov1025 => ?_)
          refine q_putI (Sh.int hI1022.1 kx_231 rfl) rfl ?_
          have hI1026 := HI.wI0 hI1022 kx_231 rfl (p := 231) (b := 24) (v := v1025) rfl
          have hF1027 := Fr.wI (p := 231) (b := 24) (v := v1025) hF1023 rfl
          refine Ar.fall 128 rfl ?_
          refine At.enter rfl ?_
          refine r_iconst 2 rfl ?_
          refine r_ireti ?_
          have x1028 := HI.eqI hI1026 (p := 231) (b := 8) ((((gI_sI_ne (by decide)).trans ((gI_sI_ne (by decide)).trans ((hF998.1 231 8 mf_X11_settle_231_231_8).trans ((hF917.1 231 8 mf_X11_must_231_231_8).trans ((hF902.1 231 8 mf_X11_isSign_231_231_8).trans ((hF891.1 231 8 mf_X11_inner_231_231_8).trans ((hF870.1 231 8 mf_X11_isWord_231_231_8).trans (hF715.1 231 8 mf_X11_isWord_231_231_8)))))))).trans hv1))
          have x1029 := HI.eqI hI1026 (p := 231) (b := 9) ((((gI_sI_ne (by decide)).trans ((gI_sI_ne (by decide)).trans (hF998.1 231 9 mf_X11_settle_231_231_9))).trans hv927))
          have x1030 := HI.eqI hI1026 (p := 231) (b := 10) ((((gI_sI_ne (by decide)).trans ((gI_sI_ne (by decide)).trans (hF998.1 231 10 mf_X11_settle_231_231_10))).trans hv929))
          have x1031 := HI.eqI hI1026 (p := 231) (b := 11) ((((gI_sI_ne (by decide)).trans ((gI_sI_ne (by decide)).trans (hF998.1 231 11 mf_X11_settle_231_231_11))).trans hv931))
          obtain ⟨v1032, hv1032⟩ : ∃ v, gJ g915 231 12 = v := ⟨_, rfl⟩
          have x1033 := HI.eqJ hI1026 (b := 12) ((((gJ_sI_ne (by decide)).trans ((gJ_sI_ne (by decide)).trans (hF998.2.2 231 12 mf_X11_settle_231_231_12))).trans hv1032))
          have x1034 := HI.eqI hI1026 (p := 231) (b := 14) ((((gI_sI_ne (by decide)).trans ((gI_sI_ne (by decide)).trans (hF998.1 231 14 mf_X11_settle_231_231_14))).trans hv933))
          have x1035 := HI.eqI hI1026 (p := 231) (b := 17) ((((gI_sI_ne (by decide)).trans (gI_sI_ne (by decide))).trans hv1008))
          have x1036 := HI.eqI hI1026 (p := 231) (b := 23) (((gI_sI_ne (by decide)).trans (gI_sI_eq hI997.1 kx_231 rfl _)))
          have zv1038 : (2 : Int32).toInt = 2 := rfl
          have pg1039 := PG.popB pg1016 hI1026 (((gA_sI).trans (gA_sI))) (((gA_sI).trans (gA_sI))) (((gA_sI).trans (gA_sI))) (((gA_sI).trans (gA_sI))) (((gI_sI_ne (by decide)).trans (gI_sI_ne (by decide)))) (by show (gI _ 231 23).toInt = (gI _ 231 23).toInt - 1; omega) top1018.1 top1018.2
          have nsq1041 := NSQ.le nsq1020 hI1026 (((gA_sI).trans (gA_sI))) (by show (gI _ 231 23).toInt ≤ (gI _ 231 23).toInt; omega)
          have w261043 := W26.cong c940 hI1026 (((gI_sI_ne (by decide)).trans ((gI_sI_ne (by decide)).trans (hF998.1 231 9 mf_X11_settle_231_231_9)))) (((gI_sI_ne (by decide)).trans ((gI_sI_ne (by decide)).trans (hF998.1 231 10 mf_X11_settle_231_231_10)))) (((gI_sI_ne (by decide)).trans ((gI_sI_ne (by decide)).trans (hF998.1 231 11 mf_X11_settle_231_231_11)))) (((gJ_sI_ne (by decide)).trans ((gJ_sI_ne (by decide)).trans (hF998.2.2 231 12 mf_X11_settle_231_231_12))))
          have x1045 := HI.eqI hI1026 (p := 231) (b := 13) ((((gI_sI_ne (by decide)).trans ((gI_sI_ne (by decide)).trans (hF998.1 231 13 mf_X11_settle_231_231_13))).trans hv946))
          obtain ⟨v1047, hv1047⟩ : ∃ v, gI g0 231 15 = v := ⟨_, rfl⟩
          have rv1047 := RgF.at hI0.2.1 (p := 231) (b := 15) rfl
          rw [hv1047] at rv1047
          dsimp only at rv1047
          have tv1047 := congrArg Int32.toInt hv1047
          have x1048 := HI.eqI hI1026 (p := 231) (b := 15) ((((gI_sI_ne (by decide)).trans ((gI_sI_ne (by decide)).trans ((hF998.1 231 15 mf_X11_settle_231_231_15).trans ((hF917.1 231 15 mf_X11_must_231_231_15).trans ((hF902.1 231 15 mf_X11_isSign_231_231_15).trans ((hF891.1 231 15 mf_X11_inner_231_231_15).trans ((hF870.1 231 15 mf_X11_isWord_231_231_15).trans (hF715.1 231 15 mf_X11_isWord_231_231_15)))))))).trans hv1047))
          obtain ⟨v1049, hv1049⟩ : ∃ v, gI g0 231 20 = v := ⟨_, rfl⟩
          have tv1049 := congrArg Int32.toInt hv1049
          have x1050 := HI.eqI hI1026 (p := 231) (b := 20) ((((gI_sI_ne (by decide)).trans ((gI_sI_ne (by decide)).trans ((hF998.1 231 20 mf_X11_settle_231_231_20).trans ((hF917.1 231 20 mf_X11_must_231_231_20).trans ((hF902.1 231 20 mf_X11_isSign_231_231_20).trans ((hF891.1 231 20 mf_X11_inner_231_231_20).trans ((hF870.1 231 20 mf_X11_isWord_231_231_20).trans (hF715.1 231 20 mf_X11_isWord_231_231_20)))))))).trans hv1049))
          have x1052 := HI.eqI hI1026 (p := 231) (b := 24) ((gI_sI_eq hI1022.1 kx_231 rfl _))
          have x1059 := HI.eqI hI0 (p := 231) (b := 24) (hv1024)
          have x1061 := HI.eqI hI997 (p := 231) (b := 24) ((((hF998.1 231 24 mf_X11_settle_231_231_24).trans ((hF917.1 231 24 mf_X11_must_231_231_24).trans ((hF902.1 231 24 mf_X11_isSign_231_231_24).trans ((hF891.1 231 24 mf_X11_inner_231_231_24).trans ((hF870.1 231 24 mf_X11_isWord_231_231_24).trans (hF715.1 231 24 mf_X11_isWord_231_231_24)))))).trans hv1024))
          have y1066 : (gI g915 231 13).toInt = (gI g0 231 13).toInt := (mu948.2.1 (show (gI g0 231 14).toInt = 0 from by omega) (by omega)).2.1
          first | (clear x723 x724 x725 x878 x879 x880 x898 hr717 hr872 hr893 hr904 c731_ c887_ zv899 zv1038; exact ⟨_, rfl, hI1026, hF1027, _, rfl, by decide, ⟨by omega, by omega, by omega, by omega, w261043, by omega, by omega, (fun hbad => ⟨by omega, (PT.mk (fun h => by first | exact absurd h (by decide) | (exfalso; omega)) (fun _ => pg1039) (fun _ _ => nsq1041) (fun h => by first | exact absurd h (by decide) | (exfalso; omega)))⟩), (fun hbad => by omega), (TKM.c hK949 (((gA_sI).trans ((gA_sI).trans (hF998.2.1 236 ma_X11_settle_231_236)))) (((gI_sI_ne (by decide)).trans ((gI_sI_ne (by decide)).trans (hF998.1 231 8 mf_X11_settle_231_231_8)))) (((gI_sI_ne (by decide)).trans ((gI_sI_ne (by decide)).trans (hF998.1 231 9 mf_X11_settle_231_231_9)))) (((gI_sI_ne (by decide)).trans ((gI_sI_ne (by decide)).trans (hF998.1 231 10 mf_X11_settle_231_231_10)))) (((gI_sI_ne (by decide)).trans ((gI_sI_ne (by decide)).trans (hF998.1 231 11 mf_X11_settle_231_231_11)))) (((gJ_sI_ne (by decide)).trans ((gJ_sI_ne (by decide)).trans (hF998.2.2 231 12 mf_X11_settle_231_231_12))))), (fun c0 b hC h => M.rndE h (by rw [pI.c (((gI_sI_ne (by decide)).trans ((gI_sI_ne (by decide)).trans (hF998.1 231 9 mf_X11_settle_231_231_9))))]; exact (MUSTP.tok hK mu948 (by omega) (by omega))) (by omega) inn896 ⟨by omega, INN.n31 inn896 (hP.2.2.1 (by decide) (by decide))⟩ sq1005 (pI.c (((hF998.1 231 24 mf_X11_settle_231_231_24).trans ((hF917.1 231 24 mf_X11_must_231_231_24).trans ((hF902.1 231 24 mf_X11_isSign_231_231_24).trans ((hF891.1 231 24 mf_X11_inner_231_231_24).trans ((hF870.1 231 24 mf_X11_isWord_231_231_24).trans (hF715.1 231 24 mf_X11_isWord_231_231_24)))))))) (((gA_sI).trans (gA_sI))) (show (gI _ 231 23).toInt = (gI g996 231 23).toInt - 1 from by omega) top1018.1 top1018.2 (fun hz => (show (gI _ 231 24).toInt = (gI g996 231 24).toInt - 1 from by have hz2 : 0 ≤ (gI g996 231 24).toInt := hz; have b := q_bnd v1024; have z1 : (1 : Int32).toInt = 1 := rfl; have z := isub_e ov1025 (by omega) (by omega); omega)) (show (gI _ 231 20).toInt = (gI g0 231 20).toInt from (by first | exact x1050.trans tv1049.symm | omega)) (show (gI _ 231 15).toInt = (gI g0 231 15).toInt from (by first | exact x1048.trans tv1047.symm | omega)) (fun _ => ⟨show (gI _ 231 14).toInt = 0 from by omega, show (gI _ 231 13).toInt = (gI g0 231 13).toInt from by omega⟩) (fun z => absurd (show (gI g0 231 14).toInt = 0 from (by first | exact h2 | omega)) z))⟩⟩) | exact ⟨_, rfl, hI1026, hF1027, _, rfl, by decide, ⟨by omega, by omega, by omega, by omega, w261043, by omega, by omega, (fun hbad => ⟨by omega, (PT.mk (fun h => by first | exact absurd h (by decide) | (exfalso; omega)) (fun _ => pg1039) (fun _ _ => nsq1041) (fun h => by first | exact absurd h (by decide) | (exfalso; omega)))⟩), (fun hbad => by omega), (TKM.c hK949 (((gA_sI).trans ((gA_sI).trans (hF998.2.1 236 ma_X11_settle_231_236)))) (((gI_sI_ne (by decide)).trans ((gI_sI_ne (by decide)).trans (hF998.1 231 8 mf_X11_settle_231_231_8)))) (((gI_sI_ne (by decide)).trans ((gI_sI_ne (by decide)).trans (hF998.1 231 9 mf_X11_settle_231_231_9)))) (((gI_sI_ne (by decide)).trans ((gI_sI_ne (by decide)).trans (hF998.1 231 10 mf_X11_settle_231_231_10)))) (((gI_sI_ne (by decide)).trans ((gI_sI_ne (by decide)).trans (hF998.1 231 11 mf_X11_settle_231_231_11)))) (((gJ_sI_ne (by decide)).trans ((gJ_sI_ne (by decide)).trans (hF998.2.2 231 12 mf_X11_settle_231_231_12))))), (fun c0 b hC h => M.rndE h (by rw [pI.c (((gI_sI_ne (by decide)).trans ((gI_sI_ne (by decide)).trans (hF998.1 231 9 mf_X11_settle_231_231_9))))]; exact (MUSTP.tok hK mu948 (by omega) (by omega))) (by omega) inn896 ⟨by omega, INN.n31 inn896 (hP.2.2.1 (by decide) (by decide))⟩ sq1005 (pI.c (((hF998.1 231 24 mf_X11_settle_231_231_24).trans ((hF917.1 231 24 mf_X11_must_231_231_24).trans ((hF902.1 231 24 mf_X11_isSign_231_231_24).trans ((hF891.1 231 24 mf_X11_inner_231_231_24).trans ((hF870.1 231 24 mf_X11_isWord_231_231_24).trans (hF715.1 231 24 mf_X11_isWord_231_231_24)))))))) (((gA_sI).trans (gA_sI))) (show (gI _ 231 23).toInt = (gI g996 231 23).toInt - 1 from by omega) top1018.1 top1018.2 (fun hz => (show (gI _ 231 24).toInt = (gI g996 231 24).toInt - 1 from by have hz2 : 0 ≤ (gI g996 231 24).toInt := hz; have b := q_bnd v1024; have z1 : (1 : Int32).toInt = 1 := rfl; have z := isub_e ov1025 (by omega) (by omega); omega)) (show (gI _ 231 20).toInt = (gI g0 231 20).toInt from (by first | exact x1050.trans tv1049.symm | omega)) (show (gI _ 231 15).toInt = (gI g0 231 15).toInt from (by first | exact x1048.trans tv1047.symm | omega)) (fun _ => ⟨show (gI _ 231 14).toInt = 0 from by omega, show (gI _ 231 13).toInt = (gI g0 231 13).toInt from by omega⟩) (fun z => absurd (show (gI g0 231 14).toInt = 0 from (by first | exact h2 | omega)) z))⟩⟩
      · have c897_ : v892.toInt = (-1) := en_i_ne_f c897
        refine At.enter rfl ?_
        refine r_iconst 4 rfl ?_
        refine r_ireti ?_
        have x1067 := HI.eqI hI890 (p := 231) (b := 8) ((((hF891.1 231 8 mf_X11_inner_231_231_8).trans ((hF870.1 231 8 mf_X11_isWord_231_231_8).trans (hF715.1 231 8 mf_X11_isWord_231_231_8))).trans hv1))
        have x1068 := HI.eqI hI890 (p := 231) (b := 9) ((((hF891.1 231 9 mf_X11_inner_231_231_9).trans ((hF870.1 231 9 mf_X11_isWord_231_231_9).trans (hF715.1 231 9 mf_X11_isWord_231_231_9))).trans hv2))
        have x1069 := HI.eqI hI890 (p := 231) (b := 10) ((((hF891.1 231 10 mf_X11_inner_231_231_10).trans ((hF870.1 231 10 mf_X11_isWord_231_231_10).trans (hF715.1 231 10 mf_X11_isWord_231_231_10))).trans hv3))
        have x1070 := HI.eqI hI890 (p := 231) (b := 11) ((((hF891.1 231 11 mf_X11_inner_231_231_11).trans ((hF870.1 231 11 mf_X11_isWord_231_231_11).trans (hF715.1 231 11 mf_X11_isWord_231_231_11))).trans hv4))
        have x1071 := HI.eqJ hI890 (b := 12) ((((hF891.2.2 231 12 mf_X11_inner_231_231_12).trans ((hF870.2.2 231 12 mf_X11_isWord_231_231_12).trans (hF715.2.2 231 12 mf_X11_isWord_231_231_12))).trans hv5))
        have x1072 := HI.eqI hI890 (p := 231) (b := 14) ((((hF891.1 231 14 mf_X11_inner_231_231_14).trans ((hF870.1 231 14 mf_X11_isWord_231_231_14).trans (hF715.1 231 14 mf_X11_isWord_231_231_14))).trans hv6))
        have x1073 := HI.eqI hI890 (p := 231) (b := 17) ((((hF891.1 231 17 mf_X11_inner_231_231_17).trans ((hF870.1 231 17 mf_X11_isWord_231_231_17).trans (hF715.1 231 17 mf_X11_isWord_231_231_17))).trans hv7))
        have x1074 := HI.eqI hI890 (p := 231) (b := 23) ((((hF891.1 231 23 mf_X11_inner_231_231_23).trans ((hF870.1 231 23 mf_X11_isWord_231_231_23).trans (hF715.1 231 23 mf_X11_isWord_231_231_23))).trans hv8))
        have zv1076 : (4 : Int32).toInt = 4 := rfl
        have pg1077 := PG.cong (hP.2.1 (by decide)) hI890 (((hF891.2.1 238 ma_X11_inner_231_238).trans ((hF870.2.1 238 ma_X11_isWord_231_238).trans (hF715.2.1 238 ma_X11_isWord_231_238)))) (((hF891.2.1 239 ma_X11_inner_231_239).trans ((hF870.2.1 239 ma_X11_isWord_231_239).trans (hF715.2.1 239 ma_X11_isWord_231_239)))) (((hF891.2.1 240 ma_X11_inner_231_240).trans ((hF870.2.1 240 ma_X11_isWord_231_240).trans (hF715.2.1 240 ma_X11_isWord_231_240)))) (((hF891.2.1 241 ma_X11_inner_231_241).trans ((hF870.2.1 241 ma_X11_isWord_231_241).trans (hF715.2.1 241 ma_X11_isWord_231_241)))) (((hF891.1 231 17 mf_X11_inner_231_231_17).trans ((hF870.1 231 17 mf_X11_isWord_231_231_17).trans (hF715.1 231 17 mf_X11_isWord_231_231_17)))) (((hF891.1 231 23 mf_X11_inner_231_231_23).trans ((hF870.1 231 23 mf_X11_isWord_231_231_23).trans (hF715.1 231 23 mf_X11_isWord_231_231_23))))
        have nsq1078 := NSQ.cong (hP.2.2.1 (by decide) (by decide)) hI890 (((hF891.2.1 240 ma_X11_inner_231_240).trans ((hF870.2.1 240 ma_X11_isWord_231_240).trans (hF715.2.1 240 ma_X11_isWord_231_240)))) (((hF891.1 231 23 mf_X11_inner_231_231_23).trans ((hF870.1 231 23 mf_X11_isWord_231_231_23).trans (hF715.1 231 23 mf_X11_isWord_231_231_23))))
        have w261079 := W26.cong hW hI890 (((hF891.1 231 9 mf_X11_inner_231_231_9).trans ((hF870.1 231 9 mf_X11_isWord_231_231_9).trans (hF715.1 231 9 mf_X11_isWord_231_231_9)))) (((hF891.1 231 10 mf_X11_inner_231_231_10).trans ((hF870.1 231 10 mf_X11_isWord_231_231_10).trans (hF715.1 231 10 mf_X11_isWord_231_231_10)))) (((hF891.1 231 11 mf_X11_inner_231_231_11).trans ((hF870.1 231 11 mf_X11_isWord_231_231_11).trans (hF715.1 231 11 mf_X11_isWord_231_231_11)))) (((hF891.2.2 231 12 mf_X11_inner_231_231_12).trans ((hF870.2.2 231 12 mf_X11_isWord_231_231_12).trans (hF715.2.2 231 12 mf_X11_isWord_231_231_12))))
        obtain ⟨v1081, hv1081⟩ : ∃ v, gI g0 231 13 = v := ⟨_, rfl⟩
        have tv1081 := congrArg Int32.toInt hv1081
        have x1082 := HI.eqI hI890 (p := 231) (b := 13) ((((hF891.1 231 13 mf_X11_inner_231_231_13).trans ((hF870.1 231 13 mf_X11_isWord_231_231_13).trans (hF715.1 231 13 mf_X11_isWord_231_231_13))).trans hv1081))
        obtain ⟨v1084, hv1084⟩ : ∃ v, gI g0 231 15 = v := ⟨_, rfl⟩
        have rv1084 := RgF.at hI0.2.1 (p := 231) (b := 15) rfl
        rw [hv1084] at rv1084
        dsimp only at rv1084
        have tv1084 := congrArg Int32.toInt hv1084
        have x1085 := HI.eqI hI890 (p := 231) (b := 15) ((((hF891.1 231 15 mf_X11_inner_231_231_15).trans ((hF870.1 231 15 mf_X11_isWord_231_231_15).trans (hF715.1 231 15 mf_X11_isWord_231_231_15))).trans hv1084))
        obtain ⟨v1086, hv1086⟩ : ∃ v, gI g0 231 20 = v := ⟨_, rfl⟩
        have tv1086 := congrArg Int32.toInt hv1086
        have x1087 := HI.eqI hI890 (p := 231) (b := 20) ((((hF891.1 231 20 mf_X11_inner_231_231_20).trans ((hF870.1 231 20 mf_X11_isWord_231_231_20).trans (hF715.1 231 20 mf_X11_isWord_231_231_20))).trans hv1086))
        obtain ⟨v1089, hv1089⟩ : ∃ v, gI g0 231 24 = v := ⟨_, rfl⟩
        have tv1089 := congrArg Int32.toInt hv1089
        have x1090 := HI.eqI hI890 (p := 231) (b := 24) ((((hF891.1 231 24 mf_X11_inner_231_231_24).trans ((hF870.1 231 24 mf_X11_isWord_231_231_24).trans (hF715.1 231 24 mf_X11_isWord_231_231_24))).trans hv1089))
        first | (clear x723 x724 x725 x878 x879 x880 hr717 hr872 hr893 c731_ c887_ zv1076; exact ⟨_, rfl, hI890, hF894, _, rfl, by decide, ⟨by omega, by omega, by omega, by omega, w261079, by omega, by omega, (fun hbad => ⟨by omega, (PT.mk (fun h => by first | exact absurd h (by decide) | (exfalso; omega)) (fun _ => pg1077) (fun _ _ => nsq1078) (fun _ => INN.nbr (INN.eq inn895 (by omega))))⟩), (fun hbad => by omega), (TKM.c hK (((hF891.2.1 236 ma_X11_inner_231_236).trans ((hF870.2.1 236 ma_X11_isWord_231_236).trans (hF715.2.1 236 ma_X11_isWord_231_236)))) (((hF891.1 231 8 mf_X11_inner_231_231_8).trans ((hF870.1 231 8 mf_X11_isWord_231_231_8).trans (hF715.1 231 8 mf_X11_isWord_231_231_8)))) (((hF891.1 231 9 mf_X11_inner_231_231_9).trans ((hF870.1 231 9 mf_X11_isWord_231_231_9).trans (hF715.1 231 9 mf_X11_isWord_231_231_9)))) (((hF891.1 231 10 mf_X11_inner_231_231_10).trans ((hF870.1 231 10 mf_X11_isWord_231_231_10).trans (hF715.1 231 10 mf_X11_isWord_231_231_10)))) (((hF891.1 231 11 mf_X11_inner_231_231_11).trans ((hF870.1 231 11 mf_X11_isWord_231_231_11).trans (hF715.1 231 11 mf_X11_isWord_231_231_11)))) (((hF891.2.2 231 12 mf_X11_inner_231_231_12).trans ((hF870.2.2 231 12 mf_X11_isWord_231_231_12).trans (hF715.2.2 231 12 mf_X11_isWord_231_231_12))))), (fun c0 b hC h => M.test h (TKM.some hK).choose_spec (by omega) inn896 (by omega) (((hF891.2.1 240 ma_X11_inner_231_240).trans ((hF870.2.1 240 ma_X11_isWord_231_240).trans (hF715.2.1 240 ma_X11_isWord_231_240)))) (show (gI _ 231 23).toInt = (gI g0 231 23).toInt from (by first | exact x1074.trans tv8.symm | omega)) (show (gI _ 231 24).toInt = (gI g0 231 24).toInt from (by first | exact x1090.trans tv1089.symm | omega)) (show (gI _ 231 9).toInt = (gI g0 231 9).toInt from (by first | exact x1068.trans tv2.symm | omega)) (show (gI _ 231 20).toInt = (gI g0 231 20).toInt from (by first | exact x1087.trans tv1086.symm | omega)) (show (gI _ 231 15).toInt = (gI g0 231 15).toInt from (by first | exact x1085.trans tv1084.symm | omega)) (fun _ => ⟨show (gI _ 231 14).toInt = 0 from by omega, show (gI _ 231 13).toInt = (gI g0 231 13).toInt from (by first | exact x1082.trans tv1081.symm | omega)⟩) (fun z => absurd (show (gI g0 231 14).toInt = 0 from (by first | exact h2 | omega)) z))⟩⟩) | exact ⟨_, rfl, hI890, hF894, _, rfl, by decide, ⟨by omega, by omega, by omega, by omega, w261079, by omega, by omega, (fun hbad => ⟨by omega, (PT.mk (fun h => by first | exact absurd h (by decide) | (exfalso; omega)) (fun _ => pg1077) (fun _ _ => nsq1078) (fun _ => INN.nbr (INN.eq inn895 (by omega))))⟩), (fun hbad => by omega), (TKM.c hK (((hF891.2.1 236 ma_X11_inner_231_236).trans ((hF870.2.1 236 ma_X11_isWord_231_236).trans (hF715.2.1 236 ma_X11_isWord_231_236)))) (((hF891.1 231 8 mf_X11_inner_231_231_8).trans ((hF870.1 231 8 mf_X11_isWord_231_231_8).trans (hF715.1 231 8 mf_X11_isWord_231_231_8)))) (((hF891.1 231 9 mf_X11_inner_231_231_9).trans ((hF870.1 231 9 mf_X11_isWord_231_231_9).trans (hF715.1 231 9 mf_X11_isWord_231_231_9)))) (((hF891.1 231 10 mf_X11_inner_231_231_10).trans ((hF870.1 231 10 mf_X11_isWord_231_231_10).trans (hF715.1 231 10 mf_X11_isWord_231_231_10)))) (((hF891.1 231 11 mf_X11_inner_231_231_11).trans ((hF870.1 231 11 mf_X11_isWord_231_231_11).trans (hF715.1 231 11 mf_X11_isWord_231_231_11)))) (((hF891.2.2 231 12 mf_X11_inner_231_231_12).trans ((hF870.2.2 231 12 mf_X11_isWord_231_231_12).trans (hF715.2.2 231 12 mf_X11_isWord_231_231_12))))), (fun c0 b hC h => M.test h (TKM.some hK).choose_spec (by omega) inn896 (by omega) (((hF891.2.1 240 ma_X11_inner_231_240).trans ((hF870.2.1 240 ma_X11_isWord_231_240).trans (hF715.2.1 240 ma_X11_isWord_231_240)))) (show (gI _ 231 23).toInt = (gI g0 231 23).toInt from (by first | exact x1074.trans tv8.symm | omega)) (show (gI _ 231 24).toInt = (gI g0 231 24).toInt from (by first | exact x1090.trans tv1089.symm | omega)) (show (gI _ 231 9).toInt = (gI g0 231 9).toInt from (by first | exact x1068.trans tv2.symm | omega)) (show (gI _ 231 20).toInt = (gI g0 231 20).toInt from (by first | exact x1087.trans tv1086.symm | omega)) (show (gI _ 231 15).toInt = (gI g0 231 15).toInt from (by first | exact x1085.trans tv1084.symm | omega)) (fun _ => ⟨show (gI _ 231 14).toInt = 0 from by omega, show (gI _ 231 13).toInt = (gI g0 231 13).toInt from (by first | exact x1082.trans tv1081.symm | omega)⟩) (fun z => absurd (show (gI g0 231 14).toInt = 0 from (by first | exact h2 | omega)) z))⟩⟩
    · have c887_ : v871.toInt ≠ 0 := en_k_eq_f c887
      have i1098 := W26.two w26885 isw882 (by omega) (by decide)
      have i1099 := BL.yes hb886 (by omega)
      refine At.enter rfl ?_
      refine r_aload_n rfl ?_
      refine r_iload_n rfl ?_
      refine r_ifs 27 rfl (fun c1100 => ?_) (fun c1100 => ?_)
      · have c1100_ : v716.toInt = 0 := en_k_eq_t c1100
        refine At.enter rfl ?_
        refine r_iconst 1 rfl ?_
        refine Ar.fall 32 rfl ?_
        refine At.enter rfl ?_
        have x1102 := HI.eqI hI869 (p := 231) (b := 17) ((((hF870.1 231 17 mf_X11_isWord_231_231_17).trans (hF715.1 231 17 mf_X11_isWord_231_231_17)).trans hv7))
        have x1103 := HI.eqI hI869 (p := 231) (b := 23) ((((hF870.1 231 23 mf_X11_isWord_231_231_23).trans (hF715.1 231 23 mf_X11_isWord_231_231_23)).trans hv8))
        have zv1104 : (1 : Int32).toInt = 1 := rfl
        refine r_callV 35 rfl [.ref 231, .int 1] [] (Nat.le_of_ble_eq_true rfl) rfl (T_X11_settle_231 _ hI869 1 (by decide) (by omega)) ?_
        rintro _ _ ⟨g1105, rfl, hI1106, hF1107, rfl, hr1109⟩
        refine At.stn ?_
        have hF1110 := Fr.tr hF873 hF1107 rfl rfl
        obtain ⟨sp1112, sq1113⟩ := hr1109
        have sq1114 := SETQ.fr sq1113 (((hF870.2.1 240 ma_X11_isWord_231_240).trans (hF715.2.1 240 ma_X11_isWord_231_240))) (((hF870.1 231 23 mf_X11_isWord_231_231_23).trans (hF715.1 231 23 mf_X11_isWord_231_231_23)))
        obtain ⟨v1117, hv1117⟩ : ∃ v, gI g1105 231 17 = v := ⟨_, rfl⟩
        have rv1117 := RgF.at hI1106.2.1 (p := 231) (b := 17) rfl
        rw [hv1117] at rv1117
        dsimp only at rv1117
        have tv1117 := congrArg Int32.toInt hv1117
        obtain ⟨v1119, hv1119⟩ : ∃ v, gI g1105 231 23 = v := ⟨_, rfl⟩
        have rv1119 := RgF.at hI1106.2.1 (p := 231) (b := 23) rfl
        rw [hv1119] at rv1119
        dsimp only at rv1119
        have tv1119 := congrArg Int32.toInt hv1119
        have y1121 : (gI _ 231 23).toInt ≤ (gI _ 231 23).toInt := sp1112.1
        have y1122 : (gI _ 231 17).toInt + (gI _ 231 23).toInt ≤ (gI _ 231 17).toInt + (gI _ 231 23).toInt := sp1112.2.1
        have nsq1123 := NSQ.cong (hP.2.2.1 (by decide) (by decide)) hI869 (((hF870.2.1 240 ma_X11_isWord_231_240).trans (hF715.2.1 240 ma_X11_isWord_231_240))) (((hF870.1 231 23 mf_X11_isWord_231_231_23).trans (hF715.1 231 23 mf_X11_isWord_231_231_23)))
        have pg1124 := PG.cong (hP.2.1 (by decide)) hI869 (((hF870.2.1 238 ma_X11_isWord_231_238).trans (hF715.2.1 238 ma_X11_isWord_231_238))) (((hF870.2.1 239 ma_X11_isWord_231_239).trans (hF715.2.1 239 ma_X11_isWord_231_239))) (((hF870.2.1 240 ma_X11_isWord_231_240).trans (hF715.2.1 240 ma_X11_isWord_231_240))) (((hF870.2.1 241 ma_X11_isWord_231_241).trans (hF715.2.1 241 ma_X11_isWord_231_241))) (((hF870.1 231 17 mf_X11_isWord_231_231_17).trans (hF715.1 231 17 mf_X11_isWord_231_231_17))) (((hF870.1 231 23 mf_X11_isWord_231_231_23).trans (hF715.1 231 23 mf_X11_isWord_231_231_23)))
        have pg1125 := sp1112.2.2.1 _ _ _ pg1124
        have nsq1126 := NSQ.le nsq1123 hI1106 sp1112.2.2.2.2.1 sp1112.1
        refine At.enter rfl ?_
        refine r_aload_n rfl ?_
        refine r_iload_n rfl ?_
        refine r_ifs 40 rfl (fun c1127 => ?_) (fun c1127 => ?_)
        · have c1127_ : v716.toInt = 0 := en_k_eq_t c1127
          refine At.enter rfl ?_
          refine r_bipush 29 rfl ?_
          refine Ar.fall 47 rfl ?_
          refine At.enter rfl ?_
          refine r_aload_n rfl ?_
          refine q_getI (Sh.int hI1106.1 kx_231 rfl) v1117 hv1117 ?_
          have zv1130 : (29 : Int32).toInt = 29 := rfl
          refine r_callV 54 rfl [.ref 231, .int 29, .int v1117] [] (Nat.le_of_ble_eq_true rfl) rfl (T_X11_push_231 _ hI1106 29 (by decide) v1117 (by omega) (by omega)) ?_
          rintro _ _ ⟨g1131, rfl, hI1132, hF1133, rfl, hr1135⟩
          refine At.stn ?_
          have hF1136 := Fr.tr hF1110 hF1133 rfl rfl
          have x1140 := HI.eqI hI1132 (p := 231) (b := 17) (((hF1133.1 231 17 mf_X11_push_231_231_17).trans hv1117))
          obtain ⟨v1141, hv1141⟩ : ∃ v, gI g1131 231 23 = v := ⟨_, rfl⟩
          have rv1141 := RgF.at hI1132.2.1 (p := 231) (b := 23) rfl
          rw [hv1141] at rv1141
          dsimp only at rv1141
          have tv1141 := congrArg Int32.toInt hv1141
          have y1143 : (gI _ 231 23).toInt = (gI _ 231 23).toInt + 1 := hr1135.1
          have nsq1145 := NSQ.push nsq1126 hr1135 (by omega)
          refine At.enter rfl ?_
          refine r_aload_n rfl ?_
          refine r_iload_n rfl ?_
          refine r_ifs 59 rfl (fun c1146 => ?_) (fun c1146 => ?_)
          · have c1146_ : v716.toInt = 0 := en_k_eq_t c1146
            refine At.enter rfl ?_
            refine r_bipush 29 rfl ?_
            refine Ar.fall 66 rfl ?_
            refine At.enter rfl ?_
            refine r_iconst 0 rfl ?_
            have zv1150 : (0 : Int32).toInt = 0 := rfl
            refine r_callV 70 rfl [.ref 231, .int 29, .int 0] [] (Nat.le_of_ble_eq_true rfl) rfl (T_X11_emit_231 _ hI1132 29 0 (by omega)) ?_
            rintro _ _ ⟨g1151, rfl, hI1152, hF1153, rfl, hr1155⟩
            refine At.stn ?_
            have hF1156 := Fr.tr hF1136 hF1153 rfl rfl
            obtain ⟨v1161, hv1161⟩ : ∃ v, gI g1151 231 17 = v := ⟨_, rfl⟩
            have rv1161 := RgF.at hI1152.2.1 (p := 231) (b := 17) rfl
            rw [hv1161] at rv1161
            dsimp only at rv1161
            have tv1161 := congrArg Int32.toInt hv1161
            have y1163 : (gI _ 231 17).toInt = (gI _ 231 17).toInt + 1 := hr1155.1
            have pg1164 := PG.andor pg1125 hr1135 (hF1133.2.1 238 ma_X11_push_231_238) (hF1133.2.1 239 ma_X11_push_231_239) (hF1133.1 231 17 mf_X11_push_231_231_17) hr1155 (hF1153.2.1 240 ma_X11_emit_231_240) (hF1153.2.1 241 ma_X11_emit_231_241) (hF1153.1 231 23 mf_X11_emit_231_231_23) ⟨by omega, by omega⟩ (by show _ = (gI _ 231 17).toInt; omega) nsq1126 (by show 0 ≤ (gI _ 231 23).toInt; omega)
            have nsq1165 := NSQ.cong nsq1145 hI1152 ((hF1153.2.1 240 ma_X11_emit_231_240)) ((hF1153.1 231 23 mf_X11_emit_231_231_23))
            refine At.enter rfl ?_
            refine r_aload_n rfl ?_
            have x1166 := HI.eqI hI1152 (p := 231) (b := 8) ((((hF1153.1 231 8 mf_X11_emit_231_231_8).trans ((hF1133.1 231 8 mf_X11_push_231_231_8).trans ((hF1107.1 231 8 mf_X11_settle_231_231_8).trans ((hF870.1 231 8 mf_X11_isWord_231_231_8).trans (hF715.1 231 8 mf_X11_isWord_231_231_8))))).trans hv1))
            have x1167 := HI.eqI hI1152 (p := 231) (b := 10) ((((hF1153.1 231 10 mf_X11_emit_231_231_10).trans ((hF1133.1 231 10 mf_X11_push_231_231_10).trans ((hF1107.1 231 10 mf_X11_settle_231_231_10).trans ((hF870.1 231 10 mf_X11_isWord_231_231_10).trans (hF715.1 231 10 mf_X11_isWord_231_231_10))))).trans hv3))
            refine r_callV 74 rfl [.ref 231] [] (Nat.le_of_ble_eq_true rfl) rfl (T_X11_next_231 _ hI1152 (by omega)) ?_
            rintro _ _ ⟨g1168, rfl, hI1169, hF1170, rfl, hr1172⟩
            refine At.stn ?_
            have hF1173 := Fr.tr hF1156 hF1170 rfl rfl
            have x1176 := HI.eqI hI1169 (p := 231) (b := 8) ((((hF1170.1 231 8 mf_X11_next_231_231_8).trans ((hF1153.1 231 8 mf_X11_emit_231_231_8).trans ((hF1133.1 231 8 mf_X11_push_231_231_8).trans ((hF1107.1 231 8 mf_X11_settle_231_231_8).trans ((hF870.1 231 8 mf_X11_isWord_231_231_8).trans (hF715.1 231 8 mf_X11_isWord_231_231_8)))))).trans hv1))
            obtain ⟨v1177, hv1177⟩ : ∃ v, gI g1168 231 9 = v := ⟨_, rfl⟩
            have rv1177 := RgF.at hI1169.2.1 (p := 231) (b := 9) rfl
            rw [hv1177] at rv1177
            dsimp only at rv1177
            have tv1177 := congrArg Int32.toInt hv1177
            obtain ⟨v1179, hv1179⟩ : ∃ v, gI g1168 231 10 = v := ⟨_, rfl⟩
            have rv1179 := RgF.at hI1169.2.1 (p := 231) (b := 10) rfl
            rw [hv1179] at rv1179
            dsimp only at rv1179
            have tv1179 := congrArg Int32.toInt hv1179
            obtain ⟨v1181, hv1181⟩ : ∃ v, gI g1168 231 11 = v := ⟨_, rfl⟩
            have tv1181 := congrArg Int32.toInt hv1181
            obtain ⟨c1183, c1184, c1185, c1186, c1187, c1188, c1189⟩ := hr1172
            have tok1190_ := c1189.2
            rw [TM.c (((hF1153.2.1 236 ma_X11_emit_231_236).trans ((hF1133.2.1 236 ma_X11_push_231_236).trans ((hF1107.2.1 236 ma_X11_settle_231_236).trans ((hF870.2.1 236 ma_X11_isWord_231_236).trans (hF715.2.1 236 ma_X11_isWord_231_236)))))), nM.c (((hF1153.1 231 8 mf_X11_emit_231_231_8).trans ((hF1133.1 231 8 mf_X11_push_231_231_8).trans ((hF1107.1 231 8 mf_X11_settle_231_231_8).trans ((hF870.1 231 8 mf_X11_isWord_231_231_8).trans (hF715.1 231 8 mf_X11_isWord_231_231_8)))))), pI.c (b := 10) (((hF1153.1 231 10 mf_X11_emit_231_231_10).trans ((hF1133.1 231 10 mf_X11_push_231_231_10).trans ((hF1107.1 231 10 mf_X11_settle_231_231_10).trans ((hF870.1 231 10 mf_X11_isWord_231_231_10).trans (hF715.1 231 10 mf_X11_isWord_231_231_10))))))] at tok1190_
            have tok1190 := TKM.tok hK tok1190_
            have hK1191 := c1189.1
            refine At.enter rfl ?_
            refine r_iconst 0 rfl ?_
            refine r_ireti ?_
            obtain ⟨v1196, hv1196⟩ : ∃ v, gJ g1168 231 12 = v := ⟨_, rfl⟩
            have x1197 := HI.eqJ hI1169 (b := 12) (hv1196)
            have x1198 := HI.eqI hI1169 (p := 231) (b := 14) ((((hF1170.1 231 14 mf_X11_next_231_231_14).trans ((hF1153.1 231 14 mf_X11_emit_231_231_14).trans ((hF1133.1 231 14 mf_X11_push_231_231_14).trans ((hF1107.1 231 14 mf_X11_settle_231_231_14).trans ((hF870.1 231 14 mf_X11_isWord_231_231_14).trans (hF715.1 231 14 mf_X11_isWord_231_231_14)))))).trans hv6))
            have x1199 := HI.eqI hI1169 (p := 231) (b := 17) (((hF1170.1 231 17 mf_X11_next_231_231_17).trans hv1161))
            have x1200 := HI.eqI hI1169 (p := 231) (b := 23) ((((hF1170.1 231 23 mf_X11_next_231_231_23).trans (hF1153.1 231 23 mf_X11_emit_231_231_23)).trans hv1141))
            have pg1203 := PG.cong pg1164 hI1169 ((hF1170.2.1 238 ma_X11_next_231_238)) ((hF1170.2.1 239 ma_X11_next_231_239)) ((hF1170.2.1 240 ma_X11_next_231_240)) ((hF1170.2.1 241 ma_X11_next_231_241)) ((hF1170.1 231 17 mf_X11_next_231_231_17)) ((hF1170.1 231 23 mf_X11_next_231_231_23))
            have nsq1204 := NSQ.cong nsq1165 hI1169 ((hF1170.2.1 240 ma_X11_next_231_240)) ((hF1170.1 231 23 mf_X11_next_231_231_23))
            obtain ⟨v1206, hv1206⟩ : ∃ v, gI g0 231 13 = v := ⟨_, rfl⟩
            have tv1206 := congrArg Int32.toInt hv1206
            have x1207 := HI.eqI hI1169 (p := 231) (b := 13) ((((hF1170.1 231 13 mf_X11_next_231_231_13).trans ((hF1153.1 231 13 mf_X11_emit_231_231_13).trans ((hF1133.1 231 13 mf_X11_push_231_231_13).trans ((hF1107.1 231 13 mf_X11_settle_231_231_13).trans ((hF870.1 231 13 mf_X11_isWord_231_231_13).trans (hF715.1 231 13 mf_X11_isWord_231_231_13)))))).trans hv1206))
            obtain ⟨v1209, hv1209⟩ : ∃ v, gI g0 231 15 = v := ⟨_, rfl⟩
            have rv1209 := RgF.at hI0.2.1 (p := 231) (b := 15) rfl
            rw [hv1209] at rv1209
            dsimp only at rv1209
            have tv1209 := congrArg Int32.toInt hv1209
            have x1210 := HI.eqI hI1169 (p := 231) (b := 15) ((((hF1170.1 231 15 mf_X11_next_231_231_15).trans ((hF1153.1 231 15 mf_X11_emit_231_231_15).trans ((hF1133.1 231 15 mf_X11_push_231_231_15).trans ((hF1107.1 231 15 mf_X11_settle_231_231_15).trans ((hF870.1 231 15 mf_X11_isWord_231_231_15).trans (hF715.1 231 15 mf_X11_isWord_231_231_15)))))).trans hv1209))
            obtain ⟨v1211, hv1211⟩ : ∃ v, gI g0 231 20 = v := ⟨_, rfl⟩
            have tv1211 := congrArg Int32.toInt hv1211
            have x1212 := HI.eqI hI1169 (p := 231) (b := 20) ((((hF1170.1 231 20 mf_X11_next_231_231_20).trans ((hF1153.1 231 20 mf_X11_emit_231_231_20).trans ((hF1133.1 231 20 mf_X11_push_231_231_20).trans ((hF1107.1 231 20 mf_X11_settle_231_231_20).trans ((hF870.1 231 20 mf_X11_isWord_231_231_20).trans (hF715.1 231 20 mf_X11_isWord_231_231_20)))))).trans hv1211))
            obtain ⟨v1214, hv1214⟩ : ∃ v, gI g0 231 24 = v := ⟨_, rfl⟩
            have tv1214 := congrArg Int32.toInt hv1214
            have x1215 := HI.eqI hI1169 (p := 231) (b := 24) ((((hF1170.1 231 24 mf_X11_next_231_231_24).trans ((hF1153.1 231 24 mf_X11_emit_231_231_24).trans ((hF1133.1 231 24 mf_X11_push_231_231_24).trans ((hF1107.1 231 24 mf_X11_settle_231_231_24).trans ((hF870.1 231 24 mf_X11_isWord_231_231_24).trans (hF715.1 231 24 mf_X11_isWord_231_231_24)))))).trans hv1214))
            have x1224 := HI.eqI hI1106 (p := 231) (b := 24) ((((hF1107.1 231 24 mf_X11_settle_231_231_24).trans ((hF870.1 231 24 mf_X11_isWord_231_231_24).trans (hF715.1 231 24 mf_X11_isWord_231_231_24))).trans hv1214))
            first | (clear x723 x724 x725 hr717 hr872 c731_ c1100_ c1127_ c1146_; exact ⟨_, rfl, hI1169, hF1173, _, rfl, by decide, ⟨by omega, by omega, by omega, by omega, c1188, by omega, by omega, (fun hbad => ⟨by omega, (PT.mk (fun _ => pg1203) (fun h => by first | exact absurd h (by decide) | (exfalso; omega)) (fun _ _ => nsq1204) (fun h => by first | exact absurd h (by decide) | (exfalso; omega)))⟩), (fun hbad => by omega), hK1191, (fun c0 b hC h => M.andor h tok1190 (by omega) sq1114 (PUSH.fr2 hr1135 rfl rfl rfl (((hF1170.2.1 240 ma_X11_next_231_240).trans (hF1153.2.1 240 ma_X11_emit_231_240))) (((hF1170.2.1 241 ma_X11_next_231_241).trans (hF1153.2.1 241 ma_X11_emit_231_241))) (((hF1170.1 231 23 mf_X11_next_231_231_23).trans (hF1153.1 231 23 mf_X11_emit_231_231_23)))) (by omega) (pI.c (((hF1107.1 231 24 mf_X11_settle_231_231_24).trans ((hF870.1 231 24 mf_X11_isWord_231_231_24).trans (hF715.1 231 24 mf_X11_isWord_231_231_24))))) (show (gI _ 231 24).toInt = (gI g1105 231 24).toInt from (by first | exact x1215.trans x1224.symm | omega)) (show (gI _ 231 20).toInt = (gI g0 231 20).toInt from (by first | exact x1212.trans tv1211.symm | omega)) (show (gI _ 231 15).toInt = (gI g0 231 15).toInt from (by first | exact x1210.trans tv1209.symm | omega)) (fun _ => ⟨show (gI _ 231 14).toInt = 0 from by omega, show (gI _ 231 13).toInt = (gI g0 231 13).toInt from (by first | exact x1207.trans tv1206.symm | omega)⟩) (fun z => absurd (show (gI g0 231 14).toInt = 0 from (by first | exact h2 | omega)) z))⟩⟩) | exact ⟨_, rfl, hI1169, hF1173, _, rfl, by decide, ⟨by omega, by omega, by omega, by omega, c1188, by omega, by omega, (fun hbad => ⟨by omega, (PT.mk (fun _ => pg1203) (fun h => by first | exact absurd h (by decide) | (exfalso; omega)) (fun _ _ => nsq1204) (fun h => by first | exact absurd h (by decide) | (exfalso; omega)))⟩), (fun hbad => by omega), hK1191, (fun c0 b hC h => M.andor h tok1190 (by omega) sq1114 (PUSH.fr2 hr1135 rfl rfl rfl (((hF1170.2.1 240 ma_X11_next_231_240).trans (hF1153.2.1 240 ma_X11_emit_231_240))) (((hF1170.2.1 241 ma_X11_next_231_241).trans (hF1153.2.1 241 ma_X11_emit_231_241))) (((hF1170.1 231 23 mf_X11_next_231_231_23).trans (hF1153.1 231 23 mf_X11_emit_231_231_23)))) (by omega) (pI.c (((hF1107.1 231 24 mf_X11_settle_231_231_24).trans ((hF870.1 231 24 mf_X11_isWord_231_231_24).trans (hF715.1 231 24 mf_X11_isWord_231_231_24))))) (show (gI _ 231 24).toInt = (gI g1105 231 24).toInt from (by first | exact x1215.trans x1224.symm | omega)) (show (gI _ 231 20).toInt = (gI g0 231 20).toInt from (by first | exact x1212.trans tv1211.symm | omega)) (show (gI _ 231 15).toInt = (gI g0 231 15).toInt from (by first | exact x1210.trans tv1209.symm | omega)) (fun _ => ⟨show (gI _ 231 14).toInt = 0 from by omega, show (gI _ 231 13).toInt = (gI g0 231 13).toInt from (by first | exact x1207.trans tv1206.symm | omega)⟩) (fun z => absurd (show (gI g0 231 14).toInt = 0 from (by first | exact h2 | omega)) z))⟩⟩
          · have c1146_ : v716.toInt ≠ 0 := en_k_eq_f c1146
            have i1225 := W26.two hW isw727 (by omega) (by decide)
            have i1226 := BL.yes hb730 (by omega)
            exfalso; omega
        · have c1127_ : v716.toInt ≠ 0 := en_k_eq_f c1127
          have i1227 := W26.two hW isw727 (by omega) (by decide)
          have i1228 := BL.yes hb730 (by omega)
          exfalso; omega
      · have c1100_ : v716.toInt ≠ 0 := en_k_eq_f c1100
        have i1229 := W26.two hW isw727 (by omega) (by decide)
        have i1230 := BL.yes hb730 (by omega)
        exfalso; omega
