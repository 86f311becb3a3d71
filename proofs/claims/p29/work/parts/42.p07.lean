def F_X11_behindTest_231 : List (Nat × Nat) := [(231, 9), (231, 10), (231, 11), (231, 12), (231, 13), (231, 14), (231, 17), (231, 23), (231, 24)]
def A_X11_behindTest_231 : List Nat := [238, 239, 240, 241]
set_option maxRecDepth 100000 in
set_option maxHeartbeats 4000000 in
theorem T_X11_behindTest_231 (d : Nat) {N : Nat} {g0 : List en_E} (hI0 : HI g0) (b : Int) (o0 : Int → Int) (a0 : Int → Int) (h1 : ((gI g0 231 9).toInt ≤ (gI g0 231 10).toInt ∧ (gI g0 231 10).toInt ≤ (gI g0 231 8).toInt ∧ 0 ≤ (gI g0 231 11).toInt ∧ (gI g0 231 11).toInt ≤ 3 * ((gI g0 231 10).toInt - (gI g0 231 9).toInt))) (h2 : (gI g0 231 14).toInt = 0) (h3 : (gI g0 231 17).toInt + (gI g0 231 23).toInt ≤ (gI g0 231 9).toInt) (hW : W26 g0) (hP : PT g0 b 2 o0 a0) (hK : TKM g0) : Ev (d + 4) 207 [.ref 231] (g0, N) (fun w h' => ∃ g', h' = (g', N) ∧ HI g' ∧ Fr F_X11_behindTest_231 A_X11_behindTest_231 g0 g' ∧ ∃ r : Int32, w = some (.int r) ∧ (0 ≤ r.toInt ∧ r.toInt ≤ 4) ∧ ((gI g' 231 9).toInt ≤ (gI g' 231 10).toInt ∧ (gI g' 231 10).toInt ≤ (gI g' 231 8).toInt ∧ 0 ≤ (gI g' 231 11).toInt ∧ (gI g' 231 11).toInt ≤ 3 * ((gI g' 231 10).toInt - (gI g' 231 9).toInt) ∧ W26 g' ∧ (gI g' 231 17).toInt + (gI g' 231 23).toInt ≤ 400 ∧ (gI g0 231 9).toInt ≤ (gI g' 231 9).toInt ∧ TURN g' b r.toInt o0 a0 ∧ PRG (gI g' 231 14).toInt (gI g0 231 9).toInt (gI g' 231 9).toInt r.toInt 4 ∧ TKM g' ∧ MTP g0 g' 2 r.toInt (fun _ => True) ∧ MGT g0 g' 2 r.toInt (fun _ => True))) := by
  have hF0 : Fr F_X11_behindTest_231 A_X11_behindTest_231 g0 g0 := Fr.rf
  obtain ⟨v1, hv1⟩ : ∃ v, gI g0 231 8 = v := ⟨_, rfl⟩
  have rv1 := RgF.at hI0.2.1 (p := 231) (b := 8) rfl
  rw [hv1] at rv1
  dsimp only at rv1
  have tv1 := congrArg Int32.toInt hv1
  obtain ⟨v2, hv2⟩ : ∃ v, gI g0 231 9 = v := ⟨_, rfl⟩
  have rv2 := RgF.at hI0.2.1 (p := 231) (b := 9) rfl
  rw [hv2] at rv2
  dsimp only at rv2
  have tv2 := congrArg Int32.toInt hv2
  obtain ⟨v3, hv3⟩ : ∃ v, gI g0 231 10 = v := ⟨_, rfl⟩
  have rv3 := RgF.at hI0.2.1 (p := 231) (b := 10) rfl
  rw [hv3] at rv3
  dsimp only at rv3
  have tv3 := congrArg Int32.toInt hv3
  obtain ⟨v4, hv4⟩ : ∃ v, gI g0 231 11 = v := ⟨_, rfl⟩
  have tv4 := congrArg Int32.toInt hv4
  obtain ⟨v5, hv5⟩ : ∃ v, gJ g0 231 12 = v := ⟨_, rfl⟩
  have tv5 := congrArg Int64.toInt hv5
  obtain ⟨v6, hv6⟩ : ∃ v, gI g0 231 14 = v := ⟨_, rfl⟩
  have tv6 := congrArg Int32.toInt hv6
  obtain ⟨v7, hv7⟩ : ∃ v, gI g0 231 17 = v := ⟨_, rfl⟩
  have rv7 := RgF.at hI0.2.1 (p := 231) (b := 17) rfl
  rw [hv7] at rv7
  dsimp only at rv7
  have tv7 := congrArg Int32.toInt hv7
  obtain ⟨v8, hv8⟩ : ∃ v, gI g0 231 23 = v := ⟨_, rfl⟩
  have rv8 := RgF.at hI0.2.1 (p := 231) (b := 23) rfl
  rw [hv8] at rv8
  dsimp only at rv8
  have tv8 := congrArg Int32.toInt hv8
  refine Ev.mk rfl rfl ⟨Nat.le_of_ble_eq_true rfl, Or.inr (q_rc hI0.1 kx_231 rfl)⟩ ?_
  show At _ none _ _ (0, [(0, .ref 231)], [], (_, _)) _
  refine At.enter rfl ?_
  refine r_aload_n rfl ?_
  refine r_ldc2 1476 rfl ?_
  have zv724 : (1476 : Int64).toInt = 1476 := rfl
  refine r_callV 7 rfl [.ref 231, .long 1476] [] (Nat.le_of_ble_eq_true rfl) rfl (T_X11_isWord_231 _ hI0 1476 (by omega)) ?_
  rintro _ _ ⟨g725, rfl, hI726, hF727, v728, rfl, hr729⟩
  refine At.sti ?_
  have hF730 := Fr.tr hF0 hF727 rfl rfl
  have x735 := HI.eqI hI726 (p := 231) (b := 9) (((hF727.1 231 9 mf_X11_isWord_231_231_9).trans hv2))
  have x736 := HI.eqI hI726 (p := 231) (b := 10) (((hF727.1 231 10 mf_X11_isWord_231_231_10).trans hv3))
  have x737 := HI.eqI hI726 (p := 231) (b := 11) (((hF727.1 231 11 mf_X11_isWord_231_231_11).trans hv4))
  obtain ⟨c741, c738, isw739, ib740⟩ := hr729
  have hb742 : BL (CDM g0 = 28) v728.toInt := ISM.word (c := 28) ib740 hK (isWC_d (by omega)) (by decide +kernel) (by decide)
  refine At.enter rfl ?_
  refine r_istore_n ([(1, .int v728), (0, .ref 231)]) rfl ?_
  refine r_iload_n rfl ?_
  refine r_ifs 12 rfl (fun c743 => ?_) (fun c743 => ?_)
  · have c743_ : v728.toInt ≠ 0 := en_k_ne_t c743
    have i744 := W26.two hW isw739 (by omega) (by decide)
    have i745 := BL.yes hb742 (by omega)
    refine At.enter rfl ?_
    refine r_aload_n rfl ?_
    refine r_iload_n rfl ?_
    refine r_ifs 27 rfl (fun c746 => ?_) (fun c746 => ?_)
    · have c746_ : v728.toInt = 0 := en_k_eq_t c746
      have i747 := BL.no hb742 (by omega)
      exfalso; omega
    · have c746_ : v728.toInt ≠ 0 := en_k_eq_f c746
      refine At.enter rfl ?_
      refine r_iconst 2 rfl ?_
      refine r_goto ?_
      refine At.enter rfl ?_
      have x750 := HI.eqI hI726 (p := 231) (b := 17) (((hF727.1 231 17 mf_X11_isWord_231_231_17).trans hv7))
      have x751 := HI.eqI hI726 (p := 231) (b := 23) (((hF727.1 231 23 mf_X11_isWord_231_231_23).trans hv8))
      have zv752 : (2 : Int32).toInt = 2 := rfl
      refine r_callV 35 rfl [.ref 231, .int 2] [] (Nat.le_of_ble_eq_true rfl) rfl (T_X11_settle_231 _ hI726 2 (by decide) (by omega)) ?_
      rintro _ _ ⟨g753, rfl, hI754, hF755, rfl, hr757⟩
      refine At.stn ?_
      have hF758 := Fr.tr hF730 hF755 rfl rfl
      obtain ⟨sp760, sq761, sg762⟩ := hr757
      have sq763 := SETQ.fr sq761 ((hF727.2.1 240 ma_X11_isWord_231_240)) ((hF727.1 231 23 mf_X11_isWord_231_231_23))
      have sg764 := SETG_fr sg762 ((hF727.2.1 240 ma_X11_isWord_231_240)) ((hF727.2.1 241 ma_X11_isWord_231_241)) ((hF727.1 231 23 mf_X11_isWord_231_231_23)) (SMG_mk ((hF727.2.1 238 ma_X11_isWord_231_238)) ((hF727.2.1 239 ma_X11_isWord_231_239)) ((hF727.1 231 17 mf_X11_isWord_231_231_17)))
      obtain ⟨v767, hv767⟩ : ∃ v, gI g753 231 17 = v := ⟨_, rfl⟩
      have rv767 := RgF.at hI754.2.1 (p := 231) (b := 17) rfl
      rw [hv767] at rv767
      dsimp only at rv767
      have tv767 := congrArg Int32.toInt hv767
      obtain ⟨v769, hv769⟩ : ∃ v, gI g753 231 23 = v := ⟨_, rfl⟩
      have rv769 := RgF.at hI754.2.1 (p := 231) (b := 23) rfl
      rw [hv769] at rv769
      dsimp only at rv769
      have tv769 := congrArg Int32.toInt hv769
      have y771 : (gI _ 231 23).toInt ≤ (gI _ 231 23).toInt := sp760.1
      have y772 : (gI _ 231 17).toInt + (gI _ 231 23).toInt ≤ (gI _ 231 17).toInt + (gI _ 231 23).toInt := sp760.2.1
      have nsq773 := NSQ.cong (hP.2.2.1 (by decide) (by decide)) hI726 ((hF727.2.1 240 ma_X11_isWord_231_240)) ((hF727.1 231 23 mf_X11_isWord_231_231_23))
      have pg774 := PG.cong (hP.2.1 (by decide)) hI726 ((hF727.2.1 238 ma_X11_isWord_231_238)) ((hF727.2.1 239 ma_X11_isWord_231_239)) ((hF727.2.1 240 ma_X11_isWord_231_240)) ((hF727.2.1 241 ma_X11_isWord_231_241)) ((hF727.1 231 17 mf_X11_isWord_231_231_17)) ((hF727.1 231 23 mf_X11_isWord_231_231_23))
      have pg775 := sp760.2.2.1 _ _ _ pg774
      have nsq776 := NSQ.le nsq773 hI754 sp760.2.2.2.2.1 sp760.1
      refine At.enter rfl ?_
      refine r_aload_n rfl ?_
      refine r_iload_n rfl ?_
      refine r_ifs 40 rfl (fun c777 => ?_) (fun c777 => ?_)
      · have c777_ : v728.toInt = 0 := en_k_eq_t c777
        have i778 := BL.no hb742 (by omega)
        exfalso; omega
      · have c777_ : v728.toInt ≠ 0 := en_k_eq_f c777
        refine At.enter rfl ?_
        refine r_bipush 28 rfl ?_
        refine r_goto ?_
        refine At.enter rfl ?_
        refine r_aload_n rfl ?_
        refine q_getI (Sh.int hI754.1 kx_231 rfl) v767 hv767 ?_
        have zv782 : (28 : Int32).toInt = 28 := rfl
        refine r_callV 54 rfl [.ref 231, .int 28, .int v767] [] (Nat.le_of_ble_eq_true rfl) rfl (T_X11_push_231 _ hI754 28 (by decide) v767 (by omega) (by omega)) ?_
        rintro _ _ ⟨g783, rfl, hI784, hF785, rfl, hr787⟩
        refine At.stn ?_
        have hF788 := Fr.tr hF758 hF785 rfl rfl
        have x792 := HI.eqI hI784 (p := 231) (b := 17) (((hF785.1 231 17 mf_X11_push_231_231_17).trans hv767))
        obtain ⟨v793, hv793⟩ : ∃ v, gI g783 231 23 = v := ⟨_, rfl⟩
        have rv793 := RgF.at hI784.2.1 (p := 231) (b := 23) rfl
        rw [hv793] at rv793
        dsimp only at rv793
        have tv793 := congrArg Int32.toInt hv793
        have y795 : (gI _ 231 23).toInt = (gI _ 231 23).toInt + 1 := hr787.1
        have nsq797 := NSQ.push nsq776 hr787 (by omega)
        refine At.enter rfl ?_
        refine r_aload_n rfl ?_
        refine r_iload_n rfl ?_
        refine r_ifs 59 rfl (fun c798 => ?_) (fun c798 => ?_)
        · have c798_ : v728.toInt = 0 := en_k_eq_t c798
          have i799 := BL.no hb742 (by omega)
          exfalso; omega
        · have c798_ : v728.toInt ≠ 0 := en_k_eq_f c798
          refine At.enter rfl ?_
          refine r_bipush 28 rfl ?_
          refine r_goto ?_
          refine At.enter rfl ?_
          refine r_iconst 0 rfl ?_
          have zv804 : (0 : Int32).toInt = 0 := rfl
          refine r_callV 70 rfl [.ref 231, .int 28, .int 0] [] (Nat.le_of_ble_eq_true rfl) rfl (T_X11_emit_231 _ hI784 28 0 (by omega)) ?_
          rintro _ _ ⟨g805, rfl, hI806, hF807, rfl, hr809⟩
          refine At.stn ?_
          have hF810 := Fr.tr hF788 hF807 rfl rfl
          obtain ⟨v815, hv815⟩ : ∃ v, gI g805 231 17 = v := ⟨_, rfl⟩
          have rv815 := RgF.at hI806.2.1 (p := 231) (b := 17) rfl
          rw [hv815] at rv815
          dsimp only at rv815
          have tv815 := congrArg Int32.toInt hv815
          have y817 : (gI _ 231 17).toInt = (gI _ 231 17).toInt + 1 := hr809.1.1
          have pg818 := PG.andor pg775 hr787 (hF785.2.1 238 ma_X11_push_231_238) (hF785.2.1 239 ma_X11_push_231_239) (hF785.1 231 17 mf_X11_push_231_231_17) hr809.1 (hF807.2.1 240 ma_X11_emit_231_240) (hF807.2.1 241 ma_X11_emit_231_241) (hF807.1 231 23 mf_X11_emit_231_231_23) ⟨by omega, by omega⟩ (by show _ = (gI _ 231 17).toInt; omega) nsq776 (by show 0 ≤ (gI _ 231 23).toInt; omega)
          have nsq819 := NSQ.cong nsq797 hI806 ((hF807.2.1 240 ma_X11_emit_231_240)) ((hF807.1 231 23 mf_X11_emit_231_231_23))
          refine At.enter rfl ?_
          refine r_aload_n rfl ?_
          have x820 := HI.eqI hI806 (p := 231) (b := 8) ((((hF807.1 231 8 mf_X11_emit_231_231_8).trans ((hF785.1 231 8 mf_X11_push_231_231_8).trans ((hF755.1 231 8 mf_X11_settle_231_231_8).trans (hF727.1 231 8 mf_X11_isWord_231_231_8)))).trans hv1))
          have x821 := HI.eqI hI806 (p := 231) (b := 10) ((((hF807.1 231 10 mf_X11_emit_231_231_10).trans ((hF785.1 231 10 mf_X11_push_231_231_10).trans ((hF755.1 231 10 mf_X11_settle_231_231_10).trans (hF727.1 231 10 mf_X11_isWord_231_231_10)))).trans hv3))
          refine r_callV 74 rfl [.ref 231] [] (Nat.le_of_ble_eq_true rfl) rfl (T_X11_next_231 _ hI806 (by omega)) ?_
          rintro _ _ ⟨g822, rfl, hI823, hF824, rfl, hr826⟩
          refine At.stn ?_
          have hF827 := Fr.tr hF810 hF824 rfl rfl
          have x830 := HI.eqI hI823 (p := 231) (b := 8) ((((hF824.1 231 8 mf_X11_next_231_231_8).trans ((hF807.1 231 8 mf_X11_emit_231_231_8).trans ((hF785.1 231 8 mf_X11_push_231_231_8).trans ((hF755.1 231 8 mf_X11_settle_231_231_8).trans (hF727.1 231 8 mf_X11_isWord_231_231_8))))).trans hv1))
          obtain ⟨v831, hv831⟩ : ∃ v, gI g822 231 9 = v := ⟨_, rfl⟩
          have rv831 := RgF.at hI823.2.1 (p := 231) (b := 9) rfl
          rw [hv831] at rv831
          dsimp only at rv831
          have tv831 := congrArg Int32.toInt hv831
          obtain ⟨v833, hv833⟩ : ∃ v, gI g822 231 10 = v := ⟨_, rfl⟩
          have rv833 := RgF.at hI823.2.1 (p := 231) (b := 10) rfl
          rw [hv833] at rv833
          dsimp only at rv833
          have tv833 := congrArg Int32.toInt hv833
          obtain ⟨v835, hv835⟩ : ∃ v, gI g822 231 11 = v := ⟨_, rfl⟩
          have tv835 := congrArg Int32.toInt hv835
          obtain ⟨c837, c838, c839, c840, c841, c842, c843⟩ := hr826
          have tok844_ := c843.2
          rw [TM.c (((hF807.2.1 236 ma_X11_emit_231_236).trans ((hF785.2.1 236 ma_X11_push_231_236).trans ((hF755.2.1 236 ma_X11_settle_231_236).trans (hF727.2.1 236 ma_X11_isWord_231_236))))), nM.c (((hF807.1 231 8 mf_X11_emit_231_231_8).trans ((hF785.1 231 8 mf_X11_push_231_231_8).trans ((hF755.1 231 8 mf_X11_settle_231_231_8).trans (hF727.1 231 8 mf_X11_isWord_231_231_8))))), pI.c (b := 10) (((hF807.1 231 10 mf_X11_emit_231_231_10).trans ((hF785.1 231 10 mf_X11_push_231_231_10).trans ((hF755.1 231 10 mf_X11_settle_231_231_10).trans (hF727.1 231 10 mf_X11_isWord_231_231_10)))))] at tok844_
          have tok844 := TKM.tok hK tok844_
          have hK845 := c843.1
          refine At.enter rfl ?_
          refine r_iconst 0 rfl ?_
          refine r_ireti ?_
          obtain ⟨v850, hv850⟩ : ∃ v, gJ g822 231 12 = v := ⟨_, rfl⟩
          have x851 := HI.eqJ hI823 (b := 12) (hv850)
          have x852 := HI.eqI hI823 (p := 231) (b := 14) ((((hF824.1 231 14 mf_X11_next_231_231_14).trans ((hF807.1 231 14 mf_X11_emit_231_231_14).trans ((hF785.1 231 14 mf_X11_push_231_231_14).trans ((hF755.1 231 14 mf_X11_settle_231_231_14).trans (hF727.1 231 14 mf_X11_isWord_231_231_14))))).trans hv6))
          have x853 := HI.eqI hI823 (p := 231) (b := 17) (((hF824.1 231 17 mf_X11_next_231_231_17).trans hv815))
          have x854 := HI.eqI hI823 (p := 231) (b := 23) ((((hF824.1 231 23 mf_X11_next_231_231_23).trans (hF807.1 231 23 mf_X11_emit_231_231_23)).trans hv793))
          have pg857 := PG.cong pg818 hI823 ((hF824.2.1 238 ma_X11_next_231_238)) ((hF824.2.1 239 ma_X11_next_231_239)) ((hF824.2.1 240 ma_X11_next_231_240)) ((hF824.2.1 241 ma_X11_next_231_241)) ((hF824.1 231 17 mf_X11_next_231_231_17)) ((hF824.1 231 23 mf_X11_next_231_231_23))
          have nsq858 := NSQ.cong nsq819 hI823 ((hF824.2.1 240 ma_X11_next_231_240)) ((hF824.1 231 23 mf_X11_next_231_231_23))
          obtain ⟨v860, hv860⟩ : ∃ v, gI g0 231 13 = v := ⟨_, rfl⟩
          have tv860 := congrArg Int32.toInt hv860
          have x861 := HI.eqI hI823 (p := 231) (b := 13) ((((hF824.1 231 13 mf_X11_next_231_231_13).trans ((hF807.1 231 13 mf_X11_emit_231_231_13).trans ((hF785.1 231 13 mf_X11_push_231_231_13).trans ((hF755.1 231 13 mf_X11_settle_231_231_13).trans (hF727.1 231 13 mf_X11_isWord_231_231_13))))).trans hv860))
          obtain ⟨v863, hv863⟩ : ∃ v, gI g0 231 15 = v := ⟨_, rfl⟩
          have rv863 := RgF.at hI0.2.1 (p := 231) (b := 15) rfl
          rw [hv863] at rv863
          dsimp only at rv863
          have tv863 := congrArg Int32.toInt hv863
          have x864 := HI.eqI hI823 (p := 231) (b := 15) ((((hF824.1 231 15 mf_X11_next_231_231_15).trans ((hF807.1 231 15 mf_X11_emit_231_231_15).trans ((hF785.1 231 15 mf_X11_push_231_231_15).trans ((hF755.1 231 15 mf_X11_settle_231_231_15).trans (hF727.1 231 15 mf_X11_isWord_231_231_15))))).trans hv863))
          obtain ⟨v865, hv865⟩ : ∃ v, gI g0 231 20 = v := ⟨_, rfl⟩
          have tv865 := congrArg Int32.toInt hv865
          have x866 := HI.eqI hI823 (p := 231) (b := 20) ((((hF824.1 231 20 mf_X11_next_231_231_20).trans ((hF807.1 231 20 mf_X11_emit_231_231_20).trans ((hF785.1 231 20 mf_X11_push_231_231_20).trans ((hF755.1 231 20 mf_X11_settle_231_231_20).trans (hF727.1 231 20 mf_X11_isWord_231_231_20))))).trans hv865))
          obtain ⟨v868, hv868⟩ : ∃ v, gI g0 231 24 = v := ⟨_, rfl⟩
          have tv868 := congrArg Int32.toInt hv868
          have x869 := HI.eqI hI823 (p := 231) (b := 24) ((((hF824.1 231 24 mf_X11_next_231_231_24).trans ((hF807.1 231 24 mf_X11_emit_231_231_24).trans ((hF785.1 231 24 mf_X11_push_231_231_24).trans ((hF755.1 231 24 mf_X11_settle_231_231_24).trans (hF727.1 231 24 mf_X11_isWord_231_231_24))))).trans hv868))
          have x878 := HI.eqI hI754 (p := 231) (b := 24) ((((hF755.1 231 24 mf_X11_settle_231_231_24).trans (hF727.1 231 24 mf_X11_isWord_231_231_24)).trans hv868))
          exact ⟨_, rfl, hI823, hF827, _, rfl, by decide, ⟨by omega, by omega, by omega, by omega, c842, by omega, by omega, (fun hbad => ⟨by omega, (PT.mk (fun _ => pg857) (fun h => by first | exact absurd h (by decide) | (exfalso; omega)) (fun _ _ => nsq858) (fun h => by first | exact absurd h (by decide) | (exfalso; omega)))⟩), (fun hbad => by omega), hK845, (fun c0 b hC h => M.andor h tok844 (by omega) sq763 (PUSH.fr2 hr787 rfl rfl rfl (((hF824.2.1 240 ma_X11_next_231_240).trans (hF807.2.1 240 ma_X11_emit_231_240))) (((hF824.2.1 241 ma_X11_next_231_241).trans (hF807.2.1 241 ma_X11_emit_231_241))) (((hF824.1 231 23 mf_X11_next_231_231_23).trans (hF807.1 231 23 mf_X11_emit_231_231_23)))) (by omega) (pI.c (((hF755.1 231 24 mf_X11_settle_231_231_24).trans (hF727.1 231 24 mf_X11_isWord_231_231_24)))) (show (gI _ 231 24).toInt = (gI g753 231 24).toInt from (by first | exact x869.trans x878.symm | omega)) (show (gI _ 231 20).toInt = (gI g0 231 20).toInt from (by first | exact x866.trans tv865.symm | omega)) (show (gI _ 231 15).toInt = (gI g0 231 15).toInt from (by first | exact x864.trans tv863.symm | omega)) (fun _ => ⟨show (gI _ 231 14).toInt = 0 from by omega, show (gI _ 231 13).toInt = (gI g0 231 13).toInt from (by first | exact x861.trans tv860.symm | omega)⟩) (fun z => absurd (show (gI g0 231 14).toInt = 0 from (by first | exact h2 | omega)) z)), (fun h14 c0 b K hC h => MG_andor (gx := g783) h tok844 (by omega) sg764 (by have l2 := lea_2 (CDM g0); omega) sq763 (PUSH.fr2 hr787 rfl rfl rfl rfl rfl rfl) (by omega) (by show _ = (gI g753 231 17).toInt; omega) (SMG_mk ((hF785.2.1 238 ma_X11_push_231_238)) ((hF785.2.1 239 ma_X11_push_231_239)) ((hF785.1 231 17 mf_X11_push_231_231_17))) (by show 0 ≤ (gI g753 231 17).toInt; omega) (((hF824.2.1 240 ma_X11_next_231_240).trans (hF807.2.1 240 ma_X11_emit_231_240))) (((hF824.2.1 241 ma_X11_next_231_241).trans (hF807.2.1 241 ma_X11_emit_231_241))) (pI.c (((hF824.1 231 23 mf_X11_next_231_231_23).trans (hF807.1 231 23 mf_X11_emit_231_231_23)))) (EMG_fr hr809.2 SMG_rf (SMG_mk ((hF824.2.1 238 ma_X11_next_231_238)) ((hF824.2.1 239 ma_X11_next_231_239)) ((hF824.1 231 17 mf_X11_next_231_231_17)))) (by omega) rfl)⟩⟩
  · have c743_ : v728.toInt = 0 := en_k_ne_f c743
    have i881 := BL.no hb742 (by omega)
    refine At.enter rfl ?_
    refine r_aload_n rfl ?_
    refine r_ldc2 498 rfl ?_
    have zv883 : (498 : Int64).toInt = 498 := rfl
    refine r_callV 19 rfl [.ref 231, .long 498] [] (Nat.le_of_ble_eq_true rfl) rfl (T_X11_isWord_231 _ hI726 498 (by omega)) ?_
    rintro _ _ ⟨g884, rfl, hI885, hF886, v887, rfl, hr888⟩
    refine At.sti ?_
    have hF889 := Fr.tr hF730 hF886 rfl rfl
    have x894 := HI.eqI hI885 (p := 231) (b := 9) ((((hF886.1 231 9 mf_X11_isWord_231_231_9).trans (hF727.1 231 9 mf_X11_isWord_231_231_9)).trans hv2))
    have x895 := HI.eqI hI885 (p := 231) (b := 10) ((((hF886.1 231 10 mf_X11_isWord_231_231_10).trans (hF727.1 231 10 mf_X11_isWord_231_231_10)).trans hv3))
    have x896 := HI.eqI hI885 (p := 231) (b := 11) ((((hF886.1 231 11 mf_X11_isWord_231_231_11).trans (hF727.1 231 11 mf_X11_isWord_231_231_11)).trans hv4))
    obtain ⟨c900, c897, isw898, ib899⟩ := hr888
    have w26901 := W26.cong hW hI726 ((hF727.1 231 9 mf_X11_isWord_231_231_9)) ((hF727.1 231 10 mf_X11_isWord_231_231_10)) ((hF727.1 231 11 mf_X11_isWord_231_231_11)) ((hF727.2.2 231 12 mf_X11_isWord_231_231_12))
    have hb902 : BL (CDM g0 = 29) v887.toInt := by have z := ISM.word (c := 29) ib899 (TKM.c hK ((hF727.2.1 236 ma_X11_isWord_231_236)) ((hF727.1 231 8 mf_X11_isWord_231_231_8)) ((hF727.1 231 9 mf_X11_isWord_231_231_9)) ((hF727.1 231 10 mf_X11_isWord_231_231_10)) ((hF727.1 231 11 mf_X11_isWord_231_231_11)) ((hF727.2.2 231 12 mf_X11_isWord_231_231_12))) (isWC_d (by omega)) (by decide +kernel) (by decide); rw [CDM.c ((hF727.2.1 236 ma_X11_isWord_231_236)) ((hF727.1 231 9 mf_X11_isWord_231_231_9)) ((hF727.1 231 10 mf_X11_isWord_231_231_10)) ((hF727.1 231 11 mf_X11_isWord_231_231_11))] at z; exact z
    refine At.enter rfl ?_
    refine r_ifs 22 rfl (fun c903 => ?_) (fun c903 => ?_)
    · have c903_ : v887.toInt = 0 := en_k_eq_t c903
      have i904 := BL.no hb902 (by omega)
      refine At.enter rfl ?_
      refine r_aload_n rfl ?_
      refine r_callV 80 rfl [.ref 231] [] (Nat.le_of_ble_eq_true rfl) rfl (T_X11_inner_231 _ hI885) ?_
      rintro _ _ ⟨g905, rfl, hI906, hF907, v908, rfl, hr909⟩
      refine At.sti ?_
      have hF910 := Fr.tr hF889 hF907 rfl rfl
      have inn911 := INN.cong hr909.2 hI906 (hF907.2.1 240 ma_X11_inner_231_240) (hF907.1 231 23 mf_X11_inner_231_231_23)
      have inn912 := INN.cong hr909.2 hI0 (((hF886.2.1 240 ma_X11_isWord_231_240).trans (hF727.2.1 240 ma_X11_isWord_231_240))).symm (((hF886.1 231 23 mf_X11_isWord_231_231_23).trans (hF727.1 231 23 mf_X11_isWord_231_231_23))).symm
      refine At.enter rfl ?_
      refine r_iconst (-1) rfl ?_
      refine r_ics 84 rfl (fun c913 => ?_) (fun c913 => ?_)
      · have c913_ : v908.toInt ≠ (-1) := en_i_ne_t c913
        refine At.enter rfl ?_
        refine r_aload_n rfl ?_
        refine r_aload_n rfl ?_
        refine r_bipush 41 rfl ?_
        have x914 := HI.eqI hI906 (p := 231) (b := 11) ((((hF907.1 231 11 mf_X11_inner_231_231_11).trans ((hF886.1 231 11 mf_X11_isWord_231_231_11).trans (hF727.1 231 11 mf_X11_isWord_231_231_11))).trans hv4))
        have zv915 : (41 : Int32).toInt = 41 := rfl
        refine r_callV 93 rfl [.ref 231, .int 41] [.ref 231] (Nat.le_of_ble_eq_true rfl) rfl (T_X11_isSign_231 _ hI906 41 (by omega)) ?_
        rintro _ _ ⟨g916, rfl, hI917, hF918, v919, rfl, hr920⟩
        refine At.sti ?_
        have hF921 := Fr.tr hF910 hF918 rfl rfl
        have x924 := HI.eqI hI917 (p := 231) (b := 11) ((((hF918.1 231 11 mf_X11_isSign_231_231_11).trans ((hF907.1 231 11 mf_X11_inner_231_231_11).trans ((hF886.1 231 11 mf_X11_isWord_231_231_11).trans (hF727.1 231 11 mf_X11_isWord_231_231_11)))).trans hv4))
        have hb925 : BL (CDM g0 = 9) v919.toInt := by have z := ISM.sign (c := 9) hr920.2.2 (TKM.c hK (((hF907.2.1 236 ma_X11_inner_231_236).trans ((hF886.2.1 236 ma_X11_isWord_231_236).trans (hF727.2.1 236 ma_X11_isWord_231_236)))) (((hF907.1 231 8 mf_X11_inner_231_231_8).trans ((hF886.1 231 8 mf_X11_isWord_231_231_8).trans (hF727.1 231 8 mf_X11_isWord_231_231_8)))) (((hF907.1 231 9 mf_X11_inner_231_231_9).trans ((hF886.1 231 9 mf_X11_isWord_231_231_9).trans (hF727.1 231 9 mf_X11_isWord_231_231_9)))) (((hF907.1 231 10 mf_X11_inner_231_231_10).trans ((hF886.1 231 10 mf_X11_isWord_231_231_10).trans (hF727.1 231 10 mf_X11_isWord_231_231_10)))) (((hF907.1 231 11 mf_X11_inner_231_231_11).trans ((hF886.1 231 11 mf_X11_isWord_231_231_11).trans (hF727.1 231 11 mf_X11_isWord_231_231_11)))) (((hF907.2.2 231 12 mf_X11_inner_231_231_12).trans ((hF886.2.2 231 12 mf_X11_isWord_231_231_12).trans (hF727.2.2 231 12 mf_X11_isWord_231_231_12))))) (isSC_d (by omega)) (by decide +kernel); rw [CDM.c (((hF907.2.1 236 ma_X11_inner_231_236).trans ((hF886.2.1 236 ma_X11_isWord_231_236).trans (hF727.2.1 236 ma_X11_isWord_231_236)))) (((hF907.1 231 9 mf_X11_inner_231_231_9).trans ((hF886.1 231 9 mf_X11_isWord_231_231_9).trans (hF727.1 231 9 mf_X11_isWord_231_231_9)))) (((hF907.1 231 10 mf_X11_inner_231_231_10).trans ((hF886.1 231 10 mf_X11_isWord_231_231_10).trans (hF727.1 231 10 mf_X11_isWord_231_231_10)))) (((hF907.1 231 11 mf_X11_inner_231_231_11).trans ((hF886.1 231 11 mf_X11_isWord_231_231_11).trans (hF727.1 231 11 mf_X11_isWord_231_231_11))))] at z; exact z
        refine At.enter rfl ?_
        have x926 := HI.eqI hI917 (p := 231) (b := 8) ((((hF918.1 231 8 mf_X11_isSign_231_231_8).trans ((hF907.1 231 8 mf_X11_inner_231_231_8).trans ((hF886.1 231 8 mf_X11_isWord_231_231_8).trans (hF727.1 231 8 mf_X11_isWord_231_231_8)))).trans hv1))
        have x927 := HI.eqI hI917 (p := 231) (b := 9) ((((hF918.1 231 9 mf_X11_isSign_231_231_9).trans ((hF907.1 231 9 mf_X11_inner_231_231_9).trans ((hF886.1 231 9 mf_X11_isWord_231_231_9).trans (hF727.1 231 9 mf_X11_isWord_231_231_9)))).trans hv2))
        have x928 := HI.eqI hI917 (p := 231) (b := 10) ((((hF918.1 231 10 mf_X11_isSign_231_231_10).trans ((hF907.1 231 10 mf_X11_inner_231_231_10).trans ((hF886.1 231 10 mf_X11_isWord_231_231_10).trans (hF727.1 231 10 mf_X11_isWord_231_231_10)))).trans hv3))
        have w26930 := W26.cong hW hI917 (((hF918.1 231 9 mf_X11_isSign_231_231_9).trans ((hF907.1 231 9 mf_X11_inner_231_231_9).trans ((hF886.1 231 9 mf_X11_isWord_231_231_9).trans (hF727.1 231 9 mf_X11_isWord_231_231_9))))) (((hF918.1 231 10 mf_X11_isSign_231_231_10).trans ((hF907.1 231 10 mf_X11_inner_231_231_10).trans ((hF886.1 231 10 mf_X11_isWord_231_231_10).trans (hF727.1 231 10 mf_X11_isWord_231_231_10))))) (((hF918.1 231 11 mf_X11_isSign_231_231_11).trans ((hF907.1 231 11 mf_X11_inner_231_231_11).trans ((hF886.1 231 11 mf_X11_isWord_231_231_11).trans (hF727.1 231 11 mf_X11_isWord_231_231_11))))) (((hF918.2.2 231 12 mf_X11_isSign_231_231_12).trans ((hF907.2.2 231 12 mf_X11_inner_231_231_12).trans ((hF886.2.2 231 12 mf_X11_isWord_231_231_12).trans (hF727.2.2 231 12 mf_X11_isWord_231_231_12)))))
        refine r_callV 96 rfl [.ref 231, .int v919] [] (Nat.le_of_ble_eq_true rfl) rfl (T_X11_must_231 _ hI917 v919 (by omega) (by refine ⟨?_, ?_, ?_, ?_⟩ <;> omega) w26930 (TKM.c hK (((hF918.2.1 236 ma_X11_isSign_231_236).trans ((hF907.2.1 236 ma_X11_inner_231_236).trans ((hF886.2.1 236 ma_X11_isWord_231_236).trans (hF727.2.1 236 ma_X11_isWord_231_236))))) (((hF918.1 231 8 mf_X11_isSign_231_231_8).trans ((hF907.1 231 8 mf_X11_inner_231_231_8).trans ((hF886.1 231 8 mf_X11_isWord_231_231_8).trans (hF727.1 231 8 mf_X11_isWord_231_231_8))))) (((hF918.1 231 9 mf_X11_isSign_231_231_9).trans ((hF907.1 231 9 mf_X11_inner_231_231_9).trans ((hF886.1 231 9 mf_X11_isWord_231_231_9).trans (hF727.1 231 9 mf_X11_isWord_231_231_9))))) (((hF918.1 231 10 mf_X11_isSign_231_231_10).trans ((hF907.1 231 10 mf_X11_inner_231_231_10).trans ((hF886.1 231 10 mf_X11_isWord_231_231_10).trans (hF727.1 231 10 mf_X11_isWord_231_231_10))))) (((hF918.1 231 11 mf_X11_isSign_231_231_11).trans ((hF907.1 231 11 mf_X11_inner_231_231_11).trans ((hF886.1 231 11 mf_X11_isWord_231_231_11).trans (hF727.1 231 11 mf_X11_isWord_231_231_11))))) (((hF918.2.2 231 12 mf_X11_isSign_231_231_12).trans ((hF907.2.2 231 12 mf_X11_inner_231_231_12).trans ((hF886.2.2 231 12 mf_X11_isWord_231_231_12).trans (hF727.2.2 231 12 mf_X11_isWord_231_231_12))))))) ?_
        rintro _ _ ⟨g931, rfl, hI932, hF933, rfl, hr935⟩
        refine At.stn ?_
        have hF936 := Fr.tr hF921 hF933 rfl rfl
        have x941 := HI.eqI hI917 (p := 231) (b := 14) ((((hF918.1 231 14 mf_X11_isSign_231_231_14).trans ((hF907.1 231 14 mf_X11_inner_231_231_14).trans ((hF886.1 231 14 mf_X11_isWord_231_231_14).trans (hF727.1 231 14 mf_X11_isWord_231_231_14)))).trans hv6))
        have x942 := HI.eqI hI932 (p := 231) (b := 8) ((((hF933.1 231 8 mf_X11_must_231_231_8).trans ((hF918.1 231 8 mf_X11_isSign_231_231_8).trans ((hF907.1 231 8 mf_X11_inner_231_231_8).trans ((hF886.1 231 8 mf_X11_isWord_231_231_8).trans (hF727.1 231 8 mf_X11_isWord_231_231_8))))).trans hv1))
        obtain ⟨v943, hv943⟩ : ∃ v, gI g931 231 9 = v := ⟨_, rfl⟩
        have rv943 := RgF.at hI932.2.1 (p := 231) (b := 9) rfl
        rw [hv943] at rv943
        dsimp only at rv943
        have tv943 := congrArg Int32.toInt hv943
        obtain ⟨v945, hv945⟩ : ∃ v, gI g931 231 10 = v := ⟨_, rfl⟩
        have rv945 := RgF.at hI932.2.1 (p := 231) (b := 10) rfl
        rw [hv945] at rv945
        dsimp only at rv945
        have tv945 := congrArg Int32.toInt hv945
        obtain ⟨v947, hv947⟩ : ∃ v, gI g931 231 11 = v := ⟨_, rfl⟩
        have tv947 := congrArg Int32.toInt hv947
        obtain ⟨v949, hv949⟩ : ∃ v, gI g931 231 14 = v := ⟨_, rfl⟩
        have tv949 := congrArg Int32.toInt hv949
        obtain ⟨c951, c952, c953, c954, c955, c956, c957, c958⟩ := hr935
        obtain ⟨v959, hv959⟩ : ∃ v, gI g0 231 13 = v := ⟨_, rfl⟩
        have tv959 := congrArg Int32.toInt hv959
        have x960 := HI.eqI hI917 (p := 231) (b := 13) ((((hF918.1 231 13 mf_X11_isSign_231_231_13).trans ((hF907.1 231 13 mf_X11_inner_231_231_13).trans ((hF886.1 231 13 mf_X11_isWord_231_231_13).trans (hF727.1 231 13 mf_X11_isWord_231_231_13)))).trans hv959))
        obtain ⟨v962, hv962⟩ : ∃ v, gI g931 231 13 = v := ⟨_, rfl⟩
        have tv962 := congrArg Int32.toInt hv962
        unfold MUSTP at c958
        rw [TM.c (((hF918.2.1 236 ma_X11_isSign_231_236).trans ((hF907.2.1 236 ma_X11_inner_231_236).trans ((hF886.2.1 236 ma_X11_isWord_231_236).trans (hF727.2.1 236 ma_X11_isWord_231_236))))), nM.c (((hF918.1 231 8 mf_X11_isSign_231_231_8).trans ((hF907.1 231 8 mf_X11_inner_231_231_8).trans ((hF886.1 231 8 mf_X11_isWord_231_231_8).trans (hF727.1 231 8 mf_X11_isWord_231_231_8))))), pI.c (b := 14) (((hF918.1 231 14 mf_X11_isSign_231_231_14).trans ((hF907.1 231 14 mf_X11_inner_231_231_14).trans ((hF886.1 231 14 mf_X11_isWord_231_231_14).trans (hF727.1 231 14 mf_X11_isWord_231_231_14))))), pI.c (b := 13) (((hF918.1 231 13 mf_X11_isSign_231_231_13).trans ((hF907.1 231 13 mf_X11_inner_231_231_13).trans ((hF886.1 231 13 mf_X11_isWord_231_231_13).trans (hF727.1 231 13 mf_X11_isWord_231_231_13))))), pI.c (b := 10) (((hF918.1 231 10 mf_X11_isSign_231_231_10).trans ((hF907.1 231 10 mf_X11_inner_231_231_10).trans ((hF886.1 231 10 mf_X11_isWord_231_231_10).trans (hF727.1 231 10 mf_X11_isWord_231_231_10))))), pI.c (b := 9) (((hF918.1 231 9 mf_X11_isSign_231_231_9).trans ((hF907.1 231 9 mf_X11_inner_231_231_9).trans ((hF886.1 231 9 mf_X11_isWord_231_231_9).trans (hF727.1 231 9 mf_X11_isWord_231_231_9)))))] at c958
        have mu964 : MUSTP g0 g931 v919.toInt := c958
        clear c958
        have hK965 := mu964.1
        refine At.enter rfl ?_
        refine r_aload_n rfl ?_
        refine q_getI (Sh.int hI932.1 kx_231 rfl) v949 hv949 ?_
        refine r_ifs 103 rfl (fun c966 => ?_) (fun c966 => ?_)
        · have c966_ : v949.toInt ≠ 0 := en_k_ne_t c966
          clear c957
          obtain ⟨i967, i968⟩ := MUSTP.y mu964 (by omega) (by omega)
          have i969 := BL.no hb925 (by omega)
          refine At.enter rfl ?_
          refine r_iconst 2 rfl ?_
          refine r_ireti ?_
          obtain ⟨v974, hv974⟩ : ∃ v, gJ g931 231 12 = v := ⟨_, rfl⟩
          have x975 := HI.eqJ hI932 (b := 12) (hv974)
          have x977 := HI.eqI hI932 (p := 231) (b := 17) ((((hF933.1 231 17 mf_X11_must_231_231_17).trans ((hF918.1 231 17 mf_X11_isSign_231_231_17).trans ((hF907.1 231 17 mf_X11_inner_231_231_17).trans ((hF886.1 231 17 mf_X11_isWord_231_231_17).trans (hF727.1 231 17 mf_X11_isWord_231_231_17))))).trans hv7))
          have x978 := HI.eqI hI932 (p := 231) (b := 23) ((((hF933.1 231 23 mf_X11_must_231_231_23).trans ((hF918.1 231 23 mf_X11_isSign_231_231_23).trans ((hF907.1 231 23 mf_X11_inner_231_231_23).trans ((hF886.1 231 23 mf_X11_isWord_231_231_23).trans (hF727.1 231 23 mf_X11_isWord_231_231_23))))).trans hv8))
          have zv980 : (2 : Int32).toInt = 2 := rfl
          have pg981 := PG.cong (hP.2.1 (by decide)) hI932 (((hF933.2.1 238 ma_X11_must_231_238).trans ((hF918.2.1 238 ma_X11_isSign_231_238).trans ((hF907.2.1 238 ma_X11_inner_231_238).trans ((hF886.2.1 238 ma_X11_isWord_231_238).trans (hF727.2.1 238 ma_X11_isWord_231_238)))))) (((hF933.2.1 239 ma_X11_must_231_239).trans ((hF918.2.1 239 ma_X11_isSign_231_239).trans ((hF907.2.1 239 ma_X11_inner_231_239).trans ((hF886.2.1 239 ma_X11_isWord_231_239).trans (hF727.2.1 239 ma_X11_isWord_231_239)))))) (((hF933.2.1 240 ma_X11_must_231_240).trans ((hF918.2.1 240 ma_X11_isSign_231_240).trans ((hF907.2.1 240 ma_X11_inner_231_240).trans ((hF886.2.1 240 ma_X11_isWord_231_240).trans (hF727.2.1 240 ma_X11_isWord_231_240)))))) (((hF933.2.1 241 ma_X11_must_231_241).trans ((hF918.2.1 241 ma_X11_isSign_231_241).trans ((hF907.2.1 241 ma_X11_inner_231_241).trans ((hF886.2.1 241 ma_X11_isWord_231_241).trans (hF727.2.1 241 ma_X11_isWord_231_241)))))) (((hF933.1 231 17 mf_X11_must_231_231_17).trans ((hF918.1 231 17 mf_X11_isSign_231_231_17).trans ((hF907.1 231 17 mf_X11_inner_231_231_17).trans ((hF886.1 231 17 mf_X11_isWord_231_231_17).trans (hF727.1 231 17 mf_X11_isWord_231_231_17)))))) (((hF933.1 231 23 mf_X11_must_231_231_23).trans ((hF918.1 231 23 mf_X11_isSign_231_231_23).trans ((hF907.1 231 23 mf_X11_inner_231_231_23).trans ((hF886.1 231 23 mf_X11_isWord_231_231_23).trans (hF727.1 231 23 mf_X11_isWord_231_231_23))))))
          have nsq982 := NSQ.cong (hP.2.2.1 (by decide) (by decide)) hI932 (((hF933.2.1 240 ma_X11_must_231_240).trans ((hF918.2.1 240 ma_X11_isSign_231_240).trans ((hF907.2.1 240 ma_X11_inner_231_240).trans ((hF886.2.1 240 ma_X11_isWord_231_240).trans (hF727.2.1 240 ma_X11_isWord_231_240)))))) (((hF933.1 231 23 mf_X11_must_231_231_23).trans ((hF918.1 231 23 mf_X11_isSign_231_231_23).trans ((hF907.1 231 23 mf_X11_inner_231_231_23).trans ((hF886.1 231 23 mf_X11_isWord_231_231_23).trans (hF727.1 231 23 mf_X11_isWord_231_231_23))))))
          obtain ⟨v986, hv986⟩ : ∃ v, gI g0 231 15 = v := ⟨_, rfl⟩
          have rv986 := RgF.at hI0.2.1 (p := 231) (b := 15) rfl
          rw [hv986] at rv986
          dsimp only at rv986
          have tv986 := congrArg Int32.toInt hv986
          have x987 := HI.eqI hI932 (p := 231) (b := 15) ((((hF933.1 231 15 mf_X11_must_231_231_15).trans ((hF918.1 231 15 mf_X11_isSign_231_231_15).trans ((hF907.1 231 15 mf_X11_inner_231_231_15).trans ((hF886.1 231 15 mf_X11_isWord_231_231_15).trans (hF727.1 231 15 mf_X11_isWord_231_231_15))))).trans hv986))
          obtain ⟨v988, hv988⟩ : ∃ v, gI g0 231 20 = v := ⟨_, rfl⟩
          have tv988 := congrArg Int32.toInt hv988
          have x989 := HI.eqI hI932 (p := 231) (b := 20) ((((hF933.1 231 20 mf_X11_must_231_231_20).trans ((hF918.1 231 20 mf_X11_isSign_231_231_20).trans ((hF907.1 231 20 mf_X11_inner_231_231_20).trans ((hF886.1 231 20 mf_X11_isWord_231_231_20).trans (hF727.1 231 20 mf_X11_isWord_231_231_20))))).trans hv988))
          obtain ⟨v991, hv991⟩ : ∃ v, gI g0 231 24 = v := ⟨_, rfl⟩
          have tv991 := congrArg Int32.toInt hv991
          have x992 := HI.eqI hI932 (p := 231) (b := 24) ((((hF933.1 231 24 mf_X11_must_231_231_24).trans ((hF918.1 231 24 mf_X11_isSign_231_231_24).trans ((hF907.1 231 24 mf_X11_inner_231_231_24).trans ((hF886.1 231 24 mf_X11_isWord_231_231_24).trans (hF727.1 231 24 mf_X11_isWord_231_231_24))))).trans hv991))
          have mf1000 := mu964.2.2.1 (show (gI g0 231 14).toInt = 0 from by omega) (by omega)
          have y1001 : (gI _ 231 14).toInt ≠ 0 := mf1000.1
          have y1002 : (gI _ 231 13).toInt = (gI g0 231 9).toInt := mf1000.2
          first | (clear x735 x736 x737 x894 x895 x896 x914 hr729 hr888 hr909 hr920 c743_ c903_ zv915 zv980; exact ⟨_, rfl, hI932, hF936, _, rfl, by decide, ⟨by omega, by omega, by omega, by omega, c956, by omega, by omega, (fun hbad => ⟨by omega, (PT.mk (fun h => by first | exact absurd h (by decide) | (exfalso; omega)) (fun _ => pg981) (fun _ _ => nsq982) (fun h => by first | exact absurd h (by decide) | (exfalso; omega)))⟩), (fun hbad => by omega), hK965, (fun c0 b hC h => M.rndEF h (TKM.some hK).choose_spec (by omega) (by omega) inn912 ⟨by omega, INN.n31 inn912 (hP.2.2.1 (by decide) (by decide))⟩ (fun _ => ⟨show (gI _ 231 14).toInt ≠ 0 from by omega, show (gI _ 231 13).toInt = (gI g0 231 9).toInt from by omega⟩) (fun z => absurd (show (gI g0 231 14).toInt = 0 from (by first | exact h2 | omega)) z) _), (fun h14 c0 b K hC h => absurd (show (gI _ 231 14).toInt = 0 from h14) (by omega))⟩⟩) | exact ⟨_, rfl, hI932, hF936, _, rfl, by decide, ⟨by omega, by omega, by omega, by omega, c956, by omega, by omega, (fun hbad => ⟨by omega, (PT.mk (fun h => by first | exact absurd h (by decide) | (exfalso; omega)) (fun _ => pg981) (fun _ _ => nsq982) (fun h => by first | exact absurd h (by decide) | (exfalso; omega)))⟩), (fun hbad => by omega), hK965, (fun c0 b hC h => M.rndEF h (TKM.some hK).choose_spec (by omega) (by omega) inn912 ⟨by omega, INN.n31 inn912 (hP.2.2.1 (by decide) (by decide))⟩ (fun _ => ⟨show (gI _ 231 14).toInt ≠ 0 from by omega, show (gI _ 231 13).toInt = (gI g0 231 9).toInt from by omega⟩) (fun z => absurd (show (gI g0 231 14).toInt = 0 from (by first | exact h2 | omega)) z) _), (fun h14 c0 b K hC h => absurd (show (gI _ 231 14).toInt = 0 from h14) (by omega))⟩⟩
        · have c966_ : v949.toInt = 0 := en_k_ne_f c966
          obtain ⟨i1003, i1004, i1005⟩ := c957 (by omega)
          obtain ⟨i1006, i1007⟩ := MUSTP.z mu964 (by omega) (by omega)
          have i1008 := BL.yes hb925 (by omega)
          refine At.enter rfl ?_
          refine r_aload_n rfl ?_
          refine r_iconst 1 rfl ?_
          have x1009 := HI.eqI hI932 (p := 231) (b := 17) ((((hF933.1 231 17 mf_X11_must_231_231_17).trans ((hF918.1 231 17 mf_X11_isSign_231_231_17).trans ((hF907.1 231 17 mf_X11_inner_231_231_17).trans ((hF886.1 231 17 mf_X11_isWord_231_231_17).trans (hF727.1 231 17 mf_X11_isWord_231_231_17))))).trans hv7))
          have x1010 := HI.eqI hI932 (p := 231) (b := 23) ((((hF933.1 231 23 mf_X11_must_231_231_23).trans ((hF918.1 231 23 mf_X11_isSign_231_231_23).trans ((hF907.1 231 23 mf_X11_inner_231_231_23).trans ((hF886.1 231 23 mf_X11_isWord_231_231_23).trans (hF727.1 231 23 mf_X11_isWord_231_231_23))))).trans hv8))
          have zv1011 : (1 : Int32).toInt = 1 := rfl
          refine r_callV 108 rfl [.ref 231, .int 1] [] (Nat.le_of_ble_eq_true rfl) rfl (T_X11_settle_231 _ hI932 1 (by decide) (by omega)) ?_
          rintro _ _ ⟨g1012, rfl, hI1013, hF1014, rfl, hr1016⟩
          refine At.stn ?_
          have hF1017 := Fr.tr hF936 hF1014 rfl rfl
          obtain ⟨sp1019, sq1020, sg1021⟩ := hr1016
          have sq1022 := SETQ.fr sq1020 (((hF933.2.1 240 ma_X11_must_231_240).trans ((hF918.2.1 240 ma_X11_isSign_231_240).trans ((hF907.2.1 240 ma_X11_inner_231_240).trans ((hF886.2.1 240 ma_X11_isWord_231_240).trans (hF727.2.1 240 ma_X11_isWord_231_240)))))) (((hF933.1 231 23 mf_X11_must_231_231_23).trans ((hF918.1 231 23 mf_X11_isSign_231_231_23).trans ((hF907.1 231 23 mf_X11_inner_231_231_23).trans ((hF886.1 231 23 mf_X11_isWord_231_231_23).trans (hF727.1 231 23 mf_X11_isWord_231_231_23))))))
          have sg1023 := SETG_fr sg1021 (((hF933.2.1 240 ma_X11_must_231_240).trans ((hF918.2.1 240 ma_X11_isSign_231_240).trans ((hF907.2.1 240 ma_X11_inner_231_240).trans ((hF886.2.1 240 ma_X11_isWord_231_240).trans (hF727.2.1 240 ma_X11_isWord_231_240)))))) (((hF933.2.1 241 ma_X11_must_231_241).trans ((hF918.2.1 241 ma_X11_isSign_231_241).trans ((hF907.2.1 241 ma_X11_inner_231_241).trans ((hF886.2.1 241 ma_X11_isWord_231_241).trans (hF727.2.1 241 ma_X11_isWord_231_241)))))) (((hF933.1 231 23 mf_X11_must_231_231_23).trans ((hF918.1 231 23 mf_X11_isSign_231_231_23).trans ((hF907.1 231 23 mf_X11_inner_231_231_23).trans ((hF886.1 231 23 mf_X11_isWord_231_231_23).trans (hF727.1 231 23 mf_X11_isWord_231_231_23)))))) (SMG_mk (((hF933.2.1 238 ma_X11_must_231_238).trans ((hF918.2.1 238 ma_X11_isSign_231_238).trans ((hF907.2.1 238 ma_X11_inner_231_238).trans ((hF886.2.1 238 ma_X11_isWord_231_238).trans (hF727.2.1 238 ma_X11_isWord_231_238)))))) (((hF933.2.1 239 ma_X11_must_231_239).trans ((hF918.2.1 239 ma_X11_isSign_231_239).trans ((hF907.2.1 239 ma_X11_inner_231_239).trans ((hF886.2.1 239 ma_X11_isWord_231_239).trans (hF727.2.1 239 ma_X11_isWord_231_239)))))) (((hF933.1 231 17 mf_X11_must_231_231_17).trans ((hF918.1 231 17 mf_X11_isSign_231_231_17).trans ((hF907.1 231 17 mf_X11_inner_231_231_17).trans ((hF886.1 231 17 mf_X11_isWord_231_231_17).trans (hF727.1 231 17 mf_X11_isWord_231_231_17)))))))
          obtain ⟨v1026, hv1026⟩ : ∃ v, gI g1012 231 17 = v := ⟨_, rfl⟩
          have rv1026 := RgF.at hI1013.2.1 (p := 231) (b := 17) rfl
          rw [hv1026] at rv1026
          dsimp only at rv1026
          have tv1026 := congrArg Int32.toInt hv1026
          obtain ⟨v1028, hv1028⟩ : ∃ v, gI g1012 231 23 = v := ⟨_, rfl⟩
          have rv1028 := RgF.at hI1013.2.1 (p := 231) (b := 23) rfl
          rw [hv1028] at rv1028
          dsimp only at rv1028
          have tv1028 := congrArg Int32.toInt hv1028
          have y1030 : (gI _ 231 23).toInt ≤ (gI _ 231 23).toInt := sp1019.1
          have y1031 : (gI _ 231 17).toInt + (gI _ 231 23).toInt ≤ (gI _ 231 17).toInt + (gI _ 231 23).toInt := sp1019.2.1
          have nsq1032 := NSQ.cong (hP.2.2.1 (by decide) (by decide)) hI932 (((hF933.2.1 240 ma_X11_must_231_240).trans ((hF918.2.1 240 ma_X11_isSign_231_240).trans ((hF907.2.1 240 ma_X11_inner_231_240).trans ((hF886.2.1 240 ma_X11_isWord_231_240).trans (hF727.2.1 240 ma_X11_isWord_231_240)))))) (((hF933.1 231 23 mf_X11_must_231_231_23).trans ((hF918.1 231 23 mf_X11_isSign_231_231_23).trans ((hF907.1 231 23 mf_X11_inner_231_231_23).trans ((hF886.1 231 23 mf_X11_isWord_231_231_23).trans (hF727.1 231 23 mf_X11_isWord_231_231_23))))))
          have pg1033 := PG.cong (hP.2.1 (by decide)) hI932 (((hF933.2.1 238 ma_X11_must_231_238).trans ((hF918.2.1 238 ma_X11_isSign_231_238).trans ((hF907.2.1 238 ma_X11_inner_231_238).trans ((hF886.2.1 238 ma_X11_isWord_231_238).trans (hF727.2.1 238 ma_X11_isWord_231_238)))))) (((hF933.2.1 239 ma_X11_must_231_239).trans ((hF918.2.1 239 ma_X11_isSign_231_239).trans ((hF907.2.1 239 ma_X11_inner_231_239).trans ((hF886.2.1 239 ma_X11_isWord_231_239).trans (hF727.2.1 239 ma_X11_isWord_231_239)))))) (((hF933.2.1 240 ma_X11_must_231_240).trans ((hF918.2.1 240 ma_X11_isSign_231_240).trans ((hF907.2.1 240 ma_X11_inner_231_240).trans ((hF886.2.1 240 ma_X11_isWord_231_240).trans (hF727.2.1 240 ma_X11_isWord_231_240)))))) (((hF933.2.1 241 ma_X11_must_231_241).trans ((hF918.2.1 241 ma_X11_isSign_231_241).trans ((hF907.2.1 241 ma_X11_inner_231_241).trans ((hF886.2.1 241 ma_X11_isWord_231_241).trans (hF727.2.1 241 ma_X11_isWord_231_241)))))) (((hF933.1 231 17 mf_X11_must_231_231_17).trans ((hF918.1 231 17 mf_X11_isSign_231_231_17).trans ((hF907.1 231 17 mf_X11_inner_231_231_17).trans ((hF886.1 231 17 mf_X11_isWord_231_231_17).trans (hF727.1 231 17 mf_X11_isWord_231_231_17)))))) (((hF933.1 231 23 mf_X11_must_231_231_23).trans ((hF918.1 231 23 mf_X11_isSign_231_231_23).trans ((hF907.1 231 23 mf_X11_inner_231_231_23).trans ((hF886.1 231 23 mf_X11_isWord_231_231_23).trans (hF727.1 231 23 mf_X11_isWord_231_231_23))))))
          have inn1035 := INN.cong inn911 hI932 (((hF933.2.1 240 ma_X11_must_231_240).trans (hF918.2.1 240 ma_X11_isSign_231_240))) (((hF933.1 231 23 mf_X11_must_231_231_23).trans (hF918.1 231 23 mf_X11_isSign_231_231_23)))
          have top1036 := SETP.close1 sp1019 (by omega) inn1035 (by omega)
          have y1037 : 1 ≤ (gI _ 231 23).toInt := top1036.1
          have pg1034 := sp1019.2.2.1 _ _ _ pg1033
          have nsq1038 := NSQ.le nsq1032 hI1013 sp1019.2.2.2.2.1 sp1019.1
          refine At.enter rfl ?_
          refine r_aload_n rfl ?_
          refine r_dup rfl ?_
          refine q_getI (Sh.int hI1013.1 kx_231 rfl) v1028 hv1028 ?_
          refine r_iconst 1 rfl ?_
          refine q_isub (v1028.toInt - 1) rfl (by omega) (fun v1039 hv1039 => ?_)
          refine q_putI (Sh.int hI1013.1 kx_231 rfl) rfl ?_
          have hI1040 := HI.wI1 hI1013 kx_231 rfl (p := 231) (b := 23) (v := v1039) rfl (by dsimp only; omega)
          have hF1041 := Fr.wI (p := 231) (b := 23) (v := v1039) hF1017 rfl
          refine r_aload_n rfl ?_
          refine r_dup rfl ?_
          obtain ⟨v1042, hv1042⟩ : ∃ v, gI g0 231 24 = v := ⟨_, rfl⟩
          refine q_getI (Sh.int hI1040.1 kx_231 rfl) v1042 (((gI_sI_ne (by decide)).trans ((hF1014.1 231 24 mf_X11_settle_231_231_24).trans ((hF933.1 231 24 mf_X11_must_231_231_24).trans ((hF918.1 231 24 mf_X11_isSign_231_231_24).trans ((hF907.1 231 24 mf_X11_inner_231_231_24).trans ((hF886.1 231 24 mf_X11_isWord_231_231_24).trans (hF727.1 231 24 mf_X11_isWord_231_231_24))))))).trans hv1042) ?_
          refine r_iconst 1 rfl ?_
          refine q_isubO (fun v1043 ov1043 => ?_)
          refine q_putI (Sh.int hI1040.1 kx_231 rfl) rfl ?_
          have hI1044 := HI.wI0 hI1040 kx_231 rfl (p := 231) (b := 24) (v := v1043) rfl
          have hF1045 := Fr.wI (p := 231) (b := 24) (v := v1043) hF1041 rfl
          refine Ar.fall 128 rfl ?_
          refine At.enter rfl ?_
          refine r_iconst 2 rfl ?_
          refine r_ireti ?_
          have x1046 := HI.eqI hI1044 (p := 231) (b := 8) ((((gI_sI_ne (by decide)).trans ((gI_sI_ne (by decide)).trans ((hF1014.1 231 8 mf_X11_settle_231_231_8).trans ((hF933.1 231 8 mf_X11_must_231_231_8).trans ((hF918.1 231 8 mf_X11_isSign_231_231_8).trans ((hF907.1 231 8 mf_X11_inner_231_231_8).trans ((hF886.1 231 8 mf_X11_isWord_231_231_8).trans (hF727.1 231 8 mf_X11_isWord_231_231_8)))))))).trans hv1))
          have x1047 := HI.eqI hI1044 (p := 231) (b := 9) ((((gI_sI_ne (by decide)).trans ((gI_sI_ne (by decide)).trans (hF1014.1 231 9 mf_X11_settle_231_231_9))).trans hv943))
          have x1048 := HI.eqI hI1044 (p := 231) (b := 10) ((((gI_sI_ne (by decide)).trans ((gI_sI_ne (by decide)).trans (hF1014.1 231 10 mf_X11_settle_231_231_10))).trans hv945))
          have x1049 := HI.eqI hI1044 (p := 231) (b := 11) ((((gI_sI_ne (by decide)).trans ((gI_sI_ne (by decide)).trans (hF1014.1 231 11 mf_X11_settle_231_231_11))).trans hv947))
          obtain ⟨v1050, hv1050⟩ : ∃ v, gJ g931 231 12 = v := ⟨_, rfl⟩
          have x1051 := HI.eqJ hI1044 (b := 12) ((((gJ_sI_ne (by decide)).trans ((gJ_sI_ne (by decide)).trans (hF1014.2.2 231 12 mf_X11_settle_231_231_12))).trans hv1050))
          have x1052 := HI.eqI hI1044 (p := 231) (b := 14) ((((gI_sI_ne (by decide)).trans ((gI_sI_ne (by decide)).trans (hF1014.1 231 14 mf_X11_settle_231_231_14))).trans hv949))
          have x1053 := HI.eqI hI1044 (p := 231) (b := 17) ((((gI_sI_ne (by decide)).trans (gI_sI_ne (by decide))).trans hv1026))
          have x1054 := HI.eqI hI1044 (p := 231) (b := 23) (((gI_sI_ne (by decide)).trans (gI_sI_eq hI1013.1 kx_231 rfl _)))
          have zv1056 : (2 : Int32).toInt = 2 := rfl
          have pg1057 := PG.popB pg1034 hI1044 (((gA_sI).trans (gA_sI))) (((gA_sI).trans (gA_sI))) (((gA_sI).trans (gA_sI))) (((gA_sI).trans (gA_sI))) (((gI_sI_ne (by decide)).trans (gI_sI_ne (by decide)))) (by show (gI _ 231 23).toInt = (gI _ 231 23).toInt - 1; omega) top1036.1 top1036.2
          have nsq1059 := NSQ.le nsq1038 hI1044 (((gA_sI).trans (gA_sI))) (by show (gI _ 231 23).toInt ≤ (gI _ 231 23).toInt; omega)
          have w261061 := W26.cong c956 hI1044 (((gI_sI_ne (by decide)).trans ((gI_sI_ne (by decide)).trans (hF1014.1 231 9 mf_X11_settle_231_231_9)))) (((gI_sI_ne (by decide)).trans ((gI_sI_ne (by decide)).trans (hF1014.1 231 10 mf_X11_settle_231_231_10)))) (((gI_sI_ne (by decide)).trans ((gI_sI_ne (by decide)).trans (hF1014.1 231 11 mf_X11_settle_231_231_11)))) (((gJ_sI_ne (by decide)).trans ((gJ_sI_ne (by decide)).trans (hF1014.2.2 231 12 mf_X11_settle_231_231_12))))
          have x1063 := HI.eqI hI1044 (p := 231) (b := 13) ((((gI_sI_ne (by decide)).trans ((gI_sI_ne (by decide)).trans (hF1014.1 231 13 mf_X11_settle_231_231_13))).trans hv962))
          obtain ⟨v1065, hv1065⟩ : ∃ v, gI g0 231 15 = v := ⟨_, rfl⟩
          have rv1065 := RgF.at hI0.2.1 (p := 231) (b := 15) rfl
          rw [hv1065] at rv1065
          dsimp only at rv1065
          have tv1065 := congrArg Int32.toInt hv1065
          have x1066 := HI.eqI hI1044 (p := 231) (b := 15) ((((gI_sI_ne (by decide)).trans ((gI_sI_ne (by decide)).trans ((hF1014.1 231 15 mf_X11_settle_231_231_15).trans ((hF933.1 231 15 mf_X11_must_231_231_15).trans ((hF918.1 231 15 mf_X11_isSign_231_231_15).trans ((hF907.1 231 15 mf_X11_inner_231_231_15).trans ((hF886.1 231 15 mf_X11_isWord_231_231_15).trans (hF727.1 231 15 mf_X11_isWord_231_231_15)))))))).trans hv1065))
          obtain ⟨v1067, hv1067⟩ : ∃ v, gI g0 231 20 = v := ⟨_, rfl⟩
          have tv1067 := congrArg Int32.toInt hv1067
          have x1068 := HI.eqI hI1044 (p := 231) (b := 20) ((((gI_sI_ne (by decide)).trans ((gI_sI_ne (by decide)).trans ((hF1014.1 231 20 mf_X11_settle_231_231_20).trans ((hF933.1 231 20 mf_X11_must_231_231_20).trans ((hF918.1 231 20 mf_X11_isSign_231_231_20).trans ((hF907.1 231 20 mf_X11_inner_231_231_20).trans ((hF886.1 231 20 mf_X11_isWord_231_231_20).trans (hF727.1 231 20 mf_X11_isWord_231_231_20)))))))).trans hv1067))
          have x1070 := HI.eqI hI1044 (p := 231) (b := 24) ((gI_sI_eq hI1040.1 kx_231 rfl _))
          have x1077 := HI.eqI hI0 (p := 231) (b := 24) (hv1042)
          have x1079 := HI.eqI hI1013 (p := 231) (b := 24) ((((hF1014.1 231 24 mf_X11_settle_231_231_24).trans ((hF933.1 231 24 mf_X11_must_231_231_24).trans ((hF918.1 231 24 mf_X11_isSign_231_231_24).trans ((hF907.1 231 24 mf_X11_inner_231_231_24).trans ((hF886.1 231 24 mf_X11_isWord_231_231_24).trans (hF727.1 231 24 mf_X11_isWord_231_231_24)))))).trans hv1042))
          have y1084 : (gI g931 231 13).toInt = (gI g0 231 13).toInt := (mu964.2.1 (show (gI g0 231 14).toInt = 0 from by omega) (by omega)).2.1
          first | (clear x735 x736 x737 x894 x895 x896 x914 hr729 hr888 hr909 hr920 c743_ c903_ zv915 zv1056; exact ⟨_, rfl, hI1044, hF1045, _, rfl, by decide, ⟨by omega, by omega, by omega, by omega, w261061, by omega, by omega, (fun hbad => ⟨by omega, (PT.mk (fun h => by first | exact absurd h (by decide) | (exfalso; omega)) (fun _ => pg1057) (fun _ _ => nsq1059) (fun h => by first | exact absurd h (by decide) | (exfalso; omega)))⟩), (fun hbad => by omega), (TKM.c hK965 (((gA_sI).trans ((gA_sI).trans (hF1014.2.1 236 ma_X11_settle_231_236)))) (((gI_sI_ne (by decide)).trans ((gI_sI_ne (by decide)).trans (hF1014.1 231 8 mf_X11_settle_231_231_8)))) (((gI_sI_ne (by decide)).trans ((gI_sI_ne (by decide)).trans (hF1014.1 231 9 mf_X11_settle_231_231_9)))) (((gI_sI_ne (by decide)).trans ((gI_sI_ne (by decide)).trans (hF1014.1 231 10 mf_X11_settle_231_231_10)))) (((gI_sI_ne (by decide)).trans ((gI_sI_ne (by decide)).trans (hF1014.1 231 11 mf_X11_settle_231_231_11)))) (((gJ_sI_ne (by decide)).trans ((gJ_sI_ne (by decide)).trans (hF1014.2.2 231 12 mf_X11_settle_231_231_12))))), (fun c0 b hC h => M.rndE h (by rw [pI.c (((gI_sI_ne (by decide)).trans ((gI_sI_ne (by decide)).trans (hF1014.1 231 9 mf_X11_settle_231_231_9))))]; exact (MUSTP.tok hK mu964 (by omega) (by omega))) (by omega) inn912 ⟨by omega, INN.n31 inn912 (hP.2.2.1 (by decide) (by decide))⟩ sq1022 (pI.c (((hF1014.1 231 24 mf_X11_settle_231_231_24).trans ((hF933.1 231 24 mf_X11_must_231_231_24).trans ((hF918.1 231 24 mf_X11_isSign_231_231_24).trans ((hF907.1 231 24 mf_X11_inner_231_231_24).trans ((hF886.1 231 24 mf_X11_isWord_231_231_24).trans (hF727.1 231 24 mf_X11_isWord_231_231_24)))))))) (((gA_sI).trans (gA_sI))) (show (gI _ 231 23).toInt = (gI g1012 231 23).toInt - 1 from by omega) top1036.1 top1036.2 (fun hz => (show (gI _ 231 24).toInt = (gI g1012 231 24).toInt - 1 from by have hz2 : 0 ≤ (gI g1012 231 24).toInt := hz; have b := q_bnd v1042; have z1 : (1 : Int32).toInt = 1 := rfl; have z := isub_e ov1043 (by omega) (by omega); omega)) (show (gI _ 231 20).toInt = (gI g0 231 20).toInt from (by first | exact x1068.trans tv1067.symm | omega)) (show (gI _ 231 15).toInt = (gI g0 231 15).toInt from (by first | exact x1066.trans tv1065.symm | omega)) (fun _ => ⟨show (gI _ 231 14).toInt = 0 from by omega, show (gI _ 231 13).toInt = (gI g0 231 13).toInt from by omega⟩) (fun z => absurd (show (gI g0 231 14).toInt = 0 from (by first | exact h2 | omega)) z)), (fun h14 c0 b K hC h => MG_rndE h (by rw [pI.c (((gI_sI_ne (by decide)).trans ((gI_sI_ne (by decide)).trans (hF1014.1 231 9 mf_X11_settle_231_231_9))))]; exact (MUSTP.tok hK mu964 (by omega) (by omega))) (by omega) inn912 (by have n31 := INN.n31 inn912 (hP.2.2.1 (by decide) (by decide)); rcases inn912 with ⟨r1, -⟩ | ⟨r1, -⟩ <;> omega) sg1023 (by omega) sq1022 (((gA_sI).trans (gA_sI))) (((gA_sI).trans (gA_sI))) (show (gI _ 231 23).toInt = (gI g1012 231 23).toInt - 1 from by omega) top1036.1 top1036.2 (SMG_mk (((gA_sI).trans (gA_sI))) (((gA_sI).trans (gA_sI))) (((gI_sI_ne (by decide)).trans (gI_sI_ne (by decide))))) (by show 0 ≤ (gI g1012 231 17).toInt; omega))⟩⟩) | exact ⟨_, rfl, hI1044, hF1045, _, rfl, by decide, ⟨by omega, by omega, by omega, by omega, w261061, by omega, by omega, (fun hbad => ⟨by omega, (PT.mk (fun h => by first | exact absurd h (by decide) | (exfalso; omega)) (fun _ => pg1057) (fun _ _ => nsq1059) (fun h => by first | exact absurd h (by decide) | (exfalso; omega)))⟩), (fun hbad => by omega), (TKM.c hK965 (((gA_sI).trans ((gA_sI).trans (hF1014.2.1 236 ma_X11_settle_231_236)))) (((gI_sI_ne (by decide)).trans ((gI_sI_ne (by decide)).trans (hF1014.1 231 8 mf_X11_settle_231_231_8)))) (((gI_sI_ne (by decide)).trans ((gI_sI_ne (by decide)).trans (hF1014.1 231 9 mf_X11_settle_231_231_9)))) (((gI_sI_ne (by decide)).trans ((gI_sI_ne (by decide)).trans (hF1014.1 231 10 mf_X11_settle_231_231_10)))) (((gI_sI_ne (by decide)).trans ((gI_sI_ne (by decide)).trans (hF1014.1 231 11 mf_X11_settle_231_231_11)))) (((gJ_sI_ne (by decide)).trans ((gJ_sI_ne (by decide)).trans (hF1014.2.2 231 12 mf_X11_settle_231_231_12))))), (fun c0 b hC h => M.rndE h (by rw [pI.c (((gI_sI_ne (by decide)).trans ((gI_sI_ne (by decide)).trans (hF1014.1 231 9 mf_X11_settle_231_231_9))))]; exact (MUSTP.tok hK mu964 (by omega) (by omega))) (by omega) inn912 ⟨by omega, INN.n31 inn912 (hP.2.2.1 (by decide) (by decide))⟩ sq1022 (pI.c (((hF1014.1 231 24 mf_X11_settle_231_231_24).trans ((hF933.1 231 24 mf_X11_must_231_231_24).trans ((hF918.1 231 24 mf_X11_isSign_231_231_24).trans ((hF907.1 231 24 mf_X11_inner_231_231_24).trans ((hF886.1 231 24 mf_X11_isWord_231_231_24).trans (hF727.1 231 24 mf_X11_isWord_231_231_24)))))))) (((gA_sI).trans (gA_sI))) (show (gI _ 231 23).toInt = (gI g1012 231 23).toInt - 1 from by omega) top1036.1 top1036.2 (fun hz => (show (gI _ 231 24).toInt = (gI g1012 231 24).toInt - 1 from by have hz2 : 0 ≤ (gI g1012 231 24).toInt := hz; have b := q_bnd v1042; have z1 : (1 : Int32).toInt = 1 := rfl; have z := isub_e ov1043 (by omega) (by omega); omega)) (show (gI _ 231 20).toInt = (gI g0 231 20).toInt from (by first | exact x1068.trans tv1067.symm | omega)) (show (gI _ 231 15).toInt = (gI g0 231 15).toInt from (by first | exact x1066.trans tv1065.symm | omega)) (fun _ => ⟨show (gI _ 231 14).toInt = 0 from by omega, show (gI _ 231 13).toInt = (gI g0 231 13).toInt from by omega⟩) (fun z => absurd (show (gI g0 231 14).toInt = 0 from (by first | exact h2 | omega)) z)), (fun h14 c0 b K hC h => MG_rndE h (by rw [pI.c (((gI_sI_ne (by decide)).trans ((gI_sI_ne (by decide)).trans (hF1014.1 231 9 mf_X11_settle_231_231_9))))]; exact (MUSTP.tok hK mu964 (by omega) (by omega))) (by omega) inn912 (by have n31 := INN.n31 inn912 (hP.2.2.1 (by decide) (by decide)); rcases inn912 with ⟨r1, -⟩ | ⟨r1, -⟩ <;> omega) sg1023 (by omega) sq1022 (((gA_sI).trans (gA_sI))) (((gA_sI).trans (gA_sI))) (show (gI _ 231 23).toInt = (gI g1012 231 23).toInt - 1 from by omega) top1036.1 top1036.2 (SMG_mk (((gA_sI).trans (gA_sI))) (((gA_sI).trans (gA_sI))) (((gI_sI_ne (by decide)).trans (gI_sI_ne (by decide))))) (by show 0 ≤ (gI g1012 231 17).toInt; omega))⟩⟩
      · have c913_ : v908.toInt = (-1) := en_i_ne_f c913
        refine At.enter rfl ?_
        refine r_iconst 4 rfl ?_
        refine r_ireti ?_
        have x1087 := HI.eqI hI906 (p := 231) (b := 8) ((((hF907.1 231 8 mf_X11_inner_231_231_8).trans ((hF886.1 231 8 mf_X11_isWord_231_231_8).trans (hF727.1 231 8 mf_X11_isWord_231_231_8))).trans hv1))
        have x1088 := HI.eqI hI906 (p := 231) (b := 9) ((((hF907.1 231 9 mf_X11_inner_231_231_9).trans ((hF886.1 231 9 mf_X11_isWord_231_231_9).trans (hF727.1 231 9 mf_X11_isWord_231_231_9))).trans hv2))
        have x1089 := HI.eqI hI906 (p := 231) (b := 10) ((((hF907.1 231 10 mf_X11_inner_231_231_10).trans ((hF886.1 231 10 mf_X11_isWord_231_231_10).trans (hF727.1 231 10 mf_X11_isWord_231_231_10))).trans hv3))
        have x1090 := HI.eqI hI906 (p := 231) (b := 11) ((((hF907.1 231 11 mf_X11_inner_231_231_11).trans ((hF886.1 231 11 mf_X11_isWord_231_231_11).trans (hF727.1 231 11 mf_X11_isWord_231_231_11))).trans hv4))
        have x1091 := HI.eqJ hI906 (b := 12) ((((hF907.2.2 231 12 mf_X11_inner_231_231_12).trans ((hF886.2.2 231 12 mf_X11_isWord_231_231_12).trans (hF727.2.2 231 12 mf_X11_isWord_231_231_12))).trans hv5))
        have x1092 := HI.eqI hI906 (p := 231) (b := 14) ((((hF907.1 231 14 mf_X11_inner_231_231_14).trans ((hF886.1 231 14 mf_X11_isWord_231_231_14).trans (hF727.1 231 14 mf_X11_isWord_231_231_14))).trans hv6))
        have x1093 := HI.eqI hI906 (p := 231) (b := 17) ((((hF907.1 231 17 mf_X11_inner_231_231_17).trans ((hF886.1 231 17 mf_X11_isWord_231_231_17).trans (hF727.1 231 17 mf_X11_isWord_231_231_17))).trans hv7))
        have x1094 := HI.eqI hI906 (p := 231) (b := 23) ((((hF907.1 231 23 mf_X11_inner_231_231_23).trans ((hF886.1 231 23 mf_X11_isWord_231_231_23).trans (hF727.1 231 23 mf_X11_isWord_231_231_23))).trans hv8))
        have zv1096 : (4 : Int32).toInt = 4 := rfl
        have pg1097 := PG.cong (hP.2.1 (by decide)) hI906 (((hF907.2.1 238 ma_X11_inner_231_238).trans ((hF886.2.1 238 ma_X11_isWord_231_238).trans (hF727.2.1 238 ma_X11_isWord_231_238)))) (((hF907.2.1 239 ma_X11_inner_231_239).trans ((hF886.2.1 239 ma_X11_isWord_231_239).trans (hF727.2.1 239 ma_X11_isWord_231_239)))) (((hF907.2.1 240 ma_X11_inner_231_240).trans ((hF886.2.1 240 ma_X11_isWord_231_240).trans (hF727.2.1 240 ma_X11_isWord_231_240)))) (((hF907.2.1 241 ma_X11_inner_231_241).trans ((hF886.2.1 241 ma_X11_isWord_231_241).trans (hF727.2.1 241 ma_X11_isWord_231_241)))) (((hF907.1 231 17 mf_X11_inner_231_231_17).trans ((hF886.1 231 17 mf_X11_isWord_231_231_17).trans (hF727.1 231 17 mf_X11_isWord_231_231_17)))) (((hF907.1 231 23 mf_X11_inner_231_231_23).trans ((hF886.1 231 23 mf_X11_isWord_231_231_23).trans (hF727.1 231 23 mf_X11_isWord_231_231_23))))
        have nsq1098 := NSQ.cong (hP.2.2.1 (by decide) (by decide)) hI906 (((hF907.2.1 240 ma_X11_inner_231_240).trans ((hF886.2.1 240 ma_X11_isWord_231_240).trans (hF727.2.1 240 ma_X11_isWord_231_240)))) (((hF907.1 231 23 mf_X11_inner_231_231_23).trans ((hF886.1 231 23 mf_X11_isWord_231_231_23).trans (hF727.1 231 23 mf_X11_isWord_231_231_23))))
        have w261099 := W26.cong hW hI906 (((hF907.1 231 9 mf_X11_inner_231_231_9).trans ((hF886.1 231 9 mf_X11_isWord_231_231_9).trans (hF727.1 231 9 mf_X11_isWord_231_231_9)))) (((hF907.1 231 10 mf_X11_inner_231_231_10).trans ((hF886.1 231 10 mf_X11_isWord_231_231_10).trans (hF727.1 231 10 mf_X11_isWord_231_231_10)))) (((hF907.1 231 11 mf_X11_inner_231_231_11).trans ((hF886.1 231 11 mf_X11_isWord_231_231_11).trans (hF727.1 231 11 mf_X11_isWord_231_231_11)))) (((hF907.2.2 231 12 mf_X11_inner_231_231_12).trans ((hF886.2.2 231 12 mf_X11_isWord_231_231_12).trans (hF727.2.2 231 12 mf_X11_isWord_231_231_12))))
        obtain ⟨v1101, hv1101⟩ : ∃ v, gI g0 231 13 = v := ⟨_, rfl⟩
        have tv1101 := congrArg Int32.toInt hv1101
        have x1102 := HI.eqI hI906 (p := 231) (b := 13) ((((hF907.1 231 13 mf_X11_inner_231_231_13).trans ((hF886.1 231 13 mf_X11_isWord_231_231_13).trans (hF727.1 231 13 mf_X11_isWord_231_231_13))).trans hv1101))
        obtain ⟨v1104, hv1104⟩ : ∃ v, gI g0 231 15 = v := ⟨_, rfl⟩
        have rv1104 := RgF.at hI0.2.1 (p := 231) (b := 15) rfl
        rw [hv1104] at rv1104
        dsimp only at rv1104
        have tv1104 := congrArg Int32.toInt hv1104
        have x1105 := HI.eqI hI906 (p := 231) (b := 15) ((((hF907.1 231 15 mf_X11_inner_231_231_15).trans ((hF886.1 231 15 mf_X11_isWord_231_231_15).trans (hF727.1 231 15 mf_X11_isWord_231_231_15))).trans hv1104))
        obtain ⟨v1106, hv1106⟩ : ∃ v, gI g0 231 20 = v := ⟨_, rfl⟩
        have tv1106 := congrArg Int32.toInt hv1106
        have x1107 := HI.eqI hI906 (p := 231) (b := 20) ((((hF907.1 231 20 mf_X11_inner_231_231_20).trans ((hF886.1 231 20 mf_X11_isWord_231_231_20).trans (hF727.1 231 20 mf_X11_isWord_231_231_20))).trans hv1106))
        obtain ⟨v1109, hv1109⟩ : ∃ v, gI g0 231 24 = v := ⟨_, rfl⟩
        have tv1109 := congrArg Int32.toInt hv1109
        have x1110 := HI.eqI hI906 (p := 231) (b := 24) ((((hF907.1 231 24 mf_X11_inner_231_231_24).trans ((hF886.1 231 24 mf_X11_isWord_231_231_24).trans (hF727.1 231 24 mf_X11_isWord_231_231_24))).trans hv1109))
        first | (clear x735 x736 x737 x894 x895 x896 hr729 hr888 hr909 c743_ c903_ zv1096; exact ⟨_, rfl, hI906, hF910, _, rfl, by decide, ⟨by omega, by omega, by omega, by omega, w261099, by omega, by omega, (fun hbad => ⟨by omega, (PT.mk (fun h => by first | exact absurd h (by decide) | (exfalso; omega)) (fun _ => pg1097) (fun _ _ => nsq1098) (fun _ => INN.nbr (INN.eq inn911 (by omega))))⟩), (fun hbad => by omega), (TKM.c hK (((hF907.2.1 236 ma_X11_inner_231_236).trans ((hF886.2.1 236 ma_X11_isWord_231_236).trans (hF727.2.1 236 ma_X11_isWord_231_236)))) (((hF907.1 231 8 mf_X11_inner_231_231_8).trans ((hF886.1 231 8 mf_X11_isWord_231_231_8).trans (hF727.1 231 8 mf_X11_isWord_231_231_8)))) (((hF907.1 231 9 mf_X11_inner_231_231_9).trans ((hF886.1 231 9 mf_X11_isWord_231_231_9).trans (hF727.1 231 9 mf_X11_isWord_231_231_9)))) (((hF907.1 231 10 mf_X11_inner_231_231_10).trans ((hF886.1 231 10 mf_X11_isWord_231_231_10).trans (hF727.1 231 10 mf_X11_isWord_231_231_10)))) (((hF907.1 231 11 mf_X11_inner_231_231_11).trans ((hF886.1 231 11 mf_X11_isWord_231_231_11).trans (hF727.1 231 11 mf_X11_isWord_231_231_11)))) (((hF907.2.2 231 12 mf_X11_inner_231_231_12).trans ((hF886.2.2 231 12 mf_X11_isWord_231_231_12).trans (hF727.2.2 231 12 mf_X11_isWord_231_231_12))))), (fun c0 b hC h => M.test h (TKM.some hK).choose_spec (by omega) inn912 (by omega) (((hF907.2.1 240 ma_X11_inner_231_240).trans ((hF886.2.1 240 ma_X11_isWord_231_240).trans (hF727.2.1 240 ma_X11_isWord_231_240)))) (show (gI _ 231 23).toInt = (gI g0 231 23).toInt from (by first | exact x1094.trans tv8.symm | omega)) (show (gI _ 231 24).toInt = (gI g0 231 24).toInt from (by first | exact x1110.trans tv1109.symm | omega)) (show (gI _ 231 9).toInt = (gI g0 231 9).toInt from (by first | exact x1088.trans tv2.symm | omega)) (show (gI _ 231 20).toInt = (gI g0 231 20).toInt from (by first | exact x1107.trans tv1106.symm | omega)) (show (gI _ 231 15).toInt = (gI g0 231 15).toInt from (by first | exact x1105.trans tv1104.symm | omega)) (fun _ => ⟨show (gI _ 231 14).toInt = 0 from by omega, show (gI _ 231 13).toInt = (gI g0 231 13).toInt from (by first | exact x1102.trans tv1101.symm | omega)⟩) (fun z => absurd (show (gI g0 231 14).toInt = 0 from (by first | exact h2 | omega)) z)), (fun h14 c0 b K hC h => MG_test h (TKM.some hK).choose_spec (by omega) inn912 (by omega) (((hF907.2.1 240 ma_X11_inner_231_240).trans ((hF886.2.1 240 ma_X11_isWord_231_240).trans (hF727.2.1 240 ma_X11_isWord_231_240)))) (((hF907.2.1 241 ma_X11_inner_231_241).trans ((hF886.2.1 241 ma_X11_isWord_231_241).trans (hF727.2.1 241 ma_X11_isWord_231_241)))) (pI.c (((hF907.1 231 23 mf_X11_inner_231_231_23).trans ((hF886.1 231 23 mf_X11_isWord_231_231_23).trans (hF727.1 231 23 mf_X11_isWord_231_231_23))))) (SMG_mk (((hF907.2.1 238 ma_X11_inner_231_238).trans ((hF886.2.1 238 ma_X11_isWord_231_238).trans (hF727.2.1 238 ma_X11_isWord_231_238)))) (((hF907.2.1 239 ma_X11_inner_231_239).trans ((hF886.2.1 239 ma_X11_isWord_231_239).trans (hF727.2.1 239 ma_X11_isWord_231_239)))) (((hF907.1 231 17 mf_X11_inner_231_231_17).trans ((hF886.1 231 17 mf_X11_isWord_231_231_17).trans (hF727.1 231 17 mf_X11_isWord_231_231_17))))) (pI.c (((hF907.1 231 9 mf_X11_inner_231_231_9).trans ((hF886.1 231 9 mf_X11_isWord_231_231_9).trans (hF727.1 231 9 mf_X11_isWord_231_231_9))))))⟩⟩) | exact ⟨_, rfl, hI906, hF910, _, rfl, by decide, ⟨by omega, by omega, by omega, by omega, w261099, by omega, by omega, (fun hbad => ⟨by omega, (PT.mk (fun h => by first | exact absurd h (by decide) | (exfalso; omega)) (fun _ => pg1097) (fun _ _ => nsq1098) (fun _ => INN.nbr (INN.eq inn911 (by omega))))⟩), (fun hbad => by omega), (TKM.c hK (((hF907.2.1 236 ma_X11_inner_231_236).trans ((hF886.2.1 236 ma_X11_isWord_231_236).trans (hF727.2.1 236 ma_X11_isWord_231_236)))) (((hF907.1 231 8 mf_X11_inner_231_231_8).trans ((hF886.1 231 8 mf_X11_isWord_231_231_8).trans (hF727.1 231 8 mf_X11_isWord_231_231_8)))) (((hF907.1 231 9 mf_X11_inner_231_231_9).trans ((hF886.1 231 9 mf_X11_isWord_231_231_9).trans (hF727.1 231 9 mf_X11_isWord_231_231_9)))) (((hF907.1 231 10 mf_X11_inner_231_231_10).trans ((hF886.1 231 10 mf_X11_isWord_231_231_10).trans (hF727.1 231 10 mf_X11_isWord_231_231_10)))) (((hF907.1 231 11 mf_X11_inner_231_231_11).trans ((hF886.1 231 11 mf_X11_isWord_231_231_11).trans (hF727.1 231 11 mf_X11_isWord_231_231_11)))) (((hF907.2.2 231 12 mf_X11_inner_231_231_12).trans ((hF886.2.2 231 12 mf_X11_isWord_231_231_12).trans (hF727.2.2 231 12 mf_X11_isWord_231_231_12))))), (fun c0 b hC h => M.test h (TKM.some hK).choose_spec (by omega) inn912 (by omega) (((hF907.2.1 240 ma_X11_inner_231_240).trans ((hF886.2.1 240 ma_X11_isWord_231_240).trans (hF727.2.1 240 ma_X11_isWord_231_240)))) (show (gI _ 231 23).toInt = (gI g0 231 23).toInt from (by first | exact x1094.trans tv8.symm | omega)) (show (gI _ 231 24).toInt = (gI g0 231 24).toInt from (by first | exact x1110.trans tv1109.symm | omega)) (show (gI _ 231 9).toInt = (gI g0 231 9).toInt from (by first | exact x1088.trans tv2.symm | omega)) (show (gI _ 231 20).toInt = (gI g0 231 20).toInt from (by first | exact x1107.trans tv1106.symm | omega)) (show (gI _ 231 15).toInt = (gI g0 231 15).toInt from (by first | exact x1105.trans tv1104.symm | omega)) (fun _ => ⟨show (gI _ 231 14).toInt = 0 from by omega, show (gI _ 231 13).toInt = (gI g0 231 13).toInt from (by first | exact x1102.trans tv1101.symm | omega)⟩) (fun z => absurd (show (gI g0 231 14).toInt = 0 from (by first | exact h2 | omega)) z)), (fun h14 c0 b K hC h => MG_test h (TKM.some hK).choose_spec (by omega) inn912 (by omega) (((hF907.2.1 240 ma_X11_inner_231_240).trans ((hF886.2.1 240 ma_X11_isWord_231_240).trans (hF727.2.1 240 ma_X11_isWord_231_240)))) (((hF907.2.1 241 ma_X11_inner_231_241).trans ((hF886.2.1 241 ma_X11_isWord_231_241).trans (hF727.2.1 241 ma_X11_isWord_231_241)))) (pI.c (((hF907.1 231 23 mf_X11_inner_231_231_23).trans ((hF886.1 231 23 mf_X11_isWord_231_231_23).trans (hF727.1 231 23 mf_X11_isWord_231_231_23))))) (SMG_mk (((hF907.2.1 238 ma_X11_inner_231_238).trans ((hF886.2.1 238 ma_X11_isWord_231_238).trans (hF727.2.1 238 ma_X11_isWord_231_238)))) (((hF907.2.1 239 ma_X11_inner_231_239).trans ((hF886.2.1 239 ma_X11_isWord_231_239).trans (hF727.2.1 239 ma_X11_isWord_231_239)))) (((hF907.1 231 17 mf_X11_inner_231_231_17).trans ((hF886.1 231 17 mf_X11_isWord_231_231_17).trans (hF727.1 231 17 mf_X11_isWord_231_231_17))))) (pI.c (((hF907.1 231 9 mf_X11_inner_231_231_9).trans ((hF886.1 231 9 mf_X11_isWord_231_231_9).trans (hF727.1 231 9 mf_X11_isWord_231_231_9))))))⟩⟩
    · have c903_ : v887.toInt ≠ 0 := en_k_eq_f c903
      have i1118 := W26.two w26901 isw898 (by omega) (by decide)
      have i1119 := BL.yes hb902 (by omega)
      refine At.enter rfl ?_
      refine r_aload_n rfl ?_
      refine r_iload_n rfl ?_
      refine r_ifs 27 rfl (fun c1120 => ?_) (fun c1120 => ?_)
      · have c1120_ : v728.toInt = 0 := en_k_eq_t c1120
        refine At.enter rfl ?_
        refine r_iconst 1 rfl ?_
        refine Ar.fall 32 rfl ?_
        refine At.enter rfl ?_
        have x1122 := HI.eqI hI885 (p := 231) (b := 17) ((((hF886.1 231 17 mf_X11_isWord_231_231_17).trans (hF727.1 231 17 mf_X11_isWord_231_231_17)).trans hv7))
        have x1123 := HI.eqI hI885 (p := 231) (b := 23) ((((hF886.1 231 23 mf_X11_isWord_231_231_23).trans (hF727.1 231 23 mf_X11_isWord_231_231_23)).trans hv8))
        have zv1124 : (1 : Int32).toInt = 1 := rfl
        refine r_callV 35 rfl [.ref 231, .int 1] [] (Nat.le_of_ble_eq_true rfl) rfl (T_X11_settle_231 _ hI885 1 (by decide) (by omega)) ?_
        rintro _ _ ⟨g1125, rfl, hI1126, hF1127, rfl, hr1129⟩
        refine At.stn ?_
        have hF1130 := Fr.tr hF889 hF1127 rfl rfl
        obtain ⟨sp1132, sq1133, sg1134⟩ := hr1129
        have sq1135 := SETQ.fr sq1133 (((hF886.2.1 240 ma_X11_isWord_231_240).trans (hF727.2.1 240 ma_X11_isWord_231_240))) (((hF886.1 231 23 mf_X11_isWord_231_231_23).trans (hF727.1 231 23 mf_X11_isWord_231_231_23)))
        have sg1136 := SETG_fr sg1134 (((hF886.2.1 240 ma_X11_isWord_231_240).trans (hF727.2.1 240 ma_X11_isWord_231_240))) (((hF886.2.1 241 ma_X11_isWord_231_241).trans (hF727.2.1 241 ma_X11_isWord_231_241))) (((hF886.1 231 23 mf_X11_isWord_231_231_23).trans (hF727.1 231 23 mf_X11_isWord_231_231_23))) (SMG_mk (((hF886.2.1 238 ma_X11_isWord_231_238).trans (hF727.2.1 238 ma_X11_isWord_231_238))) (((hF886.2.1 239 ma_X11_isWord_231_239).trans (hF727.2.1 239 ma_X11_isWord_231_239))) (((hF886.1 231 17 mf_X11_isWord_231_231_17).trans (hF727.1 231 17 mf_X11_isWord_231_231_17))))
        obtain ⟨v1139, hv1139⟩ : ∃ v, gI g1125 231 17 = v := ⟨_, rfl⟩
        have rv1139 := RgF.at hI1126.2.1 (p := 231) (b := 17) rfl
        rw [hv1139] at rv1139
        dsimp only at rv1139
        have tv1139 := congrArg Int32.toInt hv1139
        obtain ⟨v1141, hv1141⟩ : ∃ v, gI g1125 231 23 = v := ⟨_, rfl⟩
        have rv1141 := RgF.at hI1126.2.1 (p := 231) (b := 23) rfl
        rw [hv1141] at rv1141
        dsimp only at rv1141
        have tv1141 := congrArg Int32.toInt hv1141
        have y1143 : (gI _ 231 23).toInt ≤ (gI _ 231 23).toInt := sp1132.1
        have y1144 : (gI _ 231 17).toInt + (gI _ 231 23).toInt ≤ (gI _ 231 17).toInt + (gI _ 231 23).toInt := sp1132.2.1
        have nsq1145 := NSQ.cong (hP.2.2.1 (by decide) (by decide)) hI885 (((hF886.2.1 240 ma_X11_isWord_231_240).trans (hF727.2.1 240 ma_X11_isWord_231_240))) (((hF886.1 231 23 mf_X11_isWord_231_231_23).trans (hF727.1 231 23 mf_X11_isWord_231_231_23)))
        have pg1146 := PG.cong (hP.2.1 (by decide)) hI885 (((hF886.2.1 238 ma_X11_isWord_231_238).trans (hF727.2.1 238 ma_X11_isWord_231_238))) (((hF886.2.1 239 ma_X11_isWord_231_239).trans (hF727.2.1 239 ma_X11_isWord_231_239))) (((hF886.2.1 240 ma_X11_isWord_231_240).trans (hF727.2.1 240 ma_X11_isWord_231_240))) (((hF886.2.1 241 ma_X11_isWord_231_241).trans (hF727.2.1 241 ma_X11_isWord_231_241))) (((hF886.1 231 17 mf_X11_isWord_231_231_17).trans (hF727.1 231 17 mf_X11_isWord_231_231_17))) (((hF886.1 231 23 mf_X11_isWord_231_231_23).trans (hF727.1 231 23 mf_X11_isWord_231_231_23)))
        have pg1147 := sp1132.2.2.1 _ _ _ pg1146
        have nsq1148 := NSQ.le nsq1145 hI1126 sp1132.2.2.2.2.1 sp1132.1
        refine At.enter rfl ?_
        refine r_aload_n rfl ?_
        refine r_iload_n rfl ?_
        refine r_ifs 40 rfl (fun c1149 => ?_) (fun c1149 => ?_)
        · have c1149_ : v728.toInt = 0 := en_k_eq_t c1149
          refine At.enter rfl ?_
          refine r_bipush 29 rfl ?_
          refine Ar.fall 47 rfl ?_
          refine At.enter rfl ?_
          refine r_aload_n rfl ?_
          refine q_getI (Sh.int hI1126.1 kx_231 rfl) v1139 hv1139 ?_
          have zv1152 : (29 : Int32).toInt = 29 := rfl
          refine r_callV 54 rfl [.ref 231, .int 29, .int v1139] [] (Nat.le_of_ble_eq_true rfl) rfl (T_X11_push_231 _ hI1126 29 (by decide) v1139 (by omega) (by omega)) ?_
          rintro _ _ ⟨g1153, rfl, hI1154, hF1155, rfl, hr1157⟩
          refine At.stn ?_
          have hF1158 := Fr.tr hF1130 hF1155 rfl rfl
          have x1162 := HI.eqI hI1154 (p := 231) (b := 17) (((hF1155.1 231 17 mf_X11_push_231_231_17).trans hv1139))
          obtain ⟨v1163, hv1163⟩ : ∃ v, gI g1153 231 23 = v := ⟨_, rfl⟩
          have rv1163 := RgF.at hI1154.2.1 (p := 231) (b := 23) rfl
          rw [hv1163] at rv1163
          dsimp only at rv1163
          have tv1163 := congrArg Int32.toInt hv1163
          have y1165 : (gI _ 231 23).toInt = (gI _ 231 23).toInt + 1 := hr1157.1
          have nsq1167 := NSQ.push nsq1148 hr1157 (by omega)
          refine At.enter rfl ?_
          refine r_aload_n rfl ?_
          refine r_iload_n rfl ?_
          refine r_ifs 59 rfl (fun c1168 => ?_) (fun c1168 => ?_)
          · have c1168_ : v728.toInt = 0 := en_k_eq_t c1168
            refine At.enter rfl ?_
            refine r_bipush 29 rfl ?_
            refine Ar.fall 66 rfl ?_
            refine At.enter rfl ?_
            refine r_iconst 0 rfl ?_
            have zv1172 : (0 : Int32).toInt = 0 := rfl
            refine r_callV 70 rfl [.ref 231, .int 29, .int 0] [] (Nat.le_of_ble_eq_true rfl) rfl (T_X11_emit_231 _ hI1154 29 0 (by omega)) ?_
            rintro _ _ ⟨g1173, rfl, hI1174, hF1175, rfl, hr1177⟩
            refine At.stn ?_
            have hF1178 := Fr.tr hF1158 hF1175 rfl rfl
            obtain ⟨v1183, hv1183⟩ : ∃ v, gI g1173 231 17 = v := ⟨_, rfl⟩
            have rv1183 := RgF.at hI1174.2.1 (p := 231) (b := 17) rfl
            rw [hv1183] at rv1183
            dsimp only at rv1183
            have tv1183 := congrArg Int32.toInt hv1183
            have y1185 : (gI _ 231 17).toInt = (gI _ 231 17).toInt + 1 := hr1177.1.1
            have pg1186 := PG.andor pg1147 hr1157 (hF1155.2.1 238 ma_X11_push_231_238) (hF1155.2.1 239 ma_X11_push_231_239) (hF1155.1 231 17 mf_X11_push_231_231_17) hr1177.1 (hF1175.2.1 240 ma_X11_emit_231_240) (hF1175.2.1 241 ma_X11_emit_231_241) (hF1175.1 231 23 mf_X11_emit_231_231_23) ⟨by omega, by omega⟩ (by show _ = (gI _ 231 17).toInt; omega) nsq1148 (by show 0 ≤ (gI _ 231 23).toInt; omega)
            have nsq1187 := NSQ.cong nsq1167 hI1174 ((hF1175.2.1 240 ma_X11_emit_231_240)) ((hF1175.1 231 23 mf_X11_emit_231_231_23))
            refine At.enter rfl ?_
            refine r_aload_n rfl ?_
            have x1188 := HI.eqI hI1174 (p := 231) (b := 8) ((((hF1175.1 231 8 mf_X11_emit_231_231_8).trans ((hF1155.1 231 8 mf_X11_push_231_231_8).trans ((hF1127.1 231 8 mf_X11_settle_231_231_8).trans ((hF886.1 231 8 mf_X11_isWord_231_231_8).trans (hF727.1 231 8 mf_X11_isWord_231_231_8))))).trans hv1))
            have x1189 := HI.eqI hI1174 (p := 231) (b := 10) ((((hF1175.1 231 10 mf_X11_emit_231_231_10).trans ((hF1155.1 231 10 mf_X11_push_231_231_10).trans ((hF1127.1 231 10 mf_X11_settle_231_231_10).trans ((hF886.1 231 10 mf_X11_isWord_231_231_10).trans (hF727.1 231 10 mf_X11_isWord_231_231_10))))).trans hv3))
            refine r_callV 74 rfl [.ref 231] [] (Nat.le_of_ble_eq_true rfl) rfl (T_X11_next_231 _ hI1174 (by omega)) ?_
            rintro _ _ ⟨g1190, rfl, hI1191, hF1192, rfl, hr1194⟩
            refine At.stn ?_
            have hF1195 := Fr.tr hF1178 hF1192 rfl rfl
            have x1198 := HI.eqI hI1191 (p := 231) (b := 8) ((((hF1192.1 231 8 mf_X11_next_231_231_8).trans ((hF1175.1 231 8 mf_X11_emit_231_231_8).trans ((hF1155.1 231 8 mf_X11_push_231_231_8).trans ((hF1127.1 231 8 mf_X11_settle_231_231_8).trans ((hF886.1 231 8 mf_X11_isWord_231_231_8).trans (hF727.1 231 8 mf_X11_isWord_231_231_8)))))).trans hv1))
            obtain ⟨v1199, hv1199⟩ : ∃ v, gI g1190 231 9 = v := ⟨_, rfl⟩
            have rv1199 := RgF.at hI1191.2.1 (p := 231) (b := 9) rfl
            rw [hv1199] at rv1199
            dsimp only at rv1199
            have tv1199 := congrArg Int32.toInt hv1199
            obtain ⟨v1201, hv1201⟩ : ∃ v, gI g1190 231 10 = v := ⟨_, rfl⟩
            have rv1201 := RgF.at hI1191.2.1 (p := 231) (b := 10) rfl
            rw [hv1201] at rv1201
            dsimp only at rv1201
            have tv1201 := congrArg Int32.toInt hv1201
            obtain ⟨v1203, hv1203⟩ : ∃ v, gI g1190 231 11 = v := ⟨_, rfl⟩
            have tv1203 := congrArg Int32.toInt hv1203
            obtain ⟨c1205, c1206, c1207, c1208, c1209, c1210, c1211⟩ := hr1194
            have tok1212_ := c1211.2
            rw [TM.c (((hF1175.2.1 236 ma_X11_emit_231_236).trans ((hF1155.2.1 236 ma_X11_push_231_236).trans ((hF1127.2.1 236 ma_X11_settle_231_236).trans ((hF886.2.1 236 ma_X11_isWord_231_236).trans (hF727.2.1 236 ma_X11_isWord_231_236)))))), nM.c (((hF1175.1 231 8 mf_X11_emit_231_231_8).trans ((hF1155.1 231 8 mf_X11_push_231_231_8).trans ((hF1127.1 231 8 mf_X11_settle_231_231_8).trans ((hF886.1 231 8 mf_X11_isWord_231_231_8).trans (hF727.1 231 8 mf_X11_isWord_231_231_8)))))), pI.c (b := 10) (((hF1175.1 231 10 mf_X11_emit_231_231_10).trans ((hF1155.1 231 10 mf_X11_push_231_231_10).trans ((hF1127.1 231 10 mf_X11_settle_231_231_10).trans ((hF886.1 231 10 mf_X11_isWord_231_231_10).trans (hF727.1 231 10 mf_X11_isWord_231_231_10))))))] at tok1212_
            have tok1212 := TKM.tok hK tok1212_
            have hK1213 := c1211.1
            refine At.enter rfl ?_
            refine r_iconst 0 rfl ?_
            refine r_ireti ?_
            obtain ⟨v1218, hv1218⟩ : ∃ v, gJ g1190 231 12 = v := ⟨_, rfl⟩
            have x1219 := HI.eqJ hI1191 (b := 12) (hv1218)
            have x1220 := HI.eqI hI1191 (p := 231) (b := 14) ((((hF1192.1 231 14 mf_X11_next_231_231_14).trans ((hF1175.1 231 14 mf_X11_emit_231_231_14).trans ((hF1155.1 231 14 mf_X11_push_231_231_14).trans ((hF1127.1 231 14 mf_X11_settle_231_231_14).trans ((hF886.1 231 14 mf_X11_isWord_231_231_14).trans (hF727.1 231 14 mf_X11_isWord_231_231_14)))))).trans hv6))
            have x1221 := HI.eqI hI1191 (p := 231) (b := 17) (((hF1192.1 231 17 mf_X11_next_231_231_17).trans hv1183))
            have x1222 := HI.eqI hI1191 (p := 231) (b := 23) ((((hF1192.1 231 23 mf_X11_next_231_231_23).trans (hF1175.1 231 23 mf_X11_emit_231_231_23)).trans hv1163))
            have pg1225 := PG.cong pg1186 hI1191 ((hF1192.2.1 238 ma_X11_next_231_238)) ((hF1192.2.1 239 ma_X11_next_231_239)) ((hF1192.2.1 240 ma_X11_next_231_240)) ((hF1192.2.1 241 ma_X11_next_231_241)) ((hF1192.1 231 17 mf_X11_next_231_231_17)) ((hF1192.1 231 23 mf_X11_next_231_231_23))
            have nsq1226 := NSQ.cong nsq1187 hI1191 ((hF1192.2.1 240 ma_X11_next_231_240)) ((hF1192.1 231 23 mf_X11_next_231_231_23))
            obtain ⟨v1228, hv1228⟩ : ∃ v, gI g0 231 13 = v := ⟨_, rfl⟩
            have tv1228 := congrArg Int32.toInt hv1228
            have x1229 := HI.eqI hI1191 (p := 231) (b := 13) ((((hF1192.1 231 13 mf_X11_next_231_231_13).trans ((hF1175.1 231 13 mf_X11_emit_231_231_13).trans ((hF1155.1 231 13 mf_X11_push_231_231_13).trans ((hF1127.1 231 13 mf_X11_settle_231_231_13).trans ((hF886.1 231 13 mf_X11_isWord_231_231_13).trans (hF727.1 231 13 mf_X11_isWord_231_231_13)))))).trans hv1228))
            obtain ⟨v1231, hv1231⟩ : ∃ v, gI g0 231 15 = v := ⟨_, rfl⟩
            have rv1231 := RgF.at hI0.2.1 (p := 231) (b := 15) rfl
            rw [hv1231] at rv1231
            dsimp only at rv1231
            have tv1231 := congrArg Int32.toInt hv1231
            have x1232 := HI.eqI hI1191 (p := 231) (b := 15) ((((hF1192.1 231 15 mf_X11_next_231_231_15).trans ((hF1175.1 231 15 mf_X11_emit_231_231_15).trans ((hF1155.1 231 15 mf_X11_push_231_231_15).trans ((hF1127.1 231 15 mf_X11_settle_231_231_15).trans ((hF886.1 231 15 mf_X11_isWord_231_231_15).trans (hF727.1 231 15 mf_X11_isWord_231_231_15)))))).trans hv1231))
            obtain ⟨v1233, hv1233⟩ : ∃ v, gI g0 231 20 = v := ⟨_, rfl⟩
            have tv1233 := congrArg Int32.toInt hv1233
            have x1234 := HI.eqI hI1191 (p := 231) (b := 20) ((((hF1192.1 231 20 mf_X11_next_231_231_20).trans ((hF1175.1 231 20 mf_X11_emit_231_231_20).trans ((hF1155.1 231 20 mf_X11_push_231_231_20).trans ((hF1127.1 231 20 mf_X11_settle_231_231_20).trans ((hF886.1 231 20 mf_X11_isWord_231_231_20).trans (hF727.1 231 20 mf_X11_isWord_231_231_20)))))).trans hv1233))
            obtain ⟨v1236, hv1236⟩ : ∃ v, gI g0 231 24 = v := ⟨_, rfl⟩
            have tv1236 := congrArg Int32.toInt hv1236
            have x1237 := HI.eqI hI1191 (p := 231) (b := 24) ((((hF1192.1 231 24 mf_X11_next_231_231_24).trans ((hF1175.1 231 24 mf_X11_emit_231_231_24).trans ((hF1155.1 231 24 mf_X11_push_231_231_24).trans ((hF1127.1 231 24 mf_X11_settle_231_231_24).trans ((hF886.1 231 24 mf_X11_isWord_231_231_24).trans (hF727.1 231 24 mf_X11_isWord_231_231_24)))))).trans hv1236))
            have x1246 := HI.eqI hI1126 (p := 231) (b := 24) ((((hF1127.1 231 24 mf_X11_settle_231_231_24).trans ((hF886.1 231 24 mf_X11_isWord_231_231_24).trans (hF727.1 231 24 mf_X11_isWord_231_231_24))).trans hv1236))
            first | (clear x735 x736 x737 hr729 hr888 c743_ c1120_ c1149_ c1168_; exact ⟨_, rfl, hI1191, hF1195, _, rfl, by decide, ⟨by omega, by omega, by omega, by omega, c1210, by omega, by omega, (fun hbad => ⟨by omega, (PT.mk (fun _ => pg1225) (fun h => by first | exact absurd h (by decide) | (exfalso; omega)) (fun _ _ => nsq1226) (fun h => by first | exact absurd h (by decide) | (exfalso; omega)))⟩), (fun hbad => by omega), hK1213, (fun c0 b hC h => M.andor h tok1212 (by omega) sq1135 (PUSH.fr2 hr1157 rfl rfl rfl (((hF1192.2.1 240 ma_X11_next_231_240).trans (hF1175.2.1 240 ma_X11_emit_231_240))) (((hF1192.2.1 241 ma_X11_next_231_241).trans (hF1175.2.1 241 ma_X11_emit_231_241))) (((hF1192.1 231 23 mf_X11_next_231_231_23).trans (hF1175.1 231 23 mf_X11_emit_231_231_23)))) (by omega) (pI.c (((hF1127.1 231 24 mf_X11_settle_231_231_24).trans ((hF886.1 231 24 mf_X11_isWord_231_231_24).trans (hF727.1 231 24 mf_X11_isWord_231_231_24))))) (show (gI _ 231 24).toInt = (gI g1125 231 24).toInt from (by first | exact x1237.trans x1246.symm | omega)) (show (gI _ 231 20).toInt = (gI g0 231 20).toInt from (by first | exact x1234.trans tv1233.symm | omega)) (show (gI _ 231 15).toInt = (gI g0 231 15).toInt from (by first | exact x1232.trans tv1231.symm | omega)) (fun _ => ⟨show (gI _ 231 14).toInt = 0 from by omega, show (gI _ 231 13).toInt = (gI g0 231 13).toInt from (by first | exact x1229.trans tv1228.symm | omega)⟩) (fun z => absurd (show (gI g0 231 14).toInt = 0 from (by first | exact h2 | omega)) z)), (fun h14 c0 b K hC h => MG_andor (gx := g1153) h tok1212 (by omega) sg1136 (by have l2 := lea_2 (CDM g0); omega) sq1135 (PUSH.fr2 hr1157 rfl rfl rfl rfl rfl rfl) (by omega) (by show _ = (gI g1125 231 17).toInt; omega) (SMG_mk ((hF1155.2.1 238 ma_X11_push_231_238)) ((hF1155.2.1 239 ma_X11_push_231_239)) ((hF1155.1 231 17 mf_X11_push_231_231_17))) (by show 0 ≤ (gI g1125 231 17).toInt; omega) (((hF1192.2.1 240 ma_X11_next_231_240).trans (hF1175.2.1 240 ma_X11_emit_231_240))) (((hF1192.2.1 241 ma_X11_next_231_241).trans (hF1175.2.1 241 ma_X11_emit_231_241))) (pI.c (((hF1192.1 231 23 mf_X11_next_231_231_23).trans (hF1175.1 231 23 mf_X11_emit_231_231_23)))) (EMG_fr hr1177.2 SMG_rf (SMG_mk ((hF1192.2.1 238 ma_X11_next_231_238)) ((hF1192.2.1 239 ma_X11_next_231_239)) ((hF1192.1 231 17 mf_X11_next_231_231_17)))) (by omega) rfl)⟩⟩) | exact ⟨_, rfl, hI1191, hF1195, _, rfl, by decide, ⟨by omega, by omega, by omega, by omega, c1210, by omega, by omega, (fun hbad => ⟨by omega, (PT.mk (fun _ => pg1225) (fun h => by first | exact absurd h (by decide) | (exfalso; omega)) (fun _ _ => nsq1226) (fun h => by first | exact absurd h (by decide) | (exfalso; omega)))⟩), (fun hbad => by omega), hK1213, (fun c0 b hC h => M.andor h tok1212 (by omega) sq1135 (PUSH.fr2 hr1157 rfl rfl rfl (((hF1192.2.1 240 ma_X11_next_231_240).trans (hF1175.2.1 240 ma_X11_emit_231_240))) (((hF1192.2.1 241 ma_X11_next_231_241).trans (hF1175.2.1 241 ma_X11_emit_231_241))) (((hF1192.1 231 23 mf_X11_next_231_231_23).trans (hF1175.1 231 23 mf_X11_emit_231_231_23)))) (by omega) (pI.c (((hF1127.1 231 24 mf_X11_settle_231_231_24).trans ((hF886.1 231 24 mf_X11_isWord_231_231_24).trans (hF727.1 231 24 mf_X11_isWord_231_231_24))))) (show (gI _ 231 24).toInt = (gI g1125 231 24).toInt from (by first | exact x1237.trans x1246.symm | omega)) (show (gI _ 231 20).toInt = (gI g0 231 20).toInt from (by first | exact x1234.trans tv1233.symm | omega)) (show (gI _ 231 15).toInt = (gI g0 231 15).toInt from (by first | exact x1232.trans tv1231.symm | omega)) (fun _ => ⟨show (gI _ 231 14).toInt = 0 from by omega, show (gI _ 231 13).toInt = (gI g0 231 13).toInt from (by first | exact x1229.trans tv1228.symm | omega)⟩) (fun z => absurd (show (gI g0 231 14).toInt = 0 from (by first | exact h2 | omega)) z)), (fun h14 c0 b K hC h => MG_andor (gx := g1153) h tok1212 (by omega) sg1136 (by have l2 := lea_2 (CDM g0); omega) sq1135 (PUSH.fr2 hr1157 rfl rfl rfl rfl rfl rfl) (by omega) (by show _ = (gI g1125 231 17).toInt; omega) (SMG_mk ((hF1155.2.1 238 ma_X11_push_231_238)) ((hF1155.2.1 239 ma_X11_push_231_239)) ((hF1155.1 231 17 mf_X11_push_231_231_17))) (by show 0 ≤ (gI g1125 231 17).toInt; omega) (((hF1192.2.1 240 ma_X11_next_231_240).trans (hF1175.2.1 240 ma_X11_emit_231_240))) (((hF1192.2.1 241 ma_X11_next_231_241).trans (hF1175.2.1 241 ma_X11_emit_231_241))) (pI.c (((hF1192.1 231 23 mf_X11_next_231_231_23).trans (hF1175.1 231 23 mf_X11_emit_231_231_23)))) (EMG_fr hr1177.2 SMG_rf (SMG_mk ((hF1192.2.1 238 ma_X11_next_231_238)) ((hF1192.2.1 239 ma_X11_next_231_239)) ((hF1192.1 231 17 mf_X11_next_231_231_17)))) (by omega) rfl)⟩⟩
          · have c1168_ : v728.toInt ≠ 0 := en_k_eq_f c1168
            have i1249 := W26.two hW isw739 (by omega) (by decide)
            have i1250 := BL.yes hb742 (by omega)
            exfalso; omega
        · have c1149_ : v728.toInt ≠ 0 := en_k_eq_f c1149
          have i1251 := W26.two hW isw739 (by omega) (by decide)
          have i1252 := BL.yes hb742 (by omega)
          exfalso; omega
      · have c1120_ : v728.toInt ≠ 0 := en_k_eq_f c1120
        have i1253 := W26.two hW isw739 (by omega) (by decide)
        have i1254 := BL.yes hb742 (by omega)
        exfalso; omega
