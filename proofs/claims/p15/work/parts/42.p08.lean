def F_X11_readExpression_231 : List (Nat × Nat) := [(231, 9), (231, 10), (231, 11), (231, 12), (231, 13), (231, 14), (231, 17), (231, 20), (231, 23), (231, 24)]
def A_X11_readExpression_231 : List Nat := [238, 239, 240, 241]
theorem mf_X11_behindTest_231_231_8 : memF F_X11_behindTest_231 231 8 = false := by decide
theorem mf_X11_behindSum_231_231_8 : memF F_X11_behindSum_231 231 8 = false := by decide
theorem mf_X11_readPlain_231_231_8 : memF F_X11_readPlain_231 231 8 = false := by decide
set_option maxRecDepth 100000 in
set_option maxHeartbeats 4000000 in
theorem T_X11_readExpression_231 (d : Nat) {N : Nat} {g0 : List en_E} (hI0 : HI g0) (a1 : Int32) (h_a1 : 0 ≤ a1.toInt ∧ a1.toInt ≤ 1) (h1 : ((gI g0 231 9).toInt ≤ (gI g0 231 10).toInt ∧ (gI g0 231 10).toInt ≤ (gI g0 231 8).toInt ∧ 0 ≤ (gI g0 231 11).toInt ∧ (gI g0 231 11).toInt ≤ 3 * ((gI g0 231 10).toInt - (gI g0 231 9).toInt))) (h2 : (gI g0 231 14).toInt = 0) (h3 : (gI g0 231 17).toInt ≤ (gI g0 231 9).toInt) (hW : W26 g0) (hK : TKM g0) : Ev (d + 7) 208 [.ref 231, .int a1] (g0, N) (fun w h' => ∃ g', h' = (g', N) ∧ HI g' ∧ Fr F_X11_readExpression_231 A_X11_readExpression_231 g0 g' ∧ w = none ∧ ((gI g' 231 9).toInt ≤ (gI g' 231 10).toInt ∧ (gI g' 231 10).toInt ≤ (gI g' 231 8).toInt ∧ 0 ≤ (gI g' 231 11).toInt ∧ (gI g' 231 11).toInt ≤ 3 * ((gI g' 231 10).toInt - (gI g' 231 9).toInt) ∧ W26 g' ∧ (gI g0 231 9).toInt ≤ (gI g' 231 9).toInt ∧ XPR g0 g' ∧ (TKM g' ∧ ∀ b : Int, HBT a1.toInt b → XPM g0 g' b))) := by
  have hF0 : Fr F_X11_readExpression_231 A_X11_readExpression_231 g0 g0 := Fr.rf
  obtain ⟨v1, hv1⟩ : ∃ v, gI g0 231 8 = v := ⟨_, rfl⟩
  have rv1 := RgF.at hI0.2.1 (p := 231) (b := 8) rfl
  rw [hv1] at rv1
  dsimp only at rv1
  have tv1 := congrArg Int32.toInt hv1
  obtain ⟨v2, hv2⟩ : ∃ v, gI g0 231 9 = v := ⟨_, rfl⟩
  have rv2 := RgF.at hI0.2.1 (p := 231) (b := 9) rfl
  rw [hv2] at rv2
  dsimp only at rv2
  have tv2 := congrArg Int32.toInt hv2
  obtain ⟨v3, hv3⟩ : ∃ v, gI g0 231 10 = v := ⟨_, rfl⟩
  have rv3 := RgF.at hI0.2.1 (p := 231) (b := 10) rfl
  rw [hv3] at rv3
  dsimp only at rv3
  have tv3 := congrArg Int32.toInt hv3
  obtain ⟨v4, hv4⟩ : ∃ v, gI g0 231 11 = v := ⟨_, rfl⟩
  have tv4 := congrArg Int32.toInt hv4
  obtain ⟨v5, hv5⟩ : ∃ v, gJ g0 231 12 = v := ⟨_, rfl⟩
  have tv5 := congrArg Int64.toInt hv5
  obtain ⟨v6, hv6⟩ : ∃ v, gI g0 231 14 = v := ⟨_, rfl⟩
  have tv6 := congrArg Int32.toInt hv6
  obtain ⟨v7, hv7⟩ : ∃ v, gI g0 231 17 = v := ⟨_, rfl⟩
  have rv7 := RgF.at hI0.2.1 (p := 231) (b := 17) rfl
  rw [hv7] at rv7
  dsimp only at rv7
  have tv7 := congrArg Int32.toInt hv7
  obtain ⟨v8, hv8⟩ : ∃ v, gI g0 231 23 = v := ⟨_, rfl⟩
  have rv8 := RgF.at hI0.2.1 (p := 231) (b := 23) rfl
  rw [hv8] at rv8
  dsimp only at rv8
  have tv8 := congrArg Int32.toInt hv8
  refine Ev.mk rfl rfl ⟨Nat.le_of_ble_eq_true rfl, Or.inr (q_rc hI0.1 kx_231 rfl)⟩ ?_
  show At _ none _ _ (0, [(0, .ref 231), (1, .int a1)], [], (_, _)) _
  refine At.enter rfl ?_
  refine r_aload_n rfl ?_
  refine r_iconst 0 rfl ?_
  refine q_putI (Sh.int hI0.1 kx_231 rfl) rfl ?_
  have hI4067 := HI.wI1 hI0 kx_231 rfl (p := 231) (b := 23) (v := 0) rfl (by decide)
  have hF4068 := Fr.wI (p := 231) (b := 23) (v := 0) hF0 rfl
  refine r_aload_n rfl ?_
  refine r_iconst 0 rfl ?_
  refine q_putI (Sh.int hI4067.1 kx_231 rfl) rfl ?_
  have hI4069 := HI.wI0 hI4067 kx_231 rfl (p := 231) (b := 24) (v := 0) rfl
  have hF4070 := Fr.wI (p := 231) (b := 24) (v := 0) hF4068 rfl
  refine r_iload_n rfl ?_
  refine r_ifs 14 rfl (fun c4071 => ?_) (fun c4071 => ?_)
  · have c4071_ : a1.toInt = 0 := en_k_eq_t c4071
    refine At.enter rfl ?_
    refine r_iconst 1 rfl ?_
    refine Ar.fall 19 rfl ?_
    refine At.enter rfl ?_
    refine r_istore_n ([(2, .int 1), (0, .ref 231), (1, .int a1)]) rfl ?_
    refine Ar.fall 20 rfl ?_
    have z_4815 : (1 : Int32).toInt = 1 := rfl
    have x4816 := HI.eqI hI4069 (p := 231) (b := 8) ((((gI_sI_ne (by decide)).trans (gI_sI_ne (by decide))).trans hv1))
    have x4817 := HI.eqI hI4069 (p := 231) (b := 9) ((((gI_sI_ne (by decide)).trans (gI_sI_ne (by decide))).trans hv2))
    have x4818 := HI.eqI hI4069 (p := 231) (b := 10) ((((gI_sI_ne (by decide)).trans (gI_sI_ne (by decide))).trans hv3))
    have x4819 := HI.eqI hI4069 (p := 231) (b := 11) ((((gI_sI_ne (by decide)).trans (gI_sI_ne (by decide))).trans hv4))
    have x4820 := HI.eqJ hI4069 (b := 12) ((((gJ_sI_ne (by decide)).trans (gJ_sI_ne (by decide))).trans hv5))
    have x4821 := HI.eqI hI4069 (p := 231) (b := 14) ((((gI_sI_ne (by decide)).trans (gI_sI_ne (by decide))).trans hv6))
    have x4822 := HI.eqI hI4069 (p := 231) (b := 17) ((((gI_sI_ne (by decide)).trans (gI_sI_ne (by decide))).trans hv7))
    have x4823 := HI.eqI hI4069 (p := 231) (b := 23) (((gI_sI_ne (by decide)).trans (gI_sI_eq hI0.1 kx_231 rfl _)))
    have zv4824 : (0 : Int32).toInt = 0 := rfl
    have x4828 := HI.eqI hI4069 (p := 231) (b := 24) ((gI_sI_eq hI4067.1 kx_231 rfl _))
    refine w_loopI (fun n_ l_ g_ => ∃ x4789 : Int32, ∃ x4790 : Int32, ∃ x4791 : Int32, n_ = 5 * (400 - x4790.toInt) + tw (x4789.toInt) + 10 * bw (x4791.toInt) ∧ HI g_ ∧ Fr F_X11_readExpression_231 A_X11_readExpression_231 g0 g_ ∧ gI g_ 231 9 = x4790 ∧ gI g_ 231 14 = x4791 ∧ en_get 0 l_ = some (.ref 231) ∧ en_get 1 l_ = some (.int a1) ∧ en_get 2 l_ = some (.int x4789) ∧ (0 ≤ x4789.toInt ∧ x4789.toInt ≤ 4) ∧ (0 ≤ x4790.toInt ∧ x4790.toInt ≤ 400) ∧ ((gI g_ 231 9).toInt ≤ (gI g_ 231 10).toInt) ∧ ((gI g_ 231 10).toInt ≤ (gI g_ 231 8).toInt) ∧ (0 ≤ (gI g_ 231 11).toInt) ∧ ((gI g_ 231 11).toInt ≤ 3 * ((gI g_ 231 10).toInt - (gI g_ 231 9).toInt)) ∧ ((gI g_ 231 17).toInt + (gI g_ 231 23).toInt ≤ 400) ∧ ((gI g0 231 9).toInt ≤ (gI g_ 231 9).toInt) ∧ (W26 g_) ∧ (TURN g_ (gI g0 231 17).toInt x4789.toInt (pE g0 238) (pE g0 239)) ∧ (TKM g_) ∧ (MXP g0 g_ a1.toInt x4789.toInt)) ?_ (5 * (400 - v2.toInt) + tw (1) + 10 * bw (v6.toInt)) ⟨1, v2, v6, by first | rfl | omega, hI4069, hF4070, (((gI_sI_ne (by decide)).trans (gI_sI_ne (by decide))).trans hv2), (((gI_sI_ne (by decide)).trans (gI_sI_ne (by decide))).trans hv6), rfl, rfl, rfl, by decide, by omega, by omega, by omega, by omega, by omega, by omega, by omega, (W26.cong hW hI4069 (((gI_sI_ne (by decide)).trans (gI_sI_ne (by decide)))) (((gI_sI_ne (by decide)).trans (gI_sI_ne (by decide)))) (((gI_sI_ne (by decide)).trans (gI_sI_ne (by decide)))) (((gJ_sI_ne (by decide)).trans (gJ_sI_ne (by decide))))), (fun _ => ⟨by omega, PT.start hI4069 (((gA_sI).trans (gA_sI))) (((gA_sI).trans (gA_sI))) (((gI_sI_ne (by decide)).trans (gI_sI_ne (by decide)))) (by show (gI _ 231 23).toInt = 0; omega) (by show 0 ≤ (gI _ 231 17).toInt; omega) (by omega)⟩), (TKM.c hK (((gA_sI).trans (gA_sI))) (((gI_sI_ne (by decide)).trans (gI_sI_ne (by decide)))) (((gI_sI_ne (by decide)).trans (gI_sI_ne (by decide)))) (((gI_sI_ne (by decide)).trans (gI_sI_ne (by decide)))) (((gI_sI_ne (by decide)).trans (gI_sI_ne (by decide)))) (((gJ_sI_ne (by decide)).trans (gJ_sI_ne (by decide))))), (fun c0 b hC h13 h => CSM.start (by unfold HBT at hC; omega) (show (gI _ 231 14).toInt = 0 from by omega) ((pI.c (((gI_sI_ne (by decide)).trans (gI_sI_ne (by decide))))).trans h13) (show (gI _ 231 23).toInt = 0 from by omega) (show (gI _ 231 24).toInt = 0 from by omega) (by rw [pI.c (((gI_sI_ne (by decide)).trans (gI_sI_ne (by decide)))), pI.c (((gI_sI_ne (by decide)).trans (gI_sI_ne (by decide)))), pI.c (((gI_sI_ne (by decide)).trans (gI_sI_ne (by decide))))]; exact h))⟩
    rintro n4796 l4795 g4792 ⟨x4789, x4790, x4791, hm4830, hI4793, hF4794, e4798, e4799, e4800, e4801, e4802, r4803, r4804, q4805, q4806, q4807, q4808, q4809, q4810, q4811, q4812, q4813, q4814⟩ ih4797
    have tv4831 := congrArg Int32.toInt e4798
    have tv4832 := congrArg Int32.toInt e4799
    have x4833 := HI.eqI hI4793 (p := 231) (b := 8) (((hF4794.1 231 8 (by decide)).trans hv1))
    have x4834 := HI.eqI hI4793 (p := 231) (b := 9) (e4798)
    obtain ⟨v4835, hv4835⟩ : ∃ v, gI g4792 231 10 = v := ⟨_, rfl⟩
    have rv4835 := RgF.at hI4793.2.1 (p := 231) (b := 10) rfl
    rw [hv4835] at rv4835
    dsimp only at rv4835
    have tv4835 := congrArg Int32.toInt hv4835
    obtain ⟨v4837, hv4837⟩ : ∃ v, gI g4792 231 11 = v := ⟨_, rfl⟩
    have tv4837 := congrArg Int32.toInt hv4837
    obtain ⟨v4839, hv4839⟩ : ∃ v, gJ g4792 231 12 = v := ⟨_, rfl⟩
    have x4840 := HI.eqJ hI4793 (b := 12) (hv4839)
    have x4841 := HI.eqI hI4793 (p := 231) (b := 14) (e4799)
    obtain ⟨v4842, hv4842⟩ : ∃ v, gI g4792 231 17 = v := ⟨_, rfl⟩
    have rv4842 := RgF.at hI4793.2.1 (p := 231) (b := 17) rfl
    rw [hv4842] at rv4842
    dsimp only at rv4842
    have tv4842 := congrArg Int32.toInt hv4842
    obtain ⟨v4844, hv4844⟩ : ∃ v, gI g4792 231 23 = v := ⟨_, rfl⟩
    have rv4844 := RgF.at hI4793.2.1 (p := 231) (b := 23) rfl
    rw [hv4844] at rv4844
    dsimp only at rv4844
    have tv4844 := congrArg Int32.toInt hv4844
    refine At.enter rfl ?_
    refine r_aload_n e4800 ?_
    refine q_getI (Sh.int hI4793.1 kx_231 rfl) x4791 e4799 ?_
    refine r_ifs 27 rfl (fun c4846 => ?_) (fun c4846 => ?_)
    · have c4846_ : x4791.toInt ≠ 0 := en_k_ne_t c4846
      refine At.enter rfl ?_
      refine r_aload_n e4800 ?_
      refine r_iconst 1 rfl ?_
      refine r_callV 81 rfl [.ref 231, .int 1] [] (Nat.le_of_ble_eq_true rfl) rfl (T_X11_settle_231 _ hI4793 1 (by decide) (by omega)) ?_
      rintro _ _ ⟨g4850, rfl, hI4851, hF4852, rfl, hr4854⟩
      refine At.stn ?_
      have hF4855 := Fr.tr hF4794 hF4852 rfl rfl
      obtain ⟨sp4857, sq4858⟩ := hr4854
      obtain ⟨v4862, hv4862⟩ : ∃ v, gI g4850 231 17 = v := ⟨_, rfl⟩
      have rv4862 := RgF.at hI4851.2.1 (p := 231) (b := 17) rfl
      rw [hv4862] at rv4862
      dsimp only at rv4862
      have tv4862 := congrArg Int32.toInt hv4862
      obtain ⟨v4864, hv4864⟩ : ∃ v, gI g4850 231 23 = v := ⟨_, rfl⟩
      have rv4864 := RgF.at hI4851.2.1 (p := 231) (b := 23) rfl
      rw [hv4864] at rv4864
      dsimp only at rv4864
      have tv4864 := congrArg Int32.toInt hv4864
      have y4866 : (gI _ 231 23).toInt ≤ (gI _ 231 23).toInt := sp4857.1
      have y4867 : (gI _ 231 17).toInt + (gI _ 231 23).toInt ≤ (gI _ 231 17).toInt + (gI _ 231 23).toInt := sp4857.2.1
      refine At.enter rfl ?_
      refine r_vret ?_
      have x4868 := HI.eqI hI4851 (p := 231) (b := 8) ((((hF4852.1 231 8 mf_X11_settle_231_231_8).trans (hF4794.1 231 8 (by decide))).trans hv1))
      have x4869 := HI.eqI hI4851 (p := 231) (b := 9) (((hF4852.1 231 9 mf_X11_settle_231_231_9).trans e4798))
      have x4870 := HI.eqI hI4851 (p := 231) (b := 10) (((hF4852.1 231 10 mf_X11_settle_231_231_10).trans hv4835))
      have x4871 := HI.eqI hI4851 (p := 231) (b := 11) (((hF4852.1 231 11 mf_X11_settle_231_231_11).trans hv4837))
      have x4872 := HI.eqJ hI4851 (b := 12) (((hF4852.2.2 231 12 mf_X11_settle_231_231_12).trans hv4839))
      have x4873 := HI.eqI hI4851 (p := 231) (b := 14) (((hF4852.1 231 14 mf_X11_settle_231_231_14).trans e4799))
      have w264878 := W26.cong q4811 hI4851 ((hF4852.1 231 9 mf_X11_settle_231_231_9)) ((hF4852.1 231 10 mf_X11_settle_231_231_10)) ((hF4852.1 231 11 mf_X11_settle_231_231_11)) ((hF4852.2.2 231 12 mf_X11_settle_231_231_12))
      exact ⟨_, rfl, hI4851, hF4855, rfl, ⟨by omega, by omega, by omega, by omega, w264878, by omega, (fun hbad => False.elim (by omega)), (TKM.c q4813 ((hF4852.2.1 236 ma_X11_settle_231_236)) ((hF4852.1 231 8 mf_X11_settle_231_231_8)) ((hF4852.1 231 9 mf_X11_settle_231_231_9)) ((hF4852.1 231 10 mf_X11_settle_231_231_10)) ((hF4852.1 231 11 mf_X11_settle_231_231_11)) ((hF4852.2.2 231 12 mf_X11_settle_231_231_12))), (fun b hC c0 h13 h => XPM.end_ (q4814 c0 b hC h13 (h (show (gI g0 231 14).toInt = 0 from (by first | exact h2 | omega)))) (fun z => by have z2 : (gI g4792 231 14).toInt = 0 := z; omega) (pI.c ((hF4852.1 231 9 mf_X11_settle_231_231_9))) (pI.c ((hF4852.1 231 13 mf_X11_settle_231_231_13))) (pI.c ((hF4852.1 231 14 mf_X11_settle_231_231_14))) (pI.c ((hF4852.1 231 15 mf_X11_settle_231_231_15))) (pI.c ((hF4852.1 231 20 mf_X11_settle_231_231_20))))⟩⟩
    · have c4846_ : x4791.toInt = 0 := en_k_ne_f c4846
      refine At.enter rfl ?_
      refine r_iload_n e4802 ?_
      refine r_iconst 4 rfl ?_
      refine r_ics 32 rfl (fun c4880 => ?_) (fun c4880 => ?_)
      · have c4880_ : x4789.toInt = 4 := en_i_eq_t c4880
        refine At.enter rfl ?_
        refine r_aload_n e4800 ?_
        refine r_iconst 1 rfl ?_
        refine r_callV 81 rfl [.ref 231, .int 1] [] (Nat.le_of_ble_eq_true rfl) rfl (T_X11_settle_231 _ hI4793 1 (by decide) (by omega)) ?_
        rintro _ _ ⟨g4884, rfl, hI4885, hF4886, rfl, hr4888⟩
        refine At.stn ?_
        have hF4889 := Fr.tr hF4794 hF4886 rfl rfl
        obtain ⟨sp4891, sq4892⟩ := hr4888
        obtain ⟨v4896, hv4896⟩ : ∃ v, gI g4884 231 17 = v := ⟨_, rfl⟩
        have rv4896 := RgF.at hI4885.2.1 (p := 231) (b := 17) rfl
        rw [hv4896] at rv4896
        dsimp only at rv4896
        have tv4896 := congrArg Int32.toInt hv4896
        obtain ⟨v4898, hv4898⟩ : ∃ v, gI g4884 231 23 = v := ⟨_, rfl⟩
        have rv4898 := RgF.at hI4885.2.1 (p := 231) (b := 23) rfl
        rw [hv4898] at rv4898
        dsimp only at rv4898
        have tv4898 := congrArg Int32.toInt hv4898
        have y4900 : (gI _ 231 23).toInt ≤ (gI _ 231 23).toInt := sp4891.1
        have y4901 : (gI _ 231 17).toInt + (gI _ 231 23).toInt ≤ (gI _ 231 17).toInt + (gI _ 231 23).toInt := sp4891.2.1
        refine At.enter rfl ?_
        refine r_vret ?_
        have x4902 := HI.eqI hI4885 (p := 231) (b := 8) ((((hF4886.1 231 8 mf_X11_settle_231_231_8).trans (hF4794.1 231 8 (by decide))).trans hv1))
        have x4903 := HI.eqI hI4885 (p := 231) (b := 9) (((hF4886.1 231 9 mf_X11_settle_231_231_9).trans e4798))
        have x4904 := HI.eqI hI4885 (p := 231) (b := 10) (((hF4886.1 231 10 mf_X11_settle_231_231_10).trans hv4835))
        have x4905 := HI.eqI hI4885 (p := 231) (b := 11) (((hF4886.1 231 11 mf_X11_settle_231_231_11).trans hv4837))
        have x4906 := HI.eqJ hI4885 (b := 12) (((hF4886.2.2 231 12 mf_X11_settle_231_231_12).trans hv4839))
        have x4907 := HI.eqI hI4885 (p := 231) (b := 14) (((hF4886.1 231 14 mf_X11_settle_231_231_14).trans e4799))
        have w264912 := W26.cong q4811 hI4885 ((hF4886.1 231 9 mf_X11_settle_231_231_9)) ((hF4886.1 231 10 mf_X11_settle_231_231_10)) ((hF4886.1 231 11 mf_X11_settle_231_231_11)) ((hF4886.2.2 231 12 mf_X11_settle_231_231_12))
        exact ⟨_, rfl, hI4885, hF4889, rfl, ⟨by omega, by omega, by omega, by omega, w264912, by omega, (fun hbad => ⟨by have y := (q4812 (by omega)).1; omega, (EXPR.of ((q4812 (by omega)).2.2.1 (by omega)) ((q4812 (by omega)).2.2.2.2 (by omega)) sp4891 (by omega) (by show 0 ≤ (gI _ 231 23).toInt; omega) (by show (gI _ 231 17).toInt ≤ 400; omega) rfl rfl rfl).2⟩), (TKM.c q4813 ((hF4886.2.1 236 ma_X11_settle_231_236)) ((hF4886.1 231 8 mf_X11_settle_231_231_8)) ((hF4886.1 231 9 mf_X11_settle_231_231_9)) ((hF4886.1 231 10 mf_X11_settle_231_231_10)) ((hF4886.1 231 11 mf_X11_settle_231_231_11)) ((hF4886.2.2 231 12 mf_X11_settle_231_231_12))), (fun b hC c0 h13 h => XPM.end_ (q4814 c0 b hC h13 (h (show (gI g0 231 14).toInt = 0 from (by first | exact h2 | omega)))) (fun z => by have z2 : (gI g4792 231 14).toInt = 0 := z; omega) (pI.c ((hF4886.1 231 9 mf_X11_settle_231_231_9))) (pI.c ((hF4886.1 231 13 mf_X11_settle_231_231_13))) (pI.c ((hF4886.1 231 14 mf_X11_settle_231_231_14))) (pI.c ((hF4886.1 231 15 mf_X11_settle_231_231_15))) (pI.c ((hF4886.1 231 20 mf_X11_settle_231_231_20))))⟩⟩
      · have c4880_ : x4789.toInt ≠ 4 := en_i_eq_f c4880
        refine At.enter rfl ?_
        refine r_iload_n e4802 ?_
        refine r_ifs 36 rfl (fun c4914 => ?_) (fun c4914 => ?_)
        · have c4914_ : x4789.toInt ≠ 0 := en_k_ne_t c4914
          refine At.enter rfl ?_
          refine r_iload_n e4802 ?_
          refine r_iconst 1 rfl ?_
          refine r_ics 48 rfl (fun c4915 => ?_) (fun c4915 => ?_)
          · have c4915_ : x4789.toInt ≠ 1 := en_i_ne_t c4915
            refine At.enter rfl ?_
            refine r_iload_n e4802 ?_
            refine r_iconst 3 rfl ?_
            refine r_ics 60 rfl (fun c4916 => ?_) (fun c4916 => ?_)
            · have c4916_ : x4789.toInt ≠ 3 := en_i_ne_t c4916
              refine At.enter rfl ?_
              refine r_aload_n e4800 ?_
              have y4925 := (q4812 (by omega)).1
              refine r_callV 72 rfl [.ref 231] [] (Nat.le_of_ble_eq_true rfl) rfl (T_X11_behindTest_231 _ hI4793 (gI g0 231 17).toInt (pE g0 238) (pE g0 239) (by refine ⟨?_, ?_, ?_, ?_⟩ <;> omega) (by omega) (by omega) q4811 (PT.eq (q4812 (by omega)).2 (by omega)) q4813) ?_
              rintro _ _ ⟨g4926, rfl, hI4927, hF4928, v4929, rfl, hr4930⟩
              refine At.sti ?_
              have hF4931 := Fr.tr hF4794 hF4928 rfl rfl
              have x4933 := HI.eqI hI4927 (p := 231) (b := 8) ((((hF4928.1 231 8 mf_X11_behindTest_231_231_8).trans (hF4794.1 231 8 (by decide))).trans hv1))
              obtain ⟨v4934, hv4934⟩ : ∃ v, gI g4926 231 9 = v := ⟨_, rfl⟩
              have rv4934 := RgF.at hI4927.2.1 (p := 231) (b := 9) rfl
              rw [hv4934] at rv4934
              dsimp only at rv4934
              have tv4934 := congrArg Int32.toInt hv4934
              obtain ⟨v4936, hv4936⟩ : ∃ v, gI g4926 231 10 = v := ⟨_, rfl⟩
              have rv4936 := RgF.at hI4927.2.1 (p := 231) (b := 10) rfl
              rw [hv4936] at rv4936
              dsimp only at rv4936
              have tv4936 := congrArg Int32.toInt hv4936
              obtain ⟨v4938, hv4938⟩ : ∃ v, gI g4926 231 11 = v := ⟨_, rfl⟩
              have tv4938 := congrArg Int32.toInt hv4938
              obtain ⟨v4940, hv4940⟩ : ∃ v, gJ g4926 231 12 = v := ⟨_, rfl⟩
              have x4941 := HI.eqJ hI4927 (b := 12) (hv4940)
              obtain ⟨v4942, hv4942⟩ : ∃ v, gI g4926 231 14 = v := ⟨_, rfl⟩
              have tv4942 := congrArg Int32.toInt hv4942
              obtain ⟨v4944, hv4944⟩ : ∃ v, gI g4926 231 17 = v := ⟨_, rfl⟩
              have rv4944 := RgF.at hI4927.2.1 (p := 231) (b := 17) rfl
              rw [hv4944] at rv4944
              dsimp only at rv4944
              have tv4944 := congrArg Int32.toInt hv4944
              obtain ⟨v4946, hv4946⟩ : ∃ v, gI g4926 231 23 = v := ⟨_, rfl⟩
              have rv4946 := RgF.at hI4927.2.1 (p := 231) (b := 23) rfl
              rw [hv4946] at rv4946
              dsimp only at rv4946
              have tv4946 := congrArg Int32.toInt hv4946
              obtain ⟨c4948, c4949, c4950, c4951, c4952, c4953, c4954, c4955, c4956, c4957⟩ := hr4930.2
              refine At.enter rfl ?_
              refine r_istore_n _ rfl ?_
              refine r_goto ?_
              have w4959 := tw_s x4789.toInt
              have w4960 := bw_s x4791.toInt
              have w4961 := tw_s v4929.toInt
              have w4962 := bw_s v4942.toInt
              have y4971 := c4956
              unfold PRG at y4971
              have bv4972 := q_bnd v4942
              exact ih4797 (5 * (400 - v4934.toInt) + tw (v4929.toInt) + 10 * bw (v4942.toInt)) _ _ ⟨v4929, v4934, v4942, by first | rfl | omega, hI4927, hF4931, hv4934, hv4942, (w_p1 (by decide) (Or.inr rfl) e4800), (w_p1 (by decide) (Or.inr rfl) e4801), (w_e1 _ _ _), by omega, by omega, by omega, by omega, by omega, by omega, by omega, by omega, c4952, c4955, c4957.1, (fun c0 b hC h13 h => MTP.base c4957.2 ((hF4794.2.1 236 (by decide))) ((hF4794.1 231 8 (by decide))) c0 b trivial ((q4814 c0 b hC h13 h).tt (by omega)))⟩ ⟨by omega, by omega⟩
            · have c4916_ : x4789.toInt = 3 := en_i_ne_f c4916
              refine At.enter rfl ?_
              refine r_aload_n e4800 ?_
              refine r_iload_n e4801 ?_
              have y4981 := (q4812 (by omega)).1
              refine r_callV 65 rfl [.ref 231, .int a1] [] (Nat.le_of_ble_eq_true rfl) rfl (T_X11_behindSum_231 _ hI4793 a1 (by omega) (gI g0 231 17).toInt (pE g0 238) (pE g0 239) (by refine ⟨?_, ?_, ?_, ?_⟩ <;> omega) (by omega) (by omega) q4811 (PT.eq (q4812 (by omega)).2 (by omega)) q4813) ?_
              rintro _ _ ⟨g4982, rfl, hI4983, hF4984, v4985, rfl, hr4986⟩
              refine At.sti ?_
              have hF4987 := Fr.tr hF4794 hF4984 rfl rfl
              have x4989 := HI.eqI hI4983 (p := 231) (b := 8) ((((hF4984.1 231 8 mf_X11_behindSum_231_231_8).trans (hF4794.1 231 8 (by decide))).trans hv1))
              obtain ⟨v4990, hv4990⟩ : ∃ v, gI g4982 231 9 = v := ⟨_, rfl⟩
              have rv4990 := RgF.at hI4983.2.1 (p := 231) (b := 9) rfl
              rw [hv4990] at rv4990
              dsimp only at rv4990
              have tv4990 := congrArg Int32.toInt hv4990
              obtain ⟨v4992, hv4992⟩ : ∃ v, gI g4982 231 10 = v := ⟨_, rfl⟩
              have rv4992 := RgF.at hI4983.2.1 (p := 231) (b := 10) rfl
              rw [hv4992] at rv4992
              dsimp only at rv4992
              have tv4992 := congrArg Int32.toInt hv4992
              obtain ⟨v4994, hv4994⟩ : ∃ v, gI g4982 231 11 = v := ⟨_, rfl⟩
              have tv4994 := congrArg Int32.toInt hv4994
              obtain ⟨v4996, hv4996⟩ : ∃ v, gJ g4982 231 12 = v := ⟨_, rfl⟩
              have x4997 := HI.eqJ hI4983 (b := 12) (hv4996)
              obtain ⟨v4998, hv4998⟩ : ∃ v, gI g4982 231 14 = v := ⟨_, rfl⟩
              have tv4998 := congrArg Int32.toInt hv4998
              obtain ⟨v5000, hv5000⟩ : ∃ v, gI g4982 231 17 = v := ⟨_, rfl⟩
              have rv5000 := RgF.at hI4983.2.1 (p := 231) (b := 17) rfl
              rw [hv5000] at rv5000
              dsimp only at rv5000
              have tv5000 := congrArg Int32.toInt hv5000
              obtain ⟨v5002, hv5002⟩ : ∃ v, gI g4982 231 23 = v := ⟨_, rfl⟩
              have rv5002 := RgF.at hI4983.2.1 (p := 231) (b := 23) rfl
              rw [hv5002] at rv5002
              dsimp only at rv5002
              have tv5002 := congrArg Int32.toInt hv5002
              obtain ⟨c5004, c5005, c5006, c5007, c5008, c5009, c5010, c5011, c5012, c5013⟩ := hr4986.2
              refine At.enter rfl ?_
              refine r_goto ?_
              refine At.enter rfl ?_
              refine r_istore_n _ rfl ?_
              refine r_goto ?_
              have w5015 := tw_s x4789.toInt
              have w5016 := bw_s x4791.toInt
              have w5017 := tw_s v4985.toInt
              have w5018 := bw_s v4998.toInt
              have y5027 := c5012
              unfold PRG at y5027
              have bv5028 := q_bnd v4998
              exact ih4797 (5 * (400 - v4990.toInt) + tw (v4985.toInt) + 10 * bw (v4998.toInt)) _ _ ⟨v4985, v4990, v4998, by first | rfl | omega, hI4983, hF4987, hv4990, hv4998, (w_p1 (by decide) (Or.inr rfl) e4800), (w_p1 (by decide) (Or.inr rfl) e4801), (w_e1 _ _ _), by omega, by omega, by omega, by omega, by omega, by omega, by omega, by omega, c5008, c5011, c5013.1, (fun c0 b hC h13 h => MTP.base c5013.2 ((hF4794.2.1 236 (by decide))) ((hF4794.1 231 8 (by decide))) c0 b hC ((q4814 c0 b hC h13 h).tt (by omega)))⟩ ⟨by omega, by omega⟩
          · have c4915_ : x4789.toInt = 1 := en_i_ne_f c4915
            refine At.enter rfl ?_
            refine r_aload_n e4800 ?_
            have y5037 := (q4812 (by omega)).1
            refine r_callV 52 rfl [.ref 231] [] (Nat.le_of_ble_eq_true rfl) rfl (T_X11_readPart_231 _ hI4793 (gI g0 231 17).toInt (pE g0 238) (pE g0 239) (by refine ⟨?_, ?_, ?_, ?_⟩ <;> omega) (by omega) (by omega) q4811 (PT.eq (q4812 (by omega)).2 (by omega)) q4813) ?_
            rintro _ _ ⟨g5038, rfl, hI5039, hF5040, v5041, rfl, hr5042⟩
            refine At.sti ?_
            have hF5043 := Fr.tr hF4794 hF5040 rfl rfl
            have x5045 := HI.eqI hI5039 (p := 231) (b := 8) ((((hF5040.1 231 8 mf_X11_readPart_231_231_8).trans (hF4794.1 231 8 (by decide))).trans hv1))
            obtain ⟨v5046, hv5046⟩ : ∃ v, gI g5038 231 9 = v := ⟨_, rfl⟩
            have rv5046 := RgF.at hI5039.2.1 (p := 231) (b := 9) rfl
            rw [hv5046] at rv5046
            dsimp only at rv5046
            have tv5046 := congrArg Int32.toInt hv5046
            obtain ⟨v5048, hv5048⟩ : ∃ v, gI g5038 231 10 = v := ⟨_, rfl⟩
            have rv5048 := RgF.at hI5039.2.1 (p := 231) (b := 10) rfl
            rw [hv5048] at rv5048
            dsimp only at rv5048
            have tv5048 := congrArg Int32.toInt hv5048
            obtain ⟨v5050, hv5050⟩ : ∃ v, gI g5038 231 11 = v := ⟨_, rfl⟩
            have tv5050 := congrArg Int32.toInt hv5050
            obtain ⟨v5052, hv5052⟩ : ∃ v, gJ g5038 231 12 = v := ⟨_, rfl⟩
            have x5053 := HI.eqJ hI5039 (b := 12) (hv5052)
            obtain ⟨v5054, hv5054⟩ : ∃ v, gI g5038 231 14 = v := ⟨_, rfl⟩
            have tv5054 := congrArg Int32.toInt hv5054
            obtain ⟨v5056, hv5056⟩ : ∃ v, gI g5038 231 17 = v := ⟨_, rfl⟩
            have rv5056 := RgF.at hI5039.2.1 (p := 231) (b := 17) rfl
            rw [hv5056] at rv5056
            dsimp only at rv5056
            have tv5056 := congrArg Int32.toInt hv5056
            obtain ⟨v5058, hv5058⟩ : ∃ v, gI g5038 231 23 = v := ⟨_, rfl⟩
            have rv5058 := RgF.at hI5039.2.1 (p := 231) (b := 23) rfl
            rw [hv5058] at rv5058
            dsimp only at rv5058
            have tv5058 := congrArg Int32.toInt hv5058
            obtain ⟨c5060, c5061, c5062, c5063, c5064, c5065, c5066, c5067, c5068, c5069⟩ := hr5042.2
            refine At.enter rfl ?_
            refine r_goto ?_
            refine At.enter rfl ?_
            refine r_istore_n _ rfl ?_
            refine r_goto ?_
            have w5071 := tw_s x4789.toInt
            have w5072 := bw_s x4791.toInt
            have w5073 := tw_s v5041.toInt
            have w5074 := bw_s v5054.toInt
            have y5083 := c5068
            unfold PRG at y5083
            have bv5084 := q_bnd v5054
            exact ih4797 (5 * (400 - v5046.toInt) + tw (v5041.toInt) + 10 * bw (v5054.toInt)) _ _ ⟨v5041, v5046, v5054, by first | rfl | omega, hI5039, hF5043, hv5046, hv5054, (w_p1 (by decide) (Or.inr rfl) e4800), (w_p1 (by decide) (Or.inr rfl) e4801), (w_e1 _ _ _), by omega, by omega, by omega, by omega, by omega, by omega, by omega, by omega, c5064, c5067, c5069.1, (fun c0 b hC h13 h => MTP.base c5069.2 ((hF4794.2.1 236 (by decide))) ((hF4794.1 231 8 (by decide))) c0 b trivial ((q4814 c0 b hC h13 h).tt (by omega)))⟩ ⟨by omega, by omega⟩
        · have c4914_ : x4789.toInt = 0 := en_k_ne_f c4914
          refine At.enter rfl ?_
          refine r_aload_n e4800 ?_
          have y5093 := (q4812 (by omega)).1
          refine r_callV 40 rfl [.ref 231] [] (Nat.le_of_ble_eq_true rfl) rfl (T_X11_readPlain_231 _ hI4793 (gI g0 231 17).toInt (pE g0 238) (pE g0 239) (by refine ⟨?_, ?_, ?_, ?_⟩ <;> omega) (by omega) (by omega) q4811 (PT.eq (q4812 (by omega)).2 (by omega)) q4813) ?_
          rintro _ _ ⟨g5094, rfl, hI5095, hF5096, v5097, rfl, hr5098⟩
          refine At.sti ?_
          have hF5099 := Fr.tr hF4794 hF5096 rfl rfl
          have x5101 := HI.eqI hI5095 (p := 231) (b := 8) ((((hF5096.1 231 8 mf_X11_readPlain_231_231_8).trans (hF4794.1 231 8 (by decide))).trans hv1))
          obtain ⟨v5102, hv5102⟩ : ∃ v, gI g5094 231 9 = v := ⟨_, rfl⟩
          have rv5102 := RgF.at hI5095.2.1 (p := 231) (b := 9) rfl
          rw [hv5102] at rv5102
          dsimp only at rv5102
          have tv5102 := congrArg Int32.toInt hv5102
          obtain ⟨v5104, hv5104⟩ : ∃ v, gI g5094 231 10 = v := ⟨_, rfl⟩
          have rv5104 := RgF.at hI5095.2.1 (p := 231) (b := 10) rfl
          rw [hv5104] at rv5104
          dsimp only at rv5104
          have tv5104 := congrArg Int32.toInt hv5104
          obtain ⟨v5106, hv5106⟩ : ∃ v, gI g5094 231 11 = v := ⟨_, rfl⟩
          have tv5106 := congrArg Int32.toInt hv5106
          obtain ⟨v5108, hv5108⟩ : ∃ v, gJ g5094 231 12 = v := ⟨_, rfl⟩
          have x5109 := HI.eqJ hI5095 (b := 12) (hv5108)
          obtain ⟨v5110, hv5110⟩ : ∃ v, gI g5094 231 14 = v := ⟨_, rfl⟩
          have tv5110 := congrArg Int32.toInt hv5110
          obtain ⟨v5112, hv5112⟩ : ∃ v, gI g5094 231 17 = v := ⟨_, rfl⟩
          have rv5112 := RgF.at hI5095.2.1 (p := 231) (b := 17) rfl
          rw [hv5112] at rv5112
          dsimp only at rv5112
          have tv5112 := congrArg Int32.toInt hv5112
          obtain ⟨v5114, hv5114⟩ : ∃ v, gI g5094 231 23 = v := ⟨_, rfl⟩
          have rv5114 := RgF.at hI5095.2.1 (p := 231) (b := 23) rfl
          rw [hv5114] at rv5114
          dsimp only at rv5114
          have tv5114 := congrArg Int32.toInt hv5114
          obtain ⟨c5116, c5117, c5118, c5119, c5120, c5121, c5122, c5123, c5124, c5125⟩ := hr5098.2
          refine At.enter rfl ?_
          refine r_goto ?_
          refine At.enter rfl ?_
          refine r_istore_n _ rfl ?_
          refine r_goto ?_
          have w5127 := tw_s x4789.toInt
          have w5128 := bw_s x4791.toInt
          have w5129 := tw_s v5097.toInt
          have w5130 := bw_s v5110.toInt
          have y5139 := c5124
          unfold PRG at y5139
          have bv5140 := q_bnd v5110
          exact ih4797 (5 * (400 - v5102.toInt) + tw (v5097.toInt) + 10 * bw (v5110.toInt)) _ _ ⟨v5097, v5102, v5110, by first | rfl | omega, hI5095, hF5099, hv5102, hv5110, (w_p1 (by decide) (Or.inr rfl) e4800), (w_p1 (by decide) (Or.inr rfl) e4801), (w_e1 _ _ _), by omega, by omega, by omega, by omega, by omega, by omega, by omega, by omega, c5120, c5123, c5125.1, (fun c0 b hC h13 h => MTP.base c5125.2 ((hF4794.2.1 236 (by decide))) ((hF4794.1 231 8 (by decide))) c0 b trivial ((q4814 c0 b hC h13 h).tt (by omega)))⟩ ⟨by omega, by omega⟩
  · have c4071_ : a1.toInt ≠ 0 := en_k_eq_f c4071
    refine At.enter rfl ?_
    refine r_iconst 0 rfl ?_
    refine r_goto ?_
    refine At.enter rfl ?_
    refine r_istore_n ([(2, .int 0), (0, .ref 231), (1, .int a1)]) rfl ?_
    refine Ar.fall 20 rfl ?_
    have z_5925 : (0 : Int32).toInt = 0 := rfl
    have x5926 := HI.eqI hI4069 (p := 231) (b := 8) ((((gI_sI_ne (by decide)).trans (gI_sI_ne (by decide))).trans hv1))
    have x5927 := HI.eqI hI4069 (p := 231) (b := 9) ((((gI_sI_ne (by decide)).trans (gI_sI_ne (by decide))).trans hv2))
    have x5928 := HI.eqI hI4069 (p := 231) (b := 10) ((((gI_sI_ne (by decide)).trans (gI_sI_ne (by decide))).trans hv3))
    have x5929 := HI.eqI hI4069 (p := 231) (b := 11) ((((gI_sI_ne (by decide)).trans (gI_sI_ne (by decide))).trans hv4))
    have x5930 := HI.eqJ hI4069 (b := 12) ((((gJ_sI_ne (by decide)).trans (gJ_sI_ne (by decide))).trans hv5))
    have x5931 := HI.eqI hI4069 (p := 231) (b := 14) ((((gI_sI_ne (by decide)).trans (gI_sI_ne (by decide))).trans hv6))
    have x5932 := HI.eqI hI4069 (p := 231) (b := 17) ((((gI_sI_ne (by decide)).trans (gI_sI_ne (by decide))).trans hv7))
    have x5933 := HI.eqI hI4069 (p := 231) (b := 23) (((gI_sI_ne (by decide)).trans (gI_sI_eq hI0.1 kx_231 rfl _)))
    have x5938 := HI.eqI hI4069 (p := 231) (b := 24) ((gI_sI_eq hI4067.1 kx_231 rfl _))
    refine w_loopI (fun n_ l_ g_ => ∃ x5899 : Int32, ∃ x5900 : Int32, ∃ x5901 : Int32, n_ = 5 * (400 - x5900.toInt) + tw (x5899.toInt) + 10 * bw (x5901.toInt) ∧ HI g_ ∧ Fr F_X11_readExpression_231 A_X11_readExpression_231 g0 g_ ∧ gI g_ 231 9 = x5900 ∧ gI g_ 231 14 = x5901 ∧ en_get 0 l_ = some (.ref 231) ∧ en_get 1 l_ = some (.int a1) ∧ en_get 2 l_ = some (.int x5899) ∧ (0 ≤ x5899.toInt ∧ x5899.toInt ≤ 4) ∧ (0 ≤ x5900.toInt ∧ x5900.toInt ≤ 400) ∧ ((gI g_ 231 9).toInt ≤ (gI g_ 231 10).toInt) ∧ ((gI g_ 231 10).toInt ≤ (gI g_ 231 8).toInt) ∧ (0 ≤ (gI g_ 231 11).toInt) ∧ ((gI g_ 231 11).toInt ≤ 3 * ((gI g_ 231 10).toInt - (gI g_ 231 9).toInt)) ∧ ((gI g_ 231 17).toInt + (gI g_ 231 23).toInt ≤ 400) ∧ ((gI g0 231 9).toInt ≤ (gI g_ 231 9).toInt) ∧ (W26 g_) ∧ (TURN g_ (gI g0 231 17).toInt x5899.toInt (pE g0 238) (pE g0 239)) ∧ (TKM g_) ∧ (MXP g0 g_ a1.toInt x5899.toInt)) ?_ (5 * (400 - v2.toInt) + tw (0) + 10 * bw (v6.toInt)) ⟨0, v2, v6, by first | rfl | omega, hI4069, hF4070, (((gI_sI_ne (by decide)).trans (gI_sI_ne (by decide))).trans hv2), (((gI_sI_ne (by decide)).trans (gI_sI_ne (by decide))).trans hv6), rfl, rfl, rfl, by decide, by omega, by omega, by omega, by omega, by omega, by omega, by omega, (W26.cong hW hI4069 (((gI_sI_ne (by decide)).trans (gI_sI_ne (by decide)))) (((gI_sI_ne (by decide)).trans (gI_sI_ne (by decide)))) (((gI_sI_ne (by decide)).trans (gI_sI_ne (by decide)))) (((gJ_sI_ne (by decide)).trans (gJ_sI_ne (by decide))))), (fun _ => ⟨by omega, PT.start hI4069 (((gA_sI).trans (gA_sI))) (((gA_sI).trans (gA_sI))) (((gI_sI_ne (by decide)).trans (gI_sI_ne (by decide)))) (by show (gI _ 231 23).toInt = 0; omega) (by show 0 ≤ (gI _ 231 17).toInt; omega) (by omega)⟩), (TKM.c hK (((gA_sI).trans (gA_sI))) (((gI_sI_ne (by decide)).trans (gI_sI_ne (by decide)))) (((gI_sI_ne (by decide)).trans (gI_sI_ne (by decide)))) (((gI_sI_ne (by decide)).trans (gI_sI_ne (by decide)))) (((gI_sI_ne (by decide)).trans (gI_sI_ne (by decide)))) (((gJ_sI_ne (by decide)).trans (gJ_sI_ne (by decide))))), (fun c0 b hC h13 h => CSM.start (by unfold HBT at hC; omega) (show (gI _ 231 14).toInt = 0 from by omega) ((pI.c (((gI_sI_ne (by decide)).trans (gI_sI_ne (by decide))))).trans h13) (show (gI _ 231 23).toInt = 0 from by omega) (show (gI _ 231 24).toInt = 0 from by omega) (by rw [pI.c (((gI_sI_ne (by decide)).trans (gI_sI_ne (by decide)))), pI.c (((gI_sI_ne (by decide)).trans (gI_sI_ne (by decide)))), pI.c (((gI_sI_ne (by decide)).trans (gI_sI_ne (by decide))))]; exact h))⟩
    rintro n5906 l5905 g5902 ⟨x5899, x5900, x5901, hm5940, hI5903, hF5904, e5908, e5909, e5910, e5911, e5912, r5913, r5914, q5915, q5916, q5917, q5918, q5919, q5920, q5921, q5922, q5923, q5924⟩ ih5907
    have tv5941 := congrArg Int32.toInt e5908
    have tv5942 := congrArg Int32.toInt e5909
    have x5943 := HI.eqI hI5903 (p := 231) (b := 8) (((hF5904.1 231 8 (by decide)).trans hv1))
    have x5944 := HI.eqI hI5903 (p := 231) (b := 9) (e5908)
    obtain ⟨v5945, hv5945⟩ : ∃ v, gI g5902 231 10 = v := ⟨_, rfl⟩
    have rv5945 := RgF.at hI5903.2.1 (p := 231) (b := 10) rfl
    rw [hv5945] at rv5945
    dsimp only at rv5945
    have tv5945 := congrArg Int32.toInt hv5945
    obtain ⟨v5947, hv5947⟩ : ∃ v, gI g5902 231 11 = v := ⟨_, rfl⟩
    have tv5947 := congrArg Int32.toInt hv5947
    obtain ⟨v5949, hv5949⟩ : ∃ v, gJ g5902 231 12 = v := ⟨_, rfl⟩
    have x5950 := HI.eqJ hI5903 (b := 12) (hv5949)
    have x5951 := HI.eqI hI5903 (p := 231) (b := 14) (e5909)
    obtain ⟨v5952, hv5952⟩ : ∃ v, gI g5902 231 17 = v := ⟨_, rfl⟩
    have rv5952 := RgF.at hI5903.2.1 (p := 231) (b := 17) rfl
    rw [hv5952] at rv5952
    dsimp only at rv5952
    have tv5952 := congrArg Int32.toInt hv5952
    obtain ⟨v5954, hv5954⟩ : ∃ v, gI g5902 231 23 = v := ⟨_, rfl⟩
    have rv5954 := RgF.at hI5903.2.1 (p := 231) (b := 23) rfl
    rw [hv5954] at rv5954
    dsimp only at rv5954
    have tv5954 := congrArg Int32.toInt hv5954
    refine At.enter rfl ?_
    refine r_aload_n e5910 ?_
    refine q_getI (Sh.int hI5903.1 kx_231 rfl) x5901 e5909 ?_
    refine r_ifs 27 rfl (fun c5956 => ?_) (fun c5956 => ?_)
    · have c5956_ : x5901.toInt ≠ 0 := en_k_ne_t c5956
      refine At.enter rfl ?_
      refine r_aload_n e5910 ?_
      refine r_iconst 1 rfl ?_
      have zv5959 : (1 : Int32).toInt = 1 := rfl
      refine r_callV 81 rfl [.ref 231, .int 1] [] (Nat.le_of_ble_eq_true rfl) rfl (T_X11_settle_231 _ hI5903 1 (by decide) (by omega)) ?_
      rintro _ _ ⟨g5960, rfl, hI5961, hF5962, rfl, hr5964⟩
      refine At.stn ?_
      have hF5965 := Fr.tr hF5904 hF5962 rfl rfl
      obtain ⟨sp5967, sq5968⟩ := hr5964
      obtain ⟨v5972, hv5972⟩ : ∃ v, gI g5960 231 17 = v := ⟨_, rfl⟩
      have rv5972 := RgF.at hI5961.2.1 (p := 231) (b := 17) rfl
      rw [hv5972] at rv5972
      dsimp only at rv5972
      have tv5972 := congrArg Int32.toInt hv5972
      obtain ⟨v5974, hv5974⟩ : ∃ v, gI g5960 231 23 = v := ⟨_, rfl⟩
      have rv5974 := RgF.at hI5961.2.1 (p := 231) (b := 23) rfl
      rw [hv5974] at rv5974
      dsimp only at rv5974
      have tv5974 := congrArg Int32.toInt hv5974
      have y5976 : (gI _ 231 23).toInt ≤ (gI _ 231 23).toInt := sp5967.1
      have y5977 : (gI _ 231 17).toInt + (gI _ 231 23).toInt ≤ (gI _ 231 17).toInt + (gI _ 231 23).toInt := sp5967.2.1
      refine At.enter rfl ?_
      refine r_vret ?_
      have x5978 := HI.eqI hI5961 (p := 231) (b := 8) ((((hF5962.1 231 8 mf_X11_settle_231_231_8).trans (hF5904.1 231 8 (by decide))).trans hv1))
      have x5979 := HI.eqI hI5961 (p := 231) (b := 9) (((hF5962.1 231 9 mf_X11_settle_231_231_9).trans e5908))
      have x5980 := HI.eqI hI5961 (p := 231) (b := 10) (((hF5962.1 231 10 mf_X11_settle_231_231_10).trans hv5945))
      have x5981 := HI.eqI hI5961 (p := 231) (b := 11) (((hF5962.1 231 11 mf_X11_settle_231_231_11).trans hv5947))
      have x5982 := HI.eqJ hI5961 (b := 12) (((hF5962.2.2 231 12 mf_X11_settle_231_231_12).trans hv5949))
      have x5983 := HI.eqI hI5961 (p := 231) (b := 14) (((hF5962.1 231 14 mf_X11_settle_231_231_14).trans e5909))
      have w265988 := W26.cong q5921 hI5961 ((hF5962.1 231 9 mf_X11_settle_231_231_9)) ((hF5962.1 231 10 mf_X11_settle_231_231_10)) ((hF5962.1 231 11 mf_X11_settle_231_231_11)) ((hF5962.2.2 231 12 mf_X11_settle_231_231_12))
      exact ⟨_, rfl, hI5961, hF5965, rfl, ⟨by omega, by omega, by omega, by omega, w265988, by omega, (fun hbad => False.elim (by omega)), (TKM.c q5923 ((hF5962.2.1 236 ma_X11_settle_231_236)) ((hF5962.1 231 8 mf_X11_settle_231_231_8)) ((hF5962.1 231 9 mf_X11_settle_231_231_9)) ((hF5962.1 231 10 mf_X11_settle_231_231_10)) ((hF5962.1 231 11 mf_X11_settle_231_231_11)) ((hF5962.2.2 231 12 mf_X11_settle_231_231_12))), (fun b hC c0 h13 h => XPM.end_ (q5924 c0 b hC h13 (h (show (gI g0 231 14).toInt = 0 from (by first | exact h2 | omega)))) (fun z => by have z2 : (gI g5902 231 14).toInt = 0 := z; omega) (pI.c ((hF5962.1 231 9 mf_X11_settle_231_231_9))) (pI.c ((hF5962.1 231 13 mf_X11_settle_231_231_13))) (pI.c ((hF5962.1 231 14 mf_X11_settle_231_231_14))) (pI.c ((hF5962.1 231 15 mf_X11_settle_231_231_15))) (pI.c ((hF5962.1 231 20 mf_X11_settle_231_231_20))))⟩⟩
    · have c5956_ : x5901.toInt = 0 := en_k_ne_f c5956
      refine At.enter rfl ?_
      refine r_iload_n e5912 ?_
      refine r_iconst 4 rfl ?_
      refine r_ics 32 rfl (fun c5990 => ?_) (fun c5990 => ?_)
      · have c5990_ : x5899.toInt = 4 := en_i_eq_t c5990
        refine At.enter rfl ?_
        refine r_aload_n e5910 ?_
        refine r_iconst 1 rfl ?_
        have zv5993 : (1 : Int32).toInt = 1 := rfl
        refine r_callV 81 rfl [.ref 231, .int 1] [] (Nat.le_of_ble_eq_true rfl) rfl (T_X11_settle_231 _ hI5903 1 (by decide) (by omega)) ?_
        rintro _ _ ⟨g5994, rfl, hI5995, hF5996, rfl, hr5998⟩
        refine At.stn ?_
        have hF5999 := Fr.tr hF5904 hF5996 rfl rfl
        obtain ⟨sp6001, sq6002⟩ := hr5998
        obtain ⟨v6006, hv6006⟩ : ∃ v, gI g5994 231 17 = v := ⟨_, rfl⟩
        have rv6006 := RgF.at hI5995.2.1 (p := 231) (b := 17) rfl
        rw [hv6006] at rv6006
        dsimp only at rv6006
        have tv6006 := congrArg Int32.toInt hv6006
        obtain ⟨v6008, hv6008⟩ : ∃ v, gI g5994 231 23 = v := ⟨_, rfl⟩
        have rv6008 := RgF.at hI5995.2.1 (p := 231) (b := 23) rfl
        rw [hv6008] at rv6008
        dsimp only at rv6008
        have tv6008 := congrArg Int32.toInt hv6008
        have y6010 : (gI _ 231 23).toInt ≤ (gI _ 231 23).toInt := sp6001.1
        have y6011 : (gI _ 231 17).toInt + (gI _ 231 23).toInt ≤ (gI _ 231 17).toInt + (gI _ 231 23).toInt := sp6001.2.1
        refine At.enter rfl ?_
        refine r_vret ?_
        have x6012 := HI.eqI hI5995 (p := 231) (b := 8) ((((hF5996.1 231 8 mf_X11_settle_231_231_8).trans (hF5904.1 231 8 (by decide))).trans hv1))
        have x6013 := HI.eqI hI5995 (p := 231) (b := 9) (((hF5996.1 231 9 mf_X11_settle_231_231_9).trans e5908))
        have x6014 := HI.eqI hI5995 (p := 231) (b := 10) (((hF5996.1 231 10 mf_X11_settle_231_231_10).trans hv5945))
        have x6015 := HI.eqI hI5995 (p := 231) (b := 11) (((hF5996.1 231 11 mf_X11_settle_231_231_11).trans hv5947))
        have x6016 := HI.eqJ hI5995 (b := 12) (((hF5996.2.2 231 12 mf_X11_settle_231_231_12).trans hv5949))
        have x6017 := HI.eqI hI5995 (p := 231) (b := 14) (((hF5996.1 231 14 mf_X11_settle_231_231_14).trans e5909))
        have w266022 := W26.cong q5921 hI5995 ((hF5996.1 231 9 mf_X11_settle_231_231_9)) ((hF5996.1 231 10 mf_X11_settle_231_231_10)) ((hF5996.1 231 11 mf_X11_settle_231_231_11)) ((hF5996.2.2 231 12 mf_X11_settle_231_231_12))
        exact ⟨_, rfl, hI5995, hF5999, rfl, ⟨by omega, by omega, by omega, by omega, w266022, by omega, (fun hbad => ⟨by have y := (q5922 (by omega)).1; omega, (EXPR.of ((q5922 (by omega)).2.2.1 (by omega)) ((q5922 (by omega)).2.2.2.2 (by omega)) sp6001 (by omega) (by show 0 ≤ (gI _ 231 23).toInt; omega) (by show (gI _ 231 17).toInt ≤ 400; omega) rfl rfl rfl).2⟩), (TKM.c q5923 ((hF5996.2.1 236 ma_X11_settle_231_236)) ((hF5996.1 231 8 mf_X11_settle_231_231_8)) ((hF5996.1 231 9 mf_X11_settle_231_231_9)) ((hF5996.1 231 10 mf_X11_settle_231_231_10)) ((hF5996.1 231 11 mf_X11_settle_231_231_11)) ((hF5996.2.2 231 12 mf_X11_settle_231_231_12))), (fun b hC c0 h13 h => XPM.end_ (q5924 c0 b hC h13 (h (show (gI g0 231 14).toInt = 0 from (by first | exact h2 | omega)))) (fun z => by have z2 : (gI g5902 231 14).toInt = 0 := z; omega) (pI.c ((hF5996.1 231 9 mf_X11_settle_231_231_9))) (pI.c ((hF5996.1 231 13 mf_X11_settle_231_231_13))) (pI.c ((hF5996.1 231 14 mf_X11_settle_231_231_14))) (pI.c ((hF5996.1 231 15 mf_X11_settle_231_231_15))) (pI.c ((hF5996.1 231 20 mf_X11_settle_231_231_20))))⟩⟩
      · have c5990_ : x5899.toInt ≠ 4 := en_i_eq_f c5990
        refine At.enter rfl ?_
        refine r_iload_n e5912 ?_
        refine r_ifs 36 rfl (fun c6024 => ?_) (fun c6024 => ?_)
        · have c6024_ : x5899.toInt ≠ 0 := en_k_ne_t c6024
          refine At.enter rfl ?_
          refine r_iload_n e5912 ?_
          refine r_iconst 1 rfl ?_
          refine r_ics 48 rfl (fun c6025 => ?_) (fun c6025 => ?_)
          · have c6025_ : x5899.toInt ≠ 1 := en_i_ne_t c6025
            refine At.enter rfl ?_
            refine r_iload_n e5912 ?_
            refine r_iconst 3 rfl ?_
            refine r_ics 60 rfl (fun c6026 => ?_) (fun c6026 => ?_)
            · have c6026_ : x5899.toInt ≠ 3 := en_i_ne_t c6026
              refine At.enter rfl ?_
              refine r_aload_n e5910 ?_
              have y6035 := (q5922 (by omega)).1
              refine r_callV 72 rfl [.ref 231] [] (Nat.le_of_ble_eq_true rfl) rfl (T_X11_behindTest_231 _ hI5903 (gI g0 231 17).toInt (pE g0 238) (pE g0 239) (by refine ⟨?_, ?_, ?_, ?_⟩ <;> omega) (by omega) (by omega) q5921 (PT.eq (q5922 (by omega)).2 (by omega)) q5923) ?_
              rintro _ _ ⟨g6036, rfl, hI6037, hF6038, v6039, rfl, hr6040⟩
              refine At.sti ?_
              have hF6041 := Fr.tr hF5904 hF6038 rfl rfl
              have x6043 := HI.eqI hI6037 (p := 231) (b := 8) ((((hF6038.1 231 8 mf_X11_behindTest_231_231_8).trans (hF5904.1 231 8 (by decide))).trans hv1))
              obtain ⟨v6044, hv6044⟩ : ∃ v, gI g6036 231 9 = v := ⟨_, rfl⟩
              have rv6044 := RgF.at hI6037.2.1 (p := 231) (b := 9) rfl
              rw [hv6044] at rv6044
              dsimp only at rv6044
              have tv6044 := congrArg Int32.toInt hv6044
              obtain ⟨v6046, hv6046⟩ : ∃ v, gI g6036 231 10 = v := ⟨_, rfl⟩
              have rv6046 := RgF.at hI6037.2.1 (p := 231) (b := 10) rfl
              rw [hv6046] at rv6046
              dsimp only at rv6046
              have tv6046 := congrArg Int32.toInt hv6046
              obtain ⟨v6048, hv6048⟩ : ∃ v, gI g6036 231 11 = v := ⟨_, rfl⟩
              have tv6048 := congrArg Int32.toInt hv6048
              obtain ⟨v6050, hv6050⟩ : ∃ v, gJ g6036 231 12 = v := ⟨_, rfl⟩
              have x6051 := HI.eqJ hI6037 (b := 12) (hv6050)
              obtain ⟨v6052, hv6052⟩ : ∃ v, gI g6036 231 14 = v := ⟨_, rfl⟩
              have tv6052 := congrArg Int32.toInt hv6052
              obtain ⟨v6054, hv6054⟩ : ∃ v, gI g6036 231 17 = v := ⟨_, rfl⟩
              have rv6054 := RgF.at hI6037.2.1 (p := 231) (b := 17) rfl
              rw [hv6054] at rv6054
              dsimp only at rv6054
              have tv6054 := congrArg Int32.toInt hv6054
              obtain ⟨v6056, hv6056⟩ : ∃ v, gI g6036 231 23 = v := ⟨_, rfl⟩
              have rv6056 := RgF.at hI6037.2.1 (p := 231) (b := 23) rfl
              rw [hv6056] at rv6056
              dsimp only at rv6056
              have tv6056 := congrArg Int32.toInt hv6056
              obtain ⟨c6058, c6059, c6060, c6061, c6062, c6063, c6064, c6065, c6066, c6067⟩ := hr6040.2
              refine At.enter rfl ?_
              refine r_istore_n _ rfl ?_
              refine r_goto ?_
              have w6069 := tw_s x5899.toInt
              have w6070 := bw_s x5901.toInt
              have w6071 := tw_s v6039.toInt
              have w6072 := bw_s v6052.toInt
              have y6081 := c6066
              unfold PRG at y6081
              have bv6082 := q_bnd v6052
              exact ih5907 (5 * (400 - v6044.toInt) + tw (v6039.toInt) + 10 * bw (v6052.toInt)) _ _ ⟨v6039, v6044, v6052, by first | rfl | omega, hI6037, hF6041, hv6044, hv6052, (w_p1 (by decide) (Or.inr rfl) e5910), (w_p1 (by decide) (Or.inr rfl) e5911), (w_e1 _ _ _), by omega, by omega, by omega, by omega, by omega, by omega, by omega, by omega, c6062, c6065, c6067.1, (fun c0 b hC h13 h => MTP.base c6067.2 ((hF5904.2.1 236 (by decide))) ((hF5904.1 231 8 (by decide))) c0 b trivial ((q5924 c0 b hC h13 h).tt (by omega)))⟩ ⟨by omega, by omega⟩
            · have c6026_ : x5899.toInt = 3 := en_i_ne_f c6026
              refine At.enter rfl ?_
              refine r_aload_n e5910 ?_
              refine r_iload_n e5911 ?_
              have y6091 := (q5922 (by omega)).1
              refine r_callV 65 rfl [.ref 231, .int a1] [] (Nat.le_of_ble_eq_true rfl) rfl (T_X11_behindSum_231 _ hI5903 a1 (by omega) (gI g0 231 17).toInt (pE g0 238) (pE g0 239) (by refine ⟨?_, ?_, ?_, ?_⟩ <;> omega) (by omega) (by omega) q5921 (PT.eq (q5922 (by omega)).2 (by omega)) q5923) ?_
              rintro _ _ ⟨g6092, rfl, hI6093, hF6094, v6095, rfl, hr6096⟩
              refine At.sti ?_
              have hF6097 := Fr.tr hF5904 hF6094 rfl rfl
              have x6099 := HI.eqI hI6093 (p := 231) (b := 8) ((((hF6094.1 231 8 mf_X11_behindSum_231_231_8).trans (hF5904.1 231 8 (by decide))).trans hv1))
              obtain ⟨v6100, hv6100⟩ : ∃ v, gI g6092 231 9 = v := ⟨_, rfl⟩
              have rv6100 := RgF.at hI6093.2.1 (p := 231) (b := 9) rfl
              rw [hv6100] at rv6100
              dsimp only at rv6100
              have tv6100 := congrArg Int32.toInt hv6100
              obtain ⟨v6102, hv6102⟩ : ∃ v, gI g6092 231 10 = v := ⟨_, rfl⟩
              have rv6102 := RgF.at hI6093.2.1 (p := 231) (b := 10) rfl
              rw [hv6102] at rv6102
              dsimp only at rv6102
              have tv6102 := congrArg Int32.toInt hv6102
              obtain ⟨v6104, hv6104⟩ : ∃ v, gI g6092 231 11 = v := ⟨_, rfl⟩
              have tv6104 := congrArg Int32.toInt hv6104
              obtain ⟨v6106, hv6106⟩ : ∃ v, gJ g6092 231 12 = v := ⟨_, rfl⟩
              have x6107 := HI.eqJ hI6093 (b := 12) (hv6106)
              obtain ⟨v6108, hv6108⟩ : ∃ v, gI g6092 231 14 = v := ⟨_, rfl⟩
              have tv6108 := congrArg Int32.toInt hv6108
              obtain ⟨v6110, hv6110⟩ : ∃ v, gI g6092 231 17 = v := ⟨_, rfl⟩
              have rv6110 := RgF.at hI6093.2.1 (p := 231) (b := 17) rfl
              rw [hv6110] at rv6110
              dsimp only at rv6110
              have tv6110 := congrArg Int32.toInt hv6110
              obtain ⟨v6112, hv6112⟩ : ∃ v, gI g6092 231 23 = v := ⟨_, rfl⟩
              have rv6112 := RgF.at hI6093.2.1 (p := 231) (b := 23) rfl
              rw [hv6112] at rv6112
              dsimp only at rv6112
              have tv6112 := congrArg Int32.toInt hv6112
              obtain ⟨c6114, c6115, c6116, c6117, c6118, c6119, c6120, c6121, c6122, c6123⟩ := hr6096.2
              refine At.enter rfl ?_
              refine r_goto ?_
              refine At.enter rfl ?_
              refine r_istore_n _ rfl ?_
              refine r_goto ?_
              have w6125 := tw_s x5899.toInt
              have w6126 := bw_s x5901.toInt
              have w6127 := tw_s v6095.toInt
              have w6128 := bw_s v6108.toInt
              have y6137 := c6122
              unfold PRG at y6137
              have bv6138 := q_bnd v6108
              exact ih5907 (5 * (400 - v6100.toInt) + tw (v6095.toInt) + 10 * bw (v6108.toInt)) _ _ ⟨v6095, v6100, v6108, by first | rfl | omega, hI6093, hF6097, hv6100, hv6108, (w_p1 (by decide) (Or.inr rfl) e5910), (w_p1 (by decide) (Or.inr rfl) e5911), (w_e1 _ _ _), by omega, by omega, by omega, by omega, by omega, by omega, by omega, by omega, c6118, c6121, c6123.1, (fun c0 b hC h13 h => MTP.base c6123.2 ((hF5904.2.1 236 (by decide))) ((hF5904.1 231 8 (by decide))) c0 b hC ((q5924 c0 b hC h13 h).tt (by omega)))⟩ ⟨by omega, by omega⟩
          · have c6025_ : x5899.toInt = 1 := en_i_ne_f c6025
            refine At.enter rfl ?_
            refine r_aload_n e5910 ?_
            have y6147 := (q5922 (by omega)).1
            refine r_callV 52 rfl [.ref 231] [] (Nat.le_of_ble_eq_true rfl) rfl (T_X11_readPart_231 _ hI5903 (gI g0 231 17).toInt (pE g0 238) (pE g0 239) (by refine ⟨?_, ?_, ?_, ?_⟩ <;> omega) (by omega) (by omega) q5921 (PT.eq (q5922 (by omega)).2 (by omega)) q5923) ?_
            rintro _ _ ⟨g6148, rfl, hI6149, hF6150, v6151, rfl, hr6152⟩
            refine At.sti ?_
            have hF6153 := Fr.tr hF5904 hF6150 rfl rfl
            have x6155 := HI.eqI hI6149 (p := 231) (b := 8) ((((hF6150.1 231 8 mf_X11_readPart_231_231_8).trans (hF5904.1 231 8 (by decide))).trans hv1))
            obtain ⟨v6156, hv6156⟩ : ∃ v, gI g6148 231 9 = v := ⟨_, rfl⟩
            have rv6156 := RgF.at hI6149.2.1 (p := 231) (b := 9) rfl
            rw [hv6156] at rv6156
            dsimp only at rv6156
            have tv6156 := congrArg Int32.toInt hv6156
            obtain ⟨v6158, hv6158⟩ : ∃ v, gI g6148 231 10 = v := ⟨_, rfl⟩
            have rv6158 := RgF.at hI6149.2.1 (p := 231) (b := 10) rfl
            rw [hv6158] at rv6158
            dsimp only at rv6158
            have tv6158 := congrArg Int32.toInt hv6158
            obtain ⟨v6160, hv6160⟩ : ∃ v, gI g6148 231 11 = v := ⟨_, rfl⟩
            have tv6160 := congrArg Int32.toInt hv6160
            obtain ⟨v6162, hv6162⟩ : ∃ v, gJ g6148 231 12 = v := ⟨_, rfl⟩
            have x6163 := HI.eqJ hI6149 (b := 12) (hv6162)
            obtain ⟨v6164, hv6164⟩ : ∃ v, gI g6148 231 14 = v := ⟨_, rfl⟩
            have tv6164 := congrArg Int32.toInt hv6164
            obtain ⟨v6166, hv6166⟩ : ∃ v, gI g6148 231 17 = v := ⟨_, rfl⟩
            have rv6166 := RgF.at hI6149.2.1 (p := 231) (b := 17) rfl
            rw [hv6166] at rv6166
            dsimp only at rv6166
            have tv6166 := congrArg Int32.toInt hv6166
            obtain ⟨v6168, hv6168⟩ : ∃ v, gI g6148 231 23 = v := ⟨_, rfl⟩
            have rv6168 := RgF.at hI6149.2.1 (p := 231) (b := 23) rfl
            rw [hv6168] at rv6168
            dsimp only at rv6168
            have tv6168 := congrArg Int32.toInt hv6168
            obtain ⟨c6170, c6171, c6172, c6173, c6174, c6175, c6176, c6177, c6178, c6179⟩ := hr6152.2
            refine At.enter rfl ?_
            refine r_goto ?_
            refine At.enter rfl ?_
            refine r_istore_n _ rfl ?_
            refine r_goto ?_
            have w6181 := tw_s x5899.toInt
            have w6182 := bw_s x5901.toInt
            have w6183 := tw_s v6151.toInt
            have w6184 := bw_s v6164.toInt
            have y6193 := c6178
            unfold PRG at y6193
            have bv6194 := q_bnd v6164
            exact ih5907 (5 * (400 - v6156.toInt) + tw (v6151.toInt) + 10 * bw (v6164.toInt)) _ _ ⟨v6151, v6156, v6164, by first | rfl | omega, hI6149, hF6153, hv6156, hv6164, (w_p1 (by decide) (Or.inr rfl) e5910), (w_p1 (by decide) (Or.inr rfl) e5911), (w_e1 _ _ _), by omega, by omega, by omega, by omega, by omega, by omega, by omega, by omega, c6174, c6177, c6179.1, (fun c0 b hC h13 h => MTP.base c6179.2 ((hF5904.2.1 236 (by decide))) ((hF5904.1 231 8 (by decide))) c0 b trivial ((q5924 c0 b hC h13 h).tt (by omega)))⟩ ⟨by omega, by omega⟩
        · have c6024_ : x5899.toInt = 0 := en_k_ne_f c6024
          refine At.enter rfl ?_
          refine r_aload_n e5910 ?_
          have y6203 := (q5922 (by omega)).1
          refine r_callV 40 rfl [.ref 231] [] (Nat.le_of_ble_eq_true rfl) rfl (T_X11_readPlain_231 _ hI5903 (gI g0 231 17).toInt (pE g0 238) (pE g0 239) (by refine ⟨?_, ?_, ?_, ?_⟩ <;> omega) (by omega) (by omega) q5921 (PT.eq (q5922 (by omega)).2 (by omega)) q5923) ?_
          rintro _ _ ⟨g6204, rfl, hI6205, hF6206, v6207, rfl, hr6208⟩
          refine At.sti ?_
          have hF6209 := Fr.tr hF5904 hF6206 rfl rfl
          have x6211 := HI.eqI hI6205 (p := 231) (b := 8) ((((hF6206.1 231 8 mf_X11_readPlain_231_231_8).trans (hF5904.1 231 8 (by decide))).trans hv1))
          obtain ⟨v6212, hv6212⟩ : ∃ v, gI g6204 231 9 = v := ⟨_, rfl⟩
          have rv6212 := RgF.at hI6205.2.1 (p := 231) (b := 9) rfl
          rw [hv6212] at rv6212
          dsimp only at rv6212
          have tv6212 := congrArg Int32.toInt hv6212
          obtain ⟨v6214, hv6214⟩ : ∃ v, gI g6204 231 10 = v := ⟨_, rfl⟩
          have rv6214 := RgF.at hI6205.2.1 (p := 231) (b := 10) rfl
          rw [hv6214] at rv6214
          dsimp only at rv6214
          have tv6214 := congrArg Int32.toInt hv6214
          obtain ⟨v6216, hv6216⟩ : ∃ v, gI g6204 231 11 = v := ⟨_, rfl⟩
          have tv6216 := congrArg Int32.toInt hv6216
          obtain ⟨v6218, hv6218⟩ : ∃ v, gJ g6204 231 12 = v := ⟨_, rfl⟩
          have x6219 := HI.eqJ hI6205 (b := 12) (hv6218)
          obtain ⟨v6220, hv6220⟩ : ∃ v, gI g6204 231 14 = v := ⟨_, rfl⟩
          have tv6220 := congrArg Int32.toInt hv6220
          obtain ⟨v6222, hv6222⟩ : ∃ v, gI g6204 231 17 = v := ⟨_, rfl⟩
          have rv6222 := RgF.at hI6205.2.1 (p := 231) (b := 17) rfl
          rw [hv6222] at rv6222
          dsimp only at rv6222
          have tv6222 := congrArg Int32.toInt hv6222
          obtain ⟨v6224, hv6224⟩ : ∃ v, gI g6204 231 23 = v := ⟨_, rfl⟩
          have rv6224 := RgF.at hI6205.2.1 (p := 231) (b := 23) rfl
          rw [hv6224] at rv6224
          dsimp only at rv6224
          have tv6224 := congrArg Int32.toInt hv6224
          obtain ⟨c6226, c6227, c6228, c6229, c6230, c6231, c6232, c6233, c6234, c6235⟩ := hr6208.2
          refine At.enter rfl ?_
          refine r_goto ?_
          refine At.enter rfl ?_
          refine r_istore_n _ rfl ?_
          refine r_goto ?_
          have w6237 := tw_s x5899.toInt
          have w6238 := bw_s x5901.toInt
          have w6239 := tw_s v6207.toInt
          have w6240 := bw_s v6220.toInt
          have y6249 := c6234
          unfold PRG at y6249
          have bv6250 := q_bnd v6220
          exact ih5907 (5 * (400 - v6212.toInt) + tw (v6207.toInt) + 10 * bw (v6220.toInt)) _ _ ⟨v6207, v6212, v6220, by first | rfl | omega, hI6205, hF6209, hv6212, hv6220, (w_p1 (by decide) (Or.inr rfl) e5910), (w_p1 (by decide) (Or.inr rfl) e5911), (w_e1 _ _ _), by omega, by omega, by omega, by omega, by omega, by omega, by omega, by omega, c6230, c6233, c6235.1, (fun c0 b hC h13 h => MTP.base c6235.2 ((hF5904.2.1 236 (by decide))) ((hF5904.1 231 8 (by decide))) c0 b trivial ((q5924 c0 b hC h13 h).tt (by omega)))⟩ ⟨by omega, by omega⟩
