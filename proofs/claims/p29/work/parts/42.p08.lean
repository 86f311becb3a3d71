def F_X11_readExpression_231 : List (Nat × Nat) := [(231, 9), (231, 10), (231, 11), (231, 12), (231, 13), (231, 14), (231, 17), (231, 20), (231, 23), (231, 24)]
def A_X11_readExpression_231 : List Nat := [238, 239, 240, 241]
theorem mf_X11_behindTest_231_231_8 : memF F_X11_behindTest_231 231 8 = false := by decide
theorem mf_X11_behindSum_231_231_8 : memF F_X11_behindSum_231 231 8 = false := by decide
theorem mf_X11_readPlain_231_231_8 : memF F_X11_readPlain_231 231 8 = false := by decide
set_option maxRecDepth 100000 in
set_option maxHeartbeats 4000000 in
theorem T_X11_readExpression_231 (d : Nat) {N : Nat} {g0 : List en_E} (hI0 : HI g0) (a1 : Int32) (h_a1 : 0 ≤ a1.toInt ∧ a1.toInt ≤ 1) (h1 : ((gI g0 231 9).toInt ≤ (gI g0 231 10).toInt ∧ (gI g0 231 10).toInt ≤ (gI g0 231 8).toInt ∧ 0 ≤ (gI g0 231 11).toInt ∧ (gI g0 231 11).toInt ≤ 3 * ((gI g0 231 10).toInt - (gI g0 231 9).toInt))) (h2 : (gI g0 231 14).toInt = 0) (h3 : (gI g0 231 17).toInt ≤ (gI g0 231 9).toInt) (hW : W26 g0) (hK : TKM g0) : Ev (d + 7) 208 [.ref 231, .int a1] (g0, N) (fun w h' => ∃ g', h' = (g', N) ∧ HI g' ∧ Fr F_X11_readExpression_231 A_X11_readExpression_231 g0 g' ∧ w = none ∧ ((gI g' 231 9).toInt ≤ (gI g' 231 10).toInt ∧ (gI g' 231 10).toInt ≤ (gI g' 231 8).toInt ∧ 0 ≤ (gI g' 231 11).toInt ∧ (gI g' 231 11).toInt ≤ 3 * ((gI g' 231 10).toInt - (gI g' 231 9).toInt) ∧ W26 g' ∧ (gI g0 231 9).toInt ≤ (gI g' 231 9).toInt ∧ XPR g0 g' ∧ (TKM g' ∧ (∀ b : Int, HBT a1.toInt b → XPM g0 g' b) ∧ XPG g0 g' a1.toInt))) := by
  have hF0 : Fr F_X11_readExpression_231 A_X11_readExpression_231 g0 g0 := Fr.rf
  obtain ⟨v1, hv1⟩ : ∃ v, gI g0 231 8 = v := ⟨_, rfl⟩
  have rv1 := RgF.at hI0.2.1 (p := 231) (b := 8) rfl
  rw [hv1] at rv1
  dsimp only at rv1
  have tv1 := congrArg Int32.toInt hv1
  obtain ⟨v2, hv2⟩ : ∃ v, gI g0 231 9 = v := ⟨_, rfl⟩
  have rv2 := RgF.at hI0.2.1 (p := 231) (b := 9) rfl
  rw [hv2] at rv2
  dsimp only at rv2
  have tv2 := congrArg Int32.toInt hv2
  obtain ⟨v3, hv3⟩ : ∃ v, gI g0 231 10 = v := ⟨_, rfl⟩
  have rv3 := RgF.at hI0.2.1 (p := 231) (b := 10) rfl
  rw [hv3] at rv3
  dsimp only at rv3
  have tv3 := congrArg Int32.toInt hv3
  obtain ⟨v4, hv4⟩ : ∃ v, gI g0 231 11 = v := ⟨_, rfl⟩
  have tv4 := congrArg Int32.toInt hv4
  obtain ⟨v5, hv5⟩ : ∃ v, gJ g0 231 12 = v := ⟨_, rfl⟩
  have tv5 := congrArg Int64.toInt hv5
  obtain ⟨v6, hv6⟩ : ∃ v, gI g0 231 14 = v := ⟨_, rfl⟩
  have tv6 := congrArg Int32.toInt hv6
  obtain ⟨v7, hv7⟩ : ∃ v, gI g0 231 17 = v := ⟨_, rfl⟩
  have rv7 := RgF.at hI0.2.1 (p := 231) (b := 17) rfl
  rw [hv7] at rv7
  dsimp only at rv7
  have tv7 := congrArg Int32.toInt hv7
  obtain ⟨v8, hv8⟩ : ∃ v, gI g0 231 23 = v := ⟨_, rfl⟩
  have rv8 := RgF.at hI0.2.1 (p := 231) (b := 23) rfl
  rw [hv8] at rv8
  dsimp only at rv8
  have tv8 := congrArg Int32.toInt hv8
  refine Ev.mk rfl rfl ⟨Nat.le_of_ble_eq_true rfl, Or.inr (q_rc hI0.1 kx_231 rfl)⟩ ?_
  show At _ none _ _ (0, [(0, .ref 231), (1, .int a1)], [], (_, _)) _
  refine At.enter rfl ?_
  refine r_aload_n rfl ?_
  refine r_iconst 0 rfl ?_
  refine q_putI (Sh.int hI0.1 kx_231 rfl) rfl ?_
  have hI4103 := HI.wI1 hI0 kx_231 rfl (p := 231) (b := 23) (v := 0) rfl (by decide)
  have hF4104 := Fr.wI (p := 231) (b := 23) (v := 0) hF0 rfl
  refine r_aload_n rfl ?_
  refine r_iconst 0 rfl ?_
  refine q_putI (Sh.int hI4103.1 kx_231 rfl) rfl ?_
  have hI4105 := HI.wI0 hI4103 kx_231 rfl (p := 231) (b := 24) (v := 0) rfl
  have hF4106 := Fr.wI (p := 231) (b := 24) (v := 0) hF4104 rfl
  refine r_iload_n rfl ?_
  refine r_ifs 14 rfl (fun c4107 => ?_) (fun c4107 => ?_)
  · have c4107_ : a1.toInt = 0 := en_k_eq_t c4107
    refine At.enter rfl ?_
    refine r_iconst 1 rfl ?_
    refine Ar.fall 19 rfl ?_
    refine At.enter rfl ?_
    refine r_istore_n ([(2, .int 1), (0, .ref 231), (1, .int a1)]) rfl ?_
    refine Ar.fall 20 rfl ?_
    have z_4858 : (1 : Int32).toInt = 1 := rfl
    have x4859 := HI.eqI hI4105 (p := 231) (b := 8) ((((gI_sI_ne (by decide)).trans (gI_sI_ne (by decide))).trans hv1))
    have x4860 := HI.eqI hI4105 (p := 231) (b := 9) ((((gI_sI_ne (by decide)).trans (gI_sI_ne (by decide))).trans hv2))
    have x4861 := HI.eqI hI4105 (p := 231) (b := 10) ((((gI_sI_ne (by decide)).trans (gI_sI_ne (by decide))).trans hv3))
    have x4862 := HI.eqI hI4105 (p := 231) (b := 11) ((((gI_sI_ne (by decide)).trans (gI_sI_ne (by decide))).trans hv4))
    have x4863 := HI.eqJ hI4105 (b := 12) ((((gJ_sI_ne (by decide)).trans (gJ_sI_ne (by decide))).trans hv5))
    have x4864 := HI.eqI hI4105 (p := 231) (b := 14) ((((gI_sI_ne (by decide)).trans (gI_sI_ne (by decide))).trans hv6))
    have x4865 := HI.eqI hI4105 (p := 231) (b := 17) ((((gI_sI_ne (by decide)).trans (gI_sI_ne (by decide))).trans hv7))
    have x4866 := HI.eqI hI4105 (p := 231) (b := 23) (((gI_sI_ne (by decide)).trans (gI_sI_eq hI0.1 kx_231 rfl _)))
    have zv4867 : (0 : Int32).toInt = 0 := rfl
    have x4871 := HI.eqI hI4105 (p := 231) (b := 24) ((gI_sI_eq hI4103.1 kx_231 rfl _))
    refine w_loopI (fun n_ l_ g_ => ∃ x4831 : Int32, ∃ x4832 : Int32, ∃ x4833 : Int32, n_ = 5 * (400 - x4832.toInt) + tw (x4831.toInt) + 10 * bw (x4833.toInt) ∧ HI g_ ∧ Fr F_X11_readExpression_231 A_X11_readExpression_231 g0 g_ ∧ gI g_ 231 9 = x4832 ∧ gI g_ 231 14 = x4833 ∧ en_get 0 l_ = some (.ref 231) ∧ en_get 1 l_ = some (.int a1) ∧ en_get 2 l_ = some (.int x4831) ∧ (0 ≤ x4831.toInt ∧ x4831.toInt ≤ 4) ∧ (0 ≤ x4832.toInt ∧ x4832.toInt ≤ 400) ∧ ((gI g_ 231 9).toInt ≤ (gI g_ 231 10).toInt) ∧ ((gI g_ 231 10).toInt ≤ (gI g_ 231 8).toInt) ∧ (0 ≤ (gI g_ 231 11).toInt) ∧ ((gI g_ 231 11).toInt ≤ 3 * ((gI g_ 231 10).toInt - (gI g_ 231 9).toInt)) ∧ ((gI g_ 231 17).toInt + (gI g_ 231 23).toInt ≤ 400) ∧ ((gI g0 231 9).toInt ≤ (gI g_ 231 9).toInt) ∧ (W26 g_) ∧ (TURN g_ (gI g0 231 17).toInt x4831.toInt (pE g0 238) (pE g0 239)) ∧ (TKM g_) ∧ (MXP g0 g_ a1.toInt x4831.toInt) ∧ (MXG g0 g_ a1.toInt x4831.toInt)) ?_ (5 * (400 - v2.toInt) + tw (1) + 10 * bw (v6.toInt)) ⟨1, v2, v6, by first | rfl | omega, hI4105, hF4106, (((gI_sI_ne (by decide)).trans (gI_sI_ne (by decide))).trans hv2), (((gI_sI_ne (by decide)).trans (gI_sI_ne (by decide))).trans hv6), rfl, rfl, rfl, by decide, by omega, by omega, by omega, by omega, by omega, by omega, by omega, (W26.cong hW hI4105 (((gI_sI_ne (by decide)).trans (gI_sI_ne (by decide)))) (((gI_sI_ne (by decide)).trans (gI_sI_ne (by decide)))) (((gI_sI_ne (by decide)).trans (gI_sI_ne (by decide)))) (((gJ_sI_ne (by decide)).trans (gJ_sI_ne (by decide))))), (fun _ => ⟨by omega, PT.start hI4105 (((gA_sI).trans (gA_sI))) (((gA_sI).trans (gA_sI))) (((gI_sI_ne (by decide)).trans (gI_sI_ne (by decide)))) (by show (gI _ 231 23).toInt = 0; omega) (by show 0 ≤ (gI _ 231 17).toInt; omega) (by omega)⟩), (TKM.c hK (((gA_sI).trans (gA_sI))) (((gI_sI_ne (by decide)).trans (gI_sI_ne (by decide)))) (((gI_sI_ne (by decide)).trans (gI_sI_ne (by decide)))) (((gI_sI_ne (by decide)).trans (gI_sI_ne (by decide)))) (((gI_sI_ne (by decide)).trans (gI_sI_ne (by decide)))) (((gJ_sI_ne (by decide)).trans (gJ_sI_ne (by decide))))), (fun c0 b hC h13 h => CSM.start (by unfold HBT at hC; omega) (show (gI _ 231 14).toInt = 0 from by omega) ((pI.c (((gI_sI_ne (by decide)).trans (gI_sI_ne (by decide))))).trans h13) (show (gI _ 231 23).toInt = 0 from by omega) (show (gI _ 231 24).toInt = 0 from by omega) (by rw [pI.c (((gI_sI_ne (by decide)).trans (gI_sI_ne (by decide)))), pI.c (((gI_sI_ne (by decide)).trans (gI_sI_ne (by decide)))), pI.c (((gI_sI_ne (by decide)).trans (gI_sI_ne (by decide))))]; exact h)), (fun h14 c0 b K hB h => CSG_tt (CSG_start hB (show (gI _ 231 23).toInt = 0 from by omega) (show 0 ≤ (gI _ 231 17).toInt from by omega) (RGM_eq h (SMG_mk (((gA_sI).trans (gA_sI))) (((gA_sI).trans (gA_sI))) (((gI_sI_ne (by decide)).trans (gI_sI_ne (by decide))))) (pI.c (((gI_sI_ne (by decide)).trans (gI_sI_ne (by decide))))))) (by unfold HBG at hB; split <;> omega))⟩
    rintro n4838 l4837 g4834 ⟨x4831, x4832, x4833, hm4873, hI4835, hF4836, e4840, e4841, e4842, e4843, e4844, r4845, r4846, q4847, q4848, q4849, q4850, q4851, q4852, q4853, q4854, q4855, q4856, q4857⟩ ih4839
    have tv4874 := congrArg Int32.toInt e4840
    have tv4875 := congrArg Int32.toInt e4841
    have x4876 := HI.eqI hI4835 (p := 231) (b := 8) (((hF4836.1 231 8 (by decide)).trans hv1))
    have x4877 := HI.eqI hI4835 (p := 231) (b := 9) (e4840)
    obtain ⟨v4878, hv4878⟩ : ∃ v, gI g4834 231 10 = v := ⟨_, rfl⟩
    have rv4878 := RgF.at hI4835.2.1 (p := 231) (b := 10) rfl
    rw [hv4878] at rv4878
    dsimp only at rv4878
    have tv4878 := congrArg Int32.toInt hv4878
    obtain ⟨v4880, hv4880⟩ : ∃ v, gI g4834 231 11 = v := ⟨_, rfl⟩
    have tv4880 := congrArg Int32.toInt hv4880
    obtain ⟨v4882, hv4882⟩ : ∃ v, gJ g4834 231 12 = v := ⟨_, rfl⟩
    have x4883 := HI.eqJ hI4835 (b := 12) (hv4882)
    have x4884 := HI.eqI hI4835 (p := 231) (b := 14) (e4841)
    obtain ⟨v4885, hv4885⟩ : ∃ v, gI g4834 231 17 = v := ⟨_, rfl⟩
    have rv4885 := RgF.at hI4835.2.1 (p := 231) (b := 17) rfl
    rw [hv4885] at rv4885
    dsimp only at rv4885
    have tv4885 := congrArg Int32.toInt hv4885
    obtain ⟨v4887, hv4887⟩ : ∃ v, gI g4834 231 23 = v := ⟨_, rfl⟩
    have rv4887 := RgF.at hI4835.2.1 (p := 231) (b := 23) rfl
    rw [hv4887] at rv4887
    dsimp only at rv4887
    have tv4887 := congrArg Int32.toInt hv4887
    refine At.enter rfl ?_
    refine r_aload_n e4842 ?_
    refine q_getI (Sh.int hI4835.1 kx_231 rfl) x4833 e4841 ?_
    refine r_ifs 27 rfl (fun c4889 => ?_) (fun c4889 => ?_)
    · have c4889_ : x4833.toInt ≠ 0 := en_k_ne_t c4889
      refine At.enter rfl ?_
      refine r_aload_n e4842 ?_
      refine r_iconst 1 rfl ?_
      refine r_callV 81 rfl [.ref 231, .int 1] [] (Nat.le_of_ble_eq_true rfl) rfl (T_X11_settle_231 _ hI4835 1 (by decide) (by omega)) ?_
      rintro _ _ ⟨g4893, rfl, hI4894, hF4895, rfl, hr4897⟩
      refine At.stn ?_
      have hF4898 := Fr.tr hF4836 hF4895 rfl rfl
      obtain ⟨sp4900, sq4901, sg4902⟩ := hr4897
      obtain ⟨v4906, hv4906⟩ : ∃ v, gI g4893 231 17 = v := ⟨_, rfl⟩
      have rv4906 := RgF.at hI4894.2.1 (p := 231) (b := 17) rfl
      rw [hv4906] at rv4906
      dsimp only at rv4906
      have tv4906 := congrArg Int32.toInt hv4906
      obtain ⟨v4908, hv4908⟩ : ∃ v, gI g4893 231 23 = v := ⟨_, rfl⟩
      have rv4908 := RgF.at hI4894.2.1 (p := 231) (b := 23) rfl
      rw [hv4908] at rv4908
      dsimp only at rv4908
      have tv4908 := congrArg Int32.toInt hv4908
      have y4910 : (gI _ 231 23).toInt ≤ (gI _ 231 23).toInt := sp4900.1
      have y4911 : (gI _ 231 17).toInt + (gI _ 231 23).toInt ≤ (gI _ 231 17).toInt + (gI _ 231 23).toInt := sp4900.2.1
      refine At.enter rfl ?_
      refine r_vret ?_
      have x4912 := HI.eqI hI4894 (p := 231) (b := 8) ((((hF4895.1 231 8 mf_X11_settle_231_231_8).trans (hF4836.1 231 8 (by decide))).trans hv1))
      have x4913 := HI.eqI hI4894 (p := 231) (b := 9) (((hF4895.1 231 9 mf_X11_settle_231_231_9).trans e4840))
      have x4914 := HI.eqI hI4894 (p := 231) (b := 10) (((hF4895.1 231 10 mf_X11_settle_231_231_10).trans hv4878))
      have x4915 := HI.eqI hI4894 (p := 231) (b := 11) (((hF4895.1 231 11 mf_X11_settle_231_231_11).trans hv4880))
      have x4916 := HI.eqJ hI4894 (b := 12) (((hF4895.2.2 231 12 mf_X11_settle_231_231_12).trans hv4882))
      have x4917 := HI.eqI hI4894 (p := 231) (b := 14) (((hF4895.1 231 14 mf_X11_settle_231_231_14).trans e4841))
      have w264922 := W26.cong q4853 hI4894 ((hF4895.1 231 9 mf_X11_settle_231_231_9)) ((hF4895.1 231 10 mf_X11_settle_231_231_10)) ((hF4895.1 231 11 mf_X11_settle_231_231_11)) ((hF4895.2.2 231 12 mf_X11_settle_231_231_12))
      exact ⟨_, rfl, hI4894, hF4898, rfl, ⟨by omega, by omega, by omega, by omega, w264922, by omega, (fun hbad => False.elim (by omega)), (TKM.c q4855 ((hF4895.2.1 236 ma_X11_settle_231_236)) ((hF4895.1 231 8 mf_X11_settle_231_231_8)) ((hF4895.1 231 9 mf_X11_settle_231_231_9)) ((hF4895.1 231 10 mf_X11_settle_231_231_10)) ((hF4895.1 231 11 mf_X11_settle_231_231_11)) ((hF4895.2.2 231 12 mf_X11_settle_231_231_12))), (fun b hC c0 h13 h => XPM.end_ (q4856 c0 b hC h13 (h (show (gI g0 231 14).toInt = 0 from (by first | exact h2 | omega)))) (fun z => by have z2 : (gI g4834 231 14).toInt = 0 := z; omega) (pI.c ((hF4895.1 231 9 mf_X11_settle_231_231_9))) (pI.c ((hF4895.1 231 13 mf_X11_settle_231_231_13))) (pI.c ((hF4895.1 231 14 mf_X11_settle_231_231_14))) (pI.c ((hF4895.1 231 15 mf_X11_settle_231_231_15))) (pI.c ((hF4895.1 231 20 mf_X11_settle_231_231_20)))), (fun h14 c0 b K hB h => by have hz : (gI _ 231 14).toInt = 0 := h14; exact MG_end (CSG_tt (q4857 (show (gI g4834 231 14).toInt = 0 from by omega) c0 b K hB h) (show _ = (4 : Int) from by omega)) sg4902 rfl sq4901 (pI.c ((hF4895.1 231 9 mf_X11_settle_231_231_9))))⟩⟩
    · have c4889_ : x4833.toInt = 0 := en_k_ne_f c4889
      refine At.enter rfl ?_
      refine r_iload_n e4844 ?_
      refine r_iconst 4 rfl ?_
      refine r_ics 32 rfl (fun c4924 => ?_) (fun c4924 => ?_)
      · have c4924_ : x4831.toInt = 4 := en_i_eq_t c4924
        refine At.enter rfl ?_
        refine r_aload_n e4842 ?_
        refine r_iconst 1 rfl ?_
        refine r_callV 81 rfl [.ref 231, .int 1] [] (Nat.le_of_ble_eq_true rfl) rfl (T_X11_settle_231 _ hI4835 1 (by decide) (by omega)) ?_
        rintro _ _ ⟨g4928, rfl, hI4929, hF4930, rfl, hr4932⟩
        refine At.stn ?_
        have hF4933 := Fr.tr hF4836 hF4930 rfl rfl
        obtain ⟨sp4935, sq4936, sg4937⟩ := hr4932
        obtain ⟨v4941, hv4941⟩ : ∃ v, gI g4928 231 17 = v := ⟨_, rfl⟩
        have rv4941 := RgF.at hI4929.2.1 (p := 231) (b := 17) rfl
        rw [hv4941] at rv4941
        dsimp only at rv4941
        have tv4941 := congrArg Int32.toInt hv4941
        obtain ⟨v4943, hv4943⟩ : ∃ v, gI g4928 231 23 = v := ⟨_, rfl⟩
        have rv4943 := RgF.at hI4929.2.1 (p := 231) (b := 23) rfl
        rw [hv4943] at rv4943
        dsimp only at rv4943
        have tv4943 := congrArg Int32.toInt hv4943
        have y4945 : (gI _ 231 23).toInt ≤ (gI _ 231 23).toInt := sp4935.1
        have y4946 : (gI _ 231 17).toInt + (gI _ 231 23).toInt ≤ (gI _ 231 17).toInt + (gI _ 231 23).toInt := sp4935.2.1
        refine At.enter rfl ?_
        refine r_vret ?_
        have x4947 := HI.eqI hI4929 (p := 231) (b := 8) ((((hF4930.1 231 8 mf_X11_settle_231_231_8).trans (hF4836.1 231 8 (by decide))).trans hv1))
        have x4948 := HI.eqI hI4929 (p := 231) (b := 9) (((hF4930.1 231 9 mf_X11_settle_231_231_9).trans e4840))
        have x4949 := HI.eqI hI4929 (p := 231) (b := 10) (((hF4930.1 231 10 mf_X11_settle_231_231_10).trans hv4878))
        have x4950 := HI.eqI hI4929 (p := 231) (b := 11) (((hF4930.1 231 11 mf_X11_settle_231_231_11).trans hv4880))
        have x4951 := HI.eqJ hI4929 (b := 12) (((hF4930.2.2 231 12 mf_X11_settle_231_231_12).trans hv4882))
        have x4952 := HI.eqI hI4929 (p := 231) (b := 14) (((hF4930.1 231 14 mf_X11_settle_231_231_14).trans e4841))
        have w264957 := W26.cong q4853 hI4929 ((hF4930.1 231 9 mf_X11_settle_231_231_9)) ((hF4930.1 231 10 mf_X11_settle_231_231_10)) ((hF4930.1 231 11 mf_X11_settle_231_231_11)) ((hF4930.2.2 231 12 mf_X11_settle_231_231_12))
        exact ⟨_, rfl, hI4929, hF4933, rfl, ⟨by omega, by omega, by omega, by omega, w264957, by omega, (fun hbad => ⟨by have y := (q4854 (by omega)).1; omega, (EXPR.of ((q4854 (by omega)).2.2.1 (by omega)) ((q4854 (by omega)).2.2.2.2 (by omega)) sp4935 (by omega) (by show 0 ≤ (gI _ 231 23).toInt; omega) (by show (gI _ 231 17).toInt ≤ 400; omega) rfl rfl rfl).2⟩), (TKM.c q4855 ((hF4930.2.1 236 ma_X11_settle_231_236)) ((hF4930.1 231 8 mf_X11_settle_231_231_8)) ((hF4930.1 231 9 mf_X11_settle_231_231_9)) ((hF4930.1 231 10 mf_X11_settle_231_231_10)) ((hF4930.1 231 11 mf_X11_settle_231_231_11)) ((hF4930.2.2 231 12 mf_X11_settle_231_231_12))), (fun b hC c0 h13 h => XPM.end_ (q4856 c0 b hC h13 (h (show (gI g0 231 14).toInt = 0 from (by first | exact h2 | omega)))) (fun z => by have z2 : (gI g4834 231 14).toInt = 0 := z; omega) (pI.c ((hF4930.1 231 9 mf_X11_settle_231_231_9))) (pI.c ((hF4930.1 231 13 mf_X11_settle_231_231_13))) (pI.c ((hF4930.1 231 14 mf_X11_settle_231_231_14))) (pI.c ((hF4930.1 231 15 mf_X11_settle_231_231_15))) (pI.c ((hF4930.1 231 20 mf_X11_settle_231_231_20)))), (fun h14 c0 b K hB h => by have hz : (gI _ 231 14).toInt = 0 := h14; exact MG_end (CSG_tt (q4857 (show (gI g4834 231 14).toInt = 0 from by omega) c0 b K hB h) (show _ = (4 : Int) from by omega)) sg4937 rfl sq4936 (pI.c ((hF4930.1 231 9 mf_X11_settle_231_231_9))))⟩⟩
      · have c4924_ : x4831.toInt ≠ 4 := en_i_eq_f c4924
        refine At.enter rfl ?_
        refine r_iload_n e4844 ?_
        refine r_ifs 36 rfl (fun c4959 => ?_) (fun c4959 => ?_)
        · have c4959_ : x4831.toInt ≠ 0 := en_k_ne_t c4959
          refine At.enter rfl ?_
          refine r_iload_n e4844 ?_
          refine r_iconst 1 rfl ?_
          refine r_ics 48 rfl (fun c4960 => ?_) (fun c4960 => ?_)
          · have c4960_ : x4831.toInt ≠ 1 := en_i_ne_t c4960
            refine At.enter rfl ?_
            refine r_iload_n e4844 ?_
            refine r_iconst 3 rfl ?_
            refine r_ics 60 rfl (fun c4961 => ?_) (fun c4961 => ?_)
            · have c4961_ : x4831.toInt ≠ 3 := en_i_ne_t c4961
              refine At.enter rfl ?_
              refine r_aload_n e4842 ?_
              have y4970 := (q4854 (by omega)).1
              refine r_callV 72 rfl [.ref 231] [] (Nat.le_of_ble_eq_true rfl) rfl (T_X11_behindTest_231 _ hI4835 (gI g0 231 17).toInt (pE g0 238) (pE g0 239) (by refine ⟨?_, ?_, ?_, ?_⟩ <;> omega) (by omega) (by omega) q4853 (PT.eq (q4854 (by omega)).2 (by omega)) q4855) ?_
              rintro _ _ ⟨g4971, rfl, hI4972, hF4973, v4974, rfl, hr4975⟩
              refine At.sti ?_
              have hF4976 := Fr.tr hF4836 hF4973 rfl rfl
              have x4978 := HI.eqI hI4972 (p := 231) (b := 8) ((((hF4973.1 231 8 mf_X11_behindTest_231_231_8).trans (hF4836.1 231 8 (by decide))).trans hv1))
              obtain ⟨v4979, hv4979⟩ : ∃ v, gI g4971 231 9 = v := ⟨_, rfl⟩
              have rv4979 := RgF.at hI4972.2.1 (p := 231) (b := 9) rfl
              rw [hv4979] at rv4979
              dsimp only at rv4979
              have tv4979 := congrArg Int32.toInt hv4979
              obtain ⟨v4981, hv4981⟩ : ∃ v, gI g4971 231 10 = v := ⟨_, rfl⟩
              have rv4981 := RgF.at hI4972.2.1 (p := 231) (b := 10) rfl
              rw [hv4981] at rv4981
              dsimp only at rv4981
              have tv4981 := congrArg Int32.toInt hv4981
              obtain ⟨v4983, hv4983⟩ : ∃ v, gI g4971 231 11 = v := ⟨_, rfl⟩
              have tv4983 := congrArg Int32.toInt hv4983
              obtain ⟨v4985, hv4985⟩ : ∃ v, gJ g4971 231 12 = v := ⟨_, rfl⟩
              have x4986 := HI.eqJ hI4972 (b := 12) (hv4985)
              obtain ⟨v4987, hv4987⟩ : ∃ v, gI g4971 231 14 = v := ⟨_, rfl⟩
              have tv4987 := congrArg Int32.toInt hv4987
              obtain ⟨v4989, hv4989⟩ : ∃ v, gI g4971 231 17 = v := ⟨_, rfl⟩
              have rv4989 := RgF.at hI4972.2.1 (p := 231) (b := 17) rfl
              rw [hv4989] at rv4989
              dsimp only at rv4989
              have tv4989 := congrArg Int32.toInt hv4989
              obtain ⟨v4991, hv4991⟩ : ∃ v, gI g4971 231 23 = v := ⟨_, rfl⟩
              have rv4991 := RgF.at hI4972.2.1 (p := 231) (b := 23) rfl
              rw [hv4991] at rv4991
              dsimp only at rv4991
              have tv4991 := congrArg Int32.toInt hv4991
              obtain ⟨c4993, c4994, c4995, c4996, c4997, c4998, c4999, c5000, c5001, c5002⟩ := hr4975.2
              refine At.enter rfl ?_
              refine r_istore_n _ rfl ?_
              refine r_goto ?_
              have w5004 := tw_s x4831.toInt
              have w5005 := bw_s x4833.toInt
              have w5006 := tw_s v4974.toInt
              have w5007 := bw_s v4987.toInt
              have y5016 := c5001
              unfold PRG at y5016
              have bv5017 := q_bnd v4987
              exact ih4839 (5 * (400 - v4979.toInt) + tw (v4974.toInt) + 10 * bw (v4987.toInt)) _ _ ⟨v4974, v4979, v4987, by first | rfl | omega, hI4972, hF4976, hv4979, hv4987, (w_p1 (by decide) (Or.inr rfl) e4842), (w_p1 (by decide) (Or.inr rfl) e4843), (w_e1 _ _ _), by omega, by omega, by omega, by omega, by omega, by omega, by omega, by omega, c4997, c5000, c5002.1, (fun c0 b hC h13 h => MTP.base c5002.2.1 ((hF4836.2.1 236 (by decide))) ((hF4836.1 231 8 (by decide))) c0 b trivial ((q4856 c0 b hC h13 h).tt (by omega))), (fun h14 c0 b K hB h => MGT_base c5002.2.2 ((hF4836.2.1 236 (by decide))) ((hF4836.1 231 8 (by decide))) h14 c0 b K trivial (CSG_tt (q4857 (show (gI g4834 231 14).toInt = 0 from by omega) c0 b K hB h) (by omega)))⟩ ⟨by omega, by omega⟩
            · have c4961_ : x4831.toInt = 3 := en_i_ne_f c4961
              refine At.enter rfl ?_
              refine r_aload_n e4842 ?_
              refine r_iload_n e4843 ?_
              have y5026 := (q4854 (by omega)).1
              refine r_callV 65 rfl [.ref 231, .int a1] [] (Nat.le_of_ble_eq_true rfl) rfl (T_X11_behindSum_231 _ hI4835 a1 (by omega) (gI g0 231 17).toInt (pE g0 238) (pE g0 239) (by refine ⟨?_, ?_, ?_, ?_⟩ <;> omega) (by omega) (by omega) q4853 (PT.eq (q4854 (by omega)).2 (by omega)) q4855) ?_
              rintro _ _ ⟨g5027, rfl, hI5028, hF5029, v5030, rfl, hr5031⟩
              refine At.sti ?_
              have hF5032 := Fr.tr hF4836 hF5029 rfl rfl
              have x5034 := HI.eqI hI5028 (p := 231) (b := 8) ((((hF5029.1 231 8 mf_X11_behindSum_231_231_8).trans (hF4836.1 231 8 (by decide))).trans hv1))
              obtain ⟨v5035, hv5035⟩ : ∃ v, gI g5027 231 9 = v := ⟨_, rfl⟩
              have rv5035 := RgF.at hI5028.2.1 (p := 231) (b := 9) rfl
              rw [hv5035] at rv5035
              dsimp only at rv5035
              have tv5035 := congrArg Int32.toInt hv5035
              obtain ⟨v5037, hv5037⟩ : ∃ v, gI g5027 231 10 = v := ⟨_, rfl⟩
              have rv5037 := RgF.at hI5028.2.1 (p := 231) (b := 10) rfl
              rw [hv5037] at rv5037
              dsimp only at rv5037
              have tv5037 := congrArg Int32.toInt hv5037
              obtain ⟨v5039, hv5039⟩ : ∃ v, gI g5027 231 11 = v := ⟨_, rfl⟩
              have tv5039 := congrArg Int32.toInt hv5039
              obtain ⟨v5041, hv5041⟩ : ∃ v, gJ g5027 231 12 = v := ⟨_, rfl⟩
              have x5042 := HI.eqJ hI5028 (b := 12) (hv5041)
              obtain ⟨v5043, hv5043⟩ : ∃ v, gI g5027 231 14 = v := ⟨_, rfl⟩
              have tv5043 := congrArg Int32.toInt hv5043
              obtain ⟨v5045, hv5045⟩ : ∃ v, gI g5027 231 17 = v := ⟨_, rfl⟩
              have rv5045 := RgF.at hI5028.2.1 (p := 231) (b := 17) rfl
              rw [hv5045] at rv5045
              dsimp only at rv5045
              have tv5045 := congrArg Int32.toInt hv5045
              obtain ⟨v5047, hv5047⟩ : ∃ v, gI g5027 231 23 = v := ⟨_, rfl⟩
              have rv5047 := RgF.at hI5028.2.1 (p := 231) (b := 23) rfl
              rw [hv5047] at rv5047
              dsimp only at rv5047
              have tv5047 := congrArg Int32.toInt hv5047
              obtain ⟨c5049, c5050, c5051, c5052, c5053, c5054, c5055, c5056, c5057, c5058⟩ := hr5031.2
              refine At.enter rfl ?_
              refine r_goto ?_
              refine At.enter rfl ?_
              refine r_istore_n _ rfl ?_
              refine r_goto ?_
              have w5060 := tw_s x4831.toInt
              have w5061 := bw_s x4833.toInt
              have w5062 := tw_s v5030.toInt
              have w5063 := bw_s v5043.toInt
              have y5072 := c5057
              unfold PRG at y5072
              have bv5073 := q_bnd v5043
              exact ih4839 (5 * (400 - v5035.toInt) + tw (v5030.toInt) + 10 * bw (v5043.toInt)) _ _ ⟨v5030, v5035, v5043, by first | rfl | omega, hI5028, hF5032, hv5035, hv5043, (w_p1 (by decide) (Or.inr rfl) e4842), (w_p1 (by decide) (Or.inr rfl) e4843), (w_e1 _ _ _), by omega, by omega, by omega, by omega, by omega, by omega, by omega, by omega, c5053, c5056, c5058.1, (fun c0 b hC h13 h => MTP.base c5058.2.1 ((hF4836.2.1 236 (by decide))) ((hF4836.1 231 8 (by decide))) c0 b hC ((q4856 c0 b hC h13 h).tt (by omega))), (fun h14 c0 b K hB h => MGT_base c5058.2.2 ((hF4836.2.1 236 (by decide))) ((hF4836.1 231 8 (by decide))) h14 c0 b K hB (CSG_tt (q4857 (show (gI g4834 231 14).toInt = 0 from by omega) c0 b K hB h) (by omega)))⟩ ⟨by omega, by omega⟩
          · have c4960_ : x4831.toInt = 1 := en_i_ne_f c4960
            refine At.enter rfl ?_
            refine r_aload_n e4842 ?_
            have y5082 := (q4854 (by omega)).1
            refine r_callV 52 rfl [.ref 231] [] (Nat.le_of_ble_eq_true rfl) rfl (T_X11_readPart_231 _ hI4835 (gI g0 231 17).toInt (pE g0 238) (pE g0 239) (by refine ⟨?_, ?_, ?_, ?_⟩ <;> omega) (by omega) (by omega) q4853 (PT.eq (q4854 (by omega)).2 (by omega)) q4855) ?_
            rintro _ _ ⟨g5083, rfl, hI5084, hF5085, v5086, rfl, hr5087⟩
            refine At.sti ?_
            have hF5088 := Fr.tr hF4836 hF5085 rfl rfl
            have x5090 := HI.eqI hI5084 (p := 231) (b := 8) ((((hF5085.1 231 8 mf_X11_readPart_231_231_8).trans (hF4836.1 231 8 (by decide))).trans hv1))
            obtain ⟨v5091, hv5091⟩ : ∃ v, gI g5083 231 9 = v := ⟨_, rfl⟩
            have rv5091 := RgF.at hI5084.2.1 (p := 231) (b := 9) rfl
            rw [hv5091] at rv5091
            dsimp only at rv5091
            have tv5091 := congrArg Int32.toInt hv5091
            obtain ⟨v5093, hv5093⟩ : ∃ v, gI g5083 231 10 = v := ⟨_, rfl⟩
            have rv5093 := RgF.at hI5084.2.1 (p := 231) (b := 10) rfl
            rw [hv5093] at rv5093
            dsimp only at rv5093
            have tv5093 := congrArg Int32.toInt hv5093
            obtain ⟨v5095, hv5095⟩ : ∃ v, gI g5083 231 11 = v := ⟨_, rfl⟩
            have tv5095 := congrArg Int32.toInt hv5095
            obtain ⟨v5097, hv5097⟩ : ∃ v, gJ g5083 231 12 = v := ⟨_, rfl⟩
            have x5098 := HI.eqJ hI5084 (b := 12) (hv5097)
            obtain ⟨v5099, hv5099⟩ : ∃ v, gI g5083 231 14 = v := ⟨_, rfl⟩
            have tv5099 := congrArg Int32.toInt hv5099
            obtain ⟨v5101, hv5101⟩ : ∃ v, gI g5083 231 17 = v := ⟨_, rfl⟩
            have rv5101 := RgF.at hI5084.2.1 (p := 231) (b := 17) rfl
            rw [hv5101] at rv5101
            dsimp only at rv5101
            have tv5101 := congrArg Int32.toInt hv5101
            obtain ⟨v5103, hv5103⟩ : ∃ v, gI g5083 231 23 = v := ⟨_, rfl⟩
            have rv5103 := RgF.at hI5084.2.1 (p := 231) (b := 23) rfl
            rw [hv5103] at rv5103
            dsimp only at rv5103
            have tv5103 := congrArg Int32.toInt hv5103
            obtain ⟨c5105, c5106, c5107, c5108, c5109, c5110, c5111, c5112, c5113, c5114⟩ := hr5087.2
            refine At.enter rfl ?_
            refine r_goto ?_
            refine At.enter rfl ?_
            refine r_istore_n _ rfl ?_
            refine r_goto ?_
            have w5116 := tw_s x4831.toInt
            have w5117 := bw_s x4833.toInt
            have w5118 := tw_s v5086.toInt
            have w5119 := bw_s v5099.toInt
            have y5128 := c5113
            unfold PRG at y5128
            have bv5129 := q_bnd v5099
            exact ih4839 (5 * (400 - v5091.toInt) + tw (v5086.toInt) + 10 * bw (v5099.toInt)) _ _ ⟨v5086, v5091, v5099, by first | rfl | omega, hI5084, hF5088, hv5091, hv5099, (w_p1 (by decide) (Or.inr rfl) e4842), (w_p1 (by decide) (Or.inr rfl) e4843), (w_e1 _ _ _), by omega, by omega, by omega, by omega, by omega, by omega, by omega, by omega, c5109, c5112, c5114.1, (fun c0 b hC h13 h => MTP.base c5114.2.1 ((hF4836.2.1 236 (by decide))) ((hF4836.1 231 8 (by decide))) c0 b trivial ((q4856 c0 b hC h13 h).tt (by omega))), (fun h14 c0 b K hB h => MGT_base c5114.2.2 ((hF4836.2.1 236 (by decide))) ((hF4836.1 231 8 (by decide))) h14 c0 b K trivial (CSG_tt (q4857 (show (gI g4834 231 14).toInt = 0 from by omega) c0 b K hB h) (by omega)))⟩ ⟨by omega, by omega⟩
        · have c4959_ : x4831.toInt = 0 := en_k_ne_f c4959
          refine At.enter rfl ?_
          refine r_aload_n e4842 ?_
          have y5138 := (q4854 (by omega)).1
          refine r_callV 40 rfl [.ref 231] [] (Nat.le_of_ble_eq_true rfl) rfl (T_X11_readPlain_231 _ hI4835 (gI g0 231 17).toInt (pE g0 238) (pE g0 239) (by refine ⟨?_, ?_, ?_, ?_⟩ <;> omega) (by omega) (by omega) q4853 (PT.eq (q4854 (by omega)).2 (by omega)) q4855) ?_
          rintro _ _ ⟨g5139, rfl, hI5140, hF5141, v5142, rfl, hr5143⟩
          refine At.sti ?_
          have hF5144 := Fr.tr hF4836 hF5141 rfl rfl
          have x5146 := HI.eqI hI5140 (p := 231) (b := 8) ((((hF5141.1 231 8 mf_X11_readPlain_231_231_8).trans (hF4836.1 231 8 (by decide))).trans hv1))
          obtain ⟨v5147, hv5147⟩ : ∃ v, gI g5139 231 9 = v := ⟨_, rfl⟩
          have rv5147 := RgF.at hI5140.2.1 (p := 231) (b := 9) rfl
          rw [hv5147] at rv5147
          dsimp only at rv5147
          have tv5147 := congrArg Int32.toInt hv5147
          obtain ⟨v5149, hv5149⟩ : ∃ v, gI g5139 231 10 = v := ⟨_, rfl⟩
          have rv5149 := RgF.at hI5140.2.1 (p := 231) (b := 10) rfl
          rw [hv5149] at rv5149
          dsimp only at rv5149
          have tv5149 := congrArg Int32.toInt hv5149
          obtain ⟨v5151, hv5151⟩ : ∃ v, gI g5139 231 11 = v := ⟨_, rfl⟩
          have tv5151 := congrArg Int32.toInt hv5151
          obtain ⟨v5153, hv5153⟩ : ∃ v, gJ g5139 231 12 = v := ⟨_, rfl⟩
          have x5154 := HI.eqJ hI5140 (b := 12) (hv5153)
          obtain ⟨v5155, hv5155⟩ : ∃ v, gI g5139 231 14 = v := ⟨_, rfl⟩
          have tv5155 := congrArg Int32.toInt hv5155
          obtain ⟨v5157, hv5157⟩ : ∃ v, gI g5139 231 17 = v := ⟨_, rfl⟩
          have rv5157 := RgF.at hI5140.2.1 (p := 231) (b := 17) rfl
          rw [hv5157] at rv5157
          dsimp only at rv5157
          have tv5157 := congrArg Int32.toInt hv5157
          obtain ⟨v5159, hv5159⟩ : ∃ v, gI g5139 231 23 = v := ⟨_, rfl⟩
          have rv5159 := RgF.at hI5140.2.1 (p := 231) (b := 23) rfl
          rw [hv5159] at rv5159
          dsimp only at rv5159
          have tv5159 := congrArg Int32.toInt hv5159
          obtain ⟨c5161, c5162, c5163, c5164, c5165, c5166, c5167, c5168, c5169, c5170⟩ := hr5143.2
          refine At.enter rfl ?_
          refine r_goto ?_
          refine At.enter rfl ?_
          refine r_istore_n _ rfl ?_
          refine r_goto ?_
          have w5172 := tw_s x4831.toInt
          have w5173 := bw_s x4833.toInt
          have w5174 := tw_s v5142.toInt
          have w5175 := bw_s v5155.toInt
          have y5184 := c5169
          unfold PRG at y5184
          have bv5185 := q_bnd v5155
          exact ih4839 (5 * (400 - v5147.toInt) + tw (v5142.toInt) + 10 * bw (v5155.toInt)) _ _ ⟨v5142, v5147, v5155, by first | rfl | omega, hI5140, hF5144, hv5147, hv5155, (w_p1 (by decide) (Or.inr rfl) e4842), (w_p1 (by decide) (Or.inr rfl) e4843), (w_e1 _ _ _), by omega, by omega, by omega, by omega, by omega, by omega, by omega, by omega, c5165, c5168, c5170.1, (fun c0 b hC h13 h => MTP.base c5170.2.1 ((hF4836.2.1 236 (by decide))) ((hF4836.1 231 8 (by decide))) c0 b trivial ((q4856 c0 b hC h13 h).tt (by omega))), (fun h14 c0 b K hB h => MGT_base c5170.2.2 ((hF4836.2.1 236 (by decide))) ((hF4836.1 231 8 (by decide))) h14 c0 b K trivial (CSG_tt (q4857 (show (gI g4834 231 14).toInt = 0 from by omega) c0 b K hB h) (by omega)))⟩ ⟨by omega, by omega⟩
  · have c4107_ : a1.toInt ≠ 0 := en_k_eq_f c4107
    refine At.enter rfl ?_
    refine r_iconst 0 rfl ?_
    refine r_goto ?_
    refine At.enter rfl ?_
    refine r_istore_n ([(2, .int 0), (0, .ref 231), (1, .int a1)]) rfl ?_
    refine Ar.fall 20 rfl ?_
    have z_5977 : (0 : Int32).toInt = 0 := rfl
    have x5978 := HI.eqI hI4105 (p := 231) (b := 8) ((((gI_sI_ne (by decide)).trans (gI_sI_ne (by decide))).trans hv1))
    have x5979 := HI.eqI hI4105 (p := 231) (b := 9) ((((gI_sI_ne (by decide)).trans (gI_sI_ne (by decide))).trans hv2))
    have x5980 := HI.eqI hI4105 (p := 231) (b := 10) ((((gI_sI_ne (by decide)).trans (gI_sI_ne (by decide))).trans hv3))
    have x5981 := HI.eqI hI4105 (p := 231) (b := 11) ((((gI_sI_ne (by decide)).trans (gI_sI_ne (by decide))).trans hv4))
    have x5982 := HI.eqJ hI4105 (b := 12) ((((gJ_sI_ne (by decide)).trans (gJ_sI_ne (by decide))).trans hv5))
    have x5983 := HI.eqI hI4105 (p := 231) (b := 14) ((((gI_sI_ne (by decide)).trans (gI_sI_ne (by decide))).trans hv6))
    have x5984 := HI.eqI hI4105 (p := 231) (b := 17) ((((gI_sI_ne (by decide)).trans (gI_sI_ne (by decide))).trans hv7))
    have x5985 := HI.eqI hI4105 (p := 231) (b := 23) (((gI_sI_ne (by decide)).trans (gI_sI_eq hI0.1 kx_231 rfl _)))
    have x5990 := HI.eqI hI4105 (p := 231) (b := 24) ((gI_sI_eq hI4103.1 kx_231 rfl _))
    refine w_loopI (fun n_ l_ g_ => ∃ x5950 : Int32, ∃ x5951 : Int32, ∃ x5952 : Int32, n_ = 5 * (400 - x5951.toInt) + tw (x5950.toInt) + 10 * bw (x5952.toInt) ∧ HI g_ ∧ Fr F_X11_readExpression_231 A_X11_readExpression_231 g0 g_ ∧ gI g_ 231 9 = x5951 ∧ gI g_ 231 14 = x5952 ∧ en_get 0 l_ = some (.ref 231) ∧ en_get 1 l_ = some (.int a1) ∧ en_get 2 l_ = some (.int x5950) ∧ (0 ≤ x5950.toInt ∧ x5950.toInt ≤ 4) ∧ (0 ≤ x5951.toInt ∧ x5951.toInt ≤ 400) ∧ ((gI g_ 231 9).toInt ≤ (gI g_ 231 10).toInt) ∧ ((gI g_ 231 10).toInt ≤ (gI g_ 231 8).toInt) ∧ (0 ≤ (gI g_ 231 11).toInt) ∧ ((gI g_ 231 11).toInt ≤ 3 * ((gI g_ 231 10).toInt - (gI g_ 231 9).toInt)) ∧ ((gI g_ 231 17).toInt + (gI g_ 231 23).toInt ≤ 400) ∧ ((gI g0 231 9).toInt ≤ (gI g_ 231 9).toInt) ∧ (W26 g_) ∧ (TURN g_ (gI g0 231 17).toInt x5950.toInt (pE g0 238) (pE g0 239)) ∧ (TKM g_) ∧ (MXP g0 g_ a1.toInt x5950.toInt) ∧ (MXG g0 g_ a1.toInt x5950.toInt)) ?_ (5 * (400 - v2.toInt) + tw (0) + 10 * bw (v6.toInt)) ⟨0, v2, v6, by first | rfl | omega, hI4105, hF4106, (((gI_sI_ne (by decide)).trans (gI_sI_ne (by decide))).trans hv2), (((gI_sI_ne (by decide)).trans (gI_sI_ne (by decide))).trans hv6), rfl, rfl, rfl, by decide, by omega, by omega, by omega, by omega, by omega, by omega, by omega, (W26.cong hW hI4105 (((gI_sI_ne (by decide)).trans (gI_sI_ne (by decide)))) (((gI_sI_ne (by decide)).trans (gI_sI_ne (by decide)))) (((gI_sI_ne (by decide)).trans (gI_sI_ne (by decide)))) (((gJ_sI_ne (by decide)).trans (gJ_sI_ne (by decide))))), (fun _ => ⟨by omega, PT.start hI4105 (((gA_sI).trans (gA_sI))) (((gA_sI).trans (gA_sI))) (((gI_sI_ne (by decide)).trans (gI_sI_ne (by decide)))) (by show (gI _ 231 23).toInt = 0; omega) (by show 0 ≤ (gI _ 231 17).toInt; omega) (by omega)⟩), (TKM.c hK (((gA_sI).trans (gA_sI))) (((gI_sI_ne (by decide)).trans (gI_sI_ne (by decide)))) (((gI_sI_ne (by decide)).trans (gI_sI_ne (by decide)))) (((gI_sI_ne (by decide)).trans (gI_sI_ne (by decide)))) (((gI_sI_ne (by decide)).trans (gI_sI_ne (by decide)))) (((gJ_sI_ne (by decide)).trans (gJ_sI_ne (by decide))))), (fun c0 b hC h13 h => CSM.start (by unfold HBT at hC; omega) (show (gI _ 231 14).toInt = 0 from by omega) ((pI.c (((gI_sI_ne (by decide)).trans (gI_sI_ne (by decide))))).trans h13) (show (gI _ 231 23).toInt = 0 from by omega) (show (gI _ 231 24).toInt = 0 from by omega) (by rw [pI.c (((gI_sI_ne (by decide)).trans (gI_sI_ne (by decide)))), pI.c (((gI_sI_ne (by decide)).trans (gI_sI_ne (by decide)))), pI.c (((gI_sI_ne (by decide)).trans (gI_sI_ne (by decide))))]; exact h)), (fun h14 c0 b K hB h => CSG_tt (CSG_start hB (show (gI _ 231 23).toInt = 0 from by omega) (show 0 ≤ (gI _ 231 17).toInt from by omega) (RGM_eq h (SMG_mk (((gA_sI).trans (gA_sI))) (((gA_sI).trans (gA_sI))) (((gI_sI_ne (by decide)).trans (gI_sI_ne (by decide))))) (pI.c (((gI_sI_ne (by decide)).trans (gI_sI_ne (by decide))))))) (by unfold HBG at hB; split <;> omega))⟩
    rintro n5957 l5956 g5953 ⟨x5950, x5951, x5952, hm5992, hI5954, hF5955, e5959, e5960, e5961, e5962, e5963, r5964, r5965, q5966, q5967, q5968, q5969, q5970, q5971, q5972, q5973, q5974, q5975, q5976⟩ ih5958
    have tv5993 := congrArg Int32.toInt e5959
    have tv5994 := congrArg Int32.toInt e5960
    have x5995 := HI.eqI hI5954 (p := 231) (b := 8) (((hF5955.1 231 8 (by decide)).trans hv1))
    have x5996 := HI.eqI hI5954 (p := 231) (b := 9) (e5959)
    obtain ⟨v5997, hv5997⟩ : ∃ v, gI g5953 231 10 = v := ⟨_, rfl⟩
    have rv5997 := RgF.at hI5954.2.1 (p := 231) (b := 10) rfl
    rw [hv5997] at rv5997
    dsimp only at rv5997
    have tv5997 := congrArg Int32.toInt hv5997
    obtain ⟨v5999, hv5999⟩ : ∃ v, gI g5953 231 11 = v := ⟨_, rfl⟩
    have tv5999 := congrArg Int32.toInt hv5999
    obtain ⟨v6001, hv6001⟩ : ∃ v, gJ g5953 231 12 = v := ⟨_, rfl⟩
    have x6002 := HI.eqJ hI5954 (b := 12) (hv6001)
    have x6003 := HI.eqI hI5954 (p := 231) (b := 14) (e5960)
    obtain ⟨v6004, hv6004⟩ : ∃ v, gI g5953 231 17 = v := ⟨_, rfl⟩
    have rv6004 := RgF.at hI5954.2.1 (p := 231) (b := 17) rfl
    rw [hv6004] at rv6004
    dsimp only at rv6004
    have tv6004 := congrArg Int32.toInt hv6004
    obtain ⟨v6006, hv6006⟩ : ∃ v, gI g5953 231 23 = v := ⟨_, rfl⟩
    have rv6006 := RgF.at hI5954.2.1 (p := 231) (b := 23) rfl
    rw [hv6006] at rv6006
    dsimp only at rv6006
    have tv6006 := congrArg Int32.toInt hv6006
    refine At.enter rfl ?_
    refine r_aload_n e5961 ?_
    refine q_getI (Sh.int hI5954.1 kx_231 rfl) x5952 e5960 ?_
    refine r_ifs 27 rfl (fun c6008 => ?_) (fun c6008 => ?_)
    · have c6008_ : x5952.toInt ≠ 0 := en_k_ne_t c6008
      refine At.enter rfl ?_
      refine r_aload_n e5961 ?_
      refine r_iconst 1 rfl ?_
      have zv6011 : (1 : Int32).toInt = 1 := rfl
      refine r_callV 81 rfl [.ref 231, .int 1] [] (Nat.le_of_ble_eq_true rfl) rfl (T_X11_settle_231 _ hI5954 1 (by decide) (by omega)) ?_
      rintro _ _ ⟨g6012, rfl, hI6013, hF6014, rfl, hr6016⟩
      refine At.stn ?_
      have hF6017 := Fr.tr hF5955 hF6014 rfl rfl
      obtain ⟨sp6019, sq6020, sg6021⟩ := hr6016
      obtain ⟨v6025, hv6025⟩ : ∃ v, gI g6012 231 17 = v := ⟨_, rfl⟩
      have rv6025 := RgF.at hI6013.2.1 (p := 231) (b := 17) rfl
      rw [hv6025] at rv6025
      dsimp only at rv6025
      have tv6025 := congrArg Int32.toInt hv6025
      obtain ⟨v6027, hv6027⟩ : ∃ v, gI g6012 231 23 = v := ⟨_, rfl⟩
      have rv6027 := RgF.at hI6013.2.1 (p := 231) (b := 23) rfl
      rw [hv6027] at rv6027
      dsimp only at rv6027
      have tv6027 := congrArg Int32.toInt hv6027
      have y6029 : (gI _ 231 23).toInt ≤ (gI _ 231 23).toInt := sp6019.1
      have y6030 : (gI _ 231 17).toInt + (gI _ 231 23).toInt ≤ (gI _ 231 17).toInt + (gI _ 231 23).toInt := sp6019.2.1
      refine At.enter rfl ?_
      refine r_vret ?_
      have x6031 := HI.eqI hI6013 (p := 231) (b := 8) ((((hF6014.1 231 8 mf_X11_settle_231_231_8).trans (hF5955.1 231 8 (by decide))).trans hv1))
      have x6032 := HI.eqI hI6013 (p := 231) (b := 9) (((hF6014.1 231 9 mf_X11_settle_231_231_9).trans e5959))
      have x6033 := HI.eqI hI6013 (p := 231) (b := 10) (((hF6014.1 231 10 mf_X11_settle_231_231_10).trans hv5997))
      have x6034 := HI.eqI hI6013 (p := 231) (b := 11) (((hF6014.1 231 11 mf_X11_settle_231_231_11).trans hv5999))
      have x6035 := HI.eqJ hI6013 (b := 12) (((hF6014.2.2 231 12 mf_X11_settle_231_231_12).trans hv6001))
      have x6036 := HI.eqI hI6013 (p := 231) (b := 14) (((hF6014.1 231 14 mf_X11_settle_231_231_14).trans e5960))
      have w266041 := W26.cong q5972 hI6013 ((hF6014.1 231 9 mf_X11_settle_231_231_9)) ((hF6014.1 231 10 mf_X11_settle_231_231_10)) ((hF6014.1 231 11 mf_X11_settle_231_231_11)) ((hF6014.2.2 231 12 mf_X11_settle_231_231_12))
      exact ⟨_, rfl, hI6013, hF6017, rfl, ⟨by omega, by omega, by omega, by omega, w266041, by omega, (fun hbad => False.elim (by omega)), (TKM.c q5974 ((hF6014.2.1 236 ma_X11_settle_231_236)) ((hF6014.1 231 8 mf_X11_settle_231_231_8)) ((hF6014.1 231 9 mf_X11_settle_231_231_9)) ((hF6014.1 231 10 mf_X11_settle_231_231_10)) ((hF6014.1 231 11 mf_X11_settle_231_231_11)) ((hF6014.2.2 231 12 mf_X11_settle_231_231_12))), (fun b hC c0 h13 h => XPM.end_ (q5975 c0 b hC h13 (h (show (gI g0 231 14).toInt = 0 from (by first | exact h2 | omega)))) (fun z => by have z2 : (gI g5953 231 14).toInt = 0 := z; omega) (pI.c ((hF6014.1 231 9 mf_X11_settle_231_231_9))) (pI.c ((hF6014.1 231 13 mf_X11_settle_231_231_13))) (pI.c ((hF6014.1 231 14 mf_X11_settle_231_231_14))) (pI.c ((hF6014.1 231 15 mf_X11_settle_231_231_15))) (pI.c ((hF6014.1 231 20 mf_X11_settle_231_231_20)))), (fun h14 c0 b K hB h => by have hz : (gI _ 231 14).toInt = 0 := h14; exact MG_end (CSG_tt (q5976 (show (gI g5953 231 14).toInt = 0 from by omega) c0 b K hB h) (show _ = (4 : Int) from by omega)) sg6021 rfl sq6020 (pI.c ((hF6014.1 231 9 mf_X11_settle_231_231_9))))⟩⟩
    · have c6008_ : x5952.toInt = 0 := en_k_ne_f c6008
      refine At.enter rfl ?_
      refine r_iload_n e5963 ?_
      refine r_iconst 4 rfl ?_
      refine r_ics 32 rfl (fun c6043 => ?_) (fun c6043 => ?_)
      · have c6043_ : x5950.toInt = 4 := en_i_eq_t c6043
        refine At.enter rfl ?_
        refine r_aload_n e5961 ?_
        refine r_iconst 1 rfl ?_
        have zv6046 : (1 : Int32).toInt = 1 := rfl
        refine r_callV 81 rfl [.ref 231, .int 1] [] (Nat.le_of_ble_eq_true rfl) rfl (T_X11_settle_231 _ hI5954 1 (by decide) (by omega)) ?_
        rintro _ _ ⟨g6047, rfl, hI6048, hF6049, rfl, hr6051⟩
        refine At.stn ?_
        have hF6052 := Fr.tr hF5955 hF6049 rfl rfl
        obtain ⟨sp6054, sq6055, sg6056⟩ := hr6051
        obtain ⟨v6060, hv6060⟩ : ∃ v, gI g6047 231 17 = v := ⟨_, rfl⟩
        have rv6060 := RgF.at hI6048.2.1 (p := 231) (b := 17) rfl
        rw [hv6060] at rv6060
        dsimp only at rv6060
        have tv6060 := congrArg Int32.toInt hv6060
        obtain ⟨v6062, hv6062⟩ : ∃ v, gI g6047 231 23 = v := ⟨_, rfl⟩
        have rv6062 := RgF.at hI6048.2.1 (p := 231) (b := 23) rfl
        rw [hv6062] at rv6062
        dsimp only at rv6062
        have tv6062 := congrArg Int32.toInt hv6062
        have y6064 : (gI _ 231 23).toInt ≤ (gI _ 231 23).toInt := sp6054.1
        have y6065 : (gI _ 231 17).toInt + (gI _ 231 23).toInt ≤ (gI _ 231 17).toInt + (gI _ 231 23).toInt := sp6054.2.1
        refine At.enter rfl ?_
        refine r_vret ?_
        have x6066 := HI.eqI hI6048 (p := 231) (b := 8) ((((hF6049.1 231 8 mf_X11_settle_231_231_8).trans (hF5955.1 231 8 (by decide))).trans hv1))
        have x6067 := HI.eqI hI6048 (p := 231) (b := 9) (((hF6049.1 231 9 mf_X11_settle_231_231_9).trans e5959))
        have x6068 := HI.eqI hI6048 (p := 231) (b := 10) (((hF6049.1 231 10 mf_X11_settle_231_231_10).trans hv5997))
        have x6069 := HI.eqI hI6048 (p := 231) (b := 11) (((hF6049.1 231 11 mf_X11_settle_231_231_11).trans hv5999))
        have x6070 := HI.eqJ hI6048 (b := 12) (((hF6049.2.2 231 12 mf_X11_settle_231_231_12).trans hv6001))
        have x6071 := HI.eqI hI6048 (p := 231) (b := 14) (((hF6049.1 231 14 mf_X11_settle_231_231_14).trans e5960))
        have w266076 := W26.cong q5972 hI6048 ((hF6049.1 231 9 mf_X11_settle_231_231_9)) ((hF6049.1 231 10 mf_X11_settle_231_231_10)) ((hF6049.1 231 11 mf_X11_settle_231_231_11)) ((hF6049.2.2 231 12 mf_X11_settle_231_231_12))
        exact ⟨_, rfl, hI6048, hF6052, rfl, ⟨by omega, by omega, by omega, by omega, w266076, by omega, (fun hbad => ⟨by have y := (q5973 (by omega)).1; omega, (EXPR.of ((q5973 (by omega)).2.2.1 (by omega)) ((q5973 (by omega)).2.2.2.2 (by omega)) sp6054 (by omega) (by show 0 ≤ (gI _ 231 23).toInt; omega) (by show (gI _ 231 17).toInt ≤ 400; omega) rfl rfl rfl).2⟩), (TKM.c q5974 ((hF6049.2.1 236 ma_X11_settle_231_236)) ((hF6049.1 231 8 mf_X11_settle_231_231_8)) ((hF6049.1 231 9 mf_X11_settle_231_231_9)) ((hF6049.1 231 10 mf_X11_settle_231_231_10)) ((hF6049.1 231 11 mf_X11_settle_231_231_11)) ((hF6049.2.2 231 12 mf_X11_settle_231_231_12))), (fun b hC c0 h13 h => XPM.end_ (q5975 c0 b hC h13 (h (show (gI g0 231 14).toInt = 0 from (by first | exact h2 | omega)))) (fun z => by have z2 : (gI g5953 231 14).toInt = 0 := z; omega) (pI.c ((hF6049.1 231 9 mf_X11_settle_231_231_9))) (pI.c ((hF6049.1 231 13 mf_X11_settle_231_231_13))) (pI.c ((hF6049.1 231 14 mf_X11_settle_231_231_14))) (pI.c ((hF6049.1 231 15 mf_X11_settle_231_231_15))) (pI.c ((hF6049.1 231 20 mf_X11_settle_231_231_20)))), (fun h14 c0 b K hB h => by have hz : (gI _ 231 14).toInt = 0 := h14; exact MG_end (CSG_tt (q5976 (show (gI g5953 231 14).toInt = 0 from by omega) c0 b K hB h) (show _ = (4 : Int) from by omega)) sg6056 rfl sq6055 (pI.c ((hF6049.1 231 9 mf_X11_settle_231_231_9))))⟩⟩
      · have c6043_ : x5950.toInt ≠ 4 := en_i_eq_f c6043
        refine At.enter rfl ?_
        refine r_iload_n e5963 ?_
        refine r_ifs 36 rfl (fun c6078 => ?_) (fun c6078 => ?_)
        · have c6078_ : x5950.toInt ≠ 0 := en_k_ne_t c6078
          refine At.enter rfl ?_
          refine r_iload_n e5963 ?_
          refine r_iconst 1 rfl ?_
          refine r_ics 48 rfl (fun c6079 => ?_) (fun c6079 => ?_)
          · have c6079_ : x5950.toInt ≠ 1 := en_i_ne_t c6079
            refine At.enter rfl ?_
            refine r_iload_n e5963 ?_
            refine r_iconst 3 rfl ?_
            refine r_ics 60 rfl (fun c6080 => ?_) (fun c6080 => ?_)
            · have c6080_ : x5950.toInt ≠ 3 := en_i_ne_t c6080
              refine At.enter rfl ?_
              refine r_aload_n e5961 ?_
              have y6089 := (q5973 (by omega)).1
              refine r_callV 72 rfl [.ref 231] [] (Nat.le_of_ble_eq_true rfl) rfl (T_X11_behindTest_231 _ hI5954 (gI g0 231 17).toInt (pE g0 238) (pE g0 239) (by refine ⟨?_, ?_, ?_, ?_⟩ <;> omega) (by omega) (by omega) q5972 (PT.eq (q5973 (by omega)).2 (by omega)) q5974) ?_
              rintro _ _ ⟨g6090, rfl, hI6091, hF6092, v6093, rfl, hr6094⟩
              refine At.sti ?_
              have hF6095 := Fr.tr hF5955 hF6092 rfl rfl
              have x6097 := HI.eqI hI6091 (p := 231) (b := 8) ((((hF6092.1 231 8 mf_X11_behindTest_231_231_8).trans (hF5955.1 231 8 (by decide))).trans hv1))
              obtain ⟨v6098, hv6098⟩ : ∃ v, gI g6090 231 9 = v := ⟨_, rfl⟩
              have rv6098 := RgF.at hI6091.2.1 (p := 231) (b := 9) rfl
              rw [hv6098] at rv6098
              dsimp only at rv6098
              have tv6098 := congrArg Int32.toInt hv6098
              obtain ⟨v6100, hv6100⟩ : ∃ v, gI g6090 231 10 = v := ⟨_, rfl⟩
              have rv6100 := RgF.at hI6091.2.1 (p := 231) (b := 10) rfl
              rw [hv6100] at rv6100
              dsimp only at rv6100
              have tv6100 := congrArg Int32.toInt hv6100
              obtain ⟨v6102, hv6102⟩ : ∃ v, gI g6090 231 11 = v := ⟨_, rfl⟩
              have tv6102 := congrArg Int32.toInt hv6102
              obtain ⟨v6104, hv6104⟩ : ∃ v, gJ g6090 231 12 = v := ⟨_, rfl⟩
              have x6105 := HI.eqJ hI6091 (b := 12) (hv6104)
              obtain ⟨v6106, hv6106⟩ : ∃ v, gI g6090 231 14 = v := ⟨_, rfl⟩
              have tv6106 := congrArg Int32.toInt hv6106
              obtain ⟨v6108, hv6108⟩ : ∃ v, gI g6090 231 17 = v := ⟨_, rfl⟩
              have rv6108 := RgF.at hI6091.2.1 (p := 231) (b := 17) rfl
              rw [hv6108] at rv6108
              dsimp only at rv6108
              have tv6108 := congrArg Int32.toInt hv6108
              obtain ⟨v6110, hv6110⟩ : ∃ v, gI g6090 231 23 = v := ⟨_, rfl⟩
              have rv6110 := RgF.at hI6091.2.1 (p := 231) (b := 23) rfl
              rw [hv6110] at rv6110
              dsimp only at rv6110
              have tv6110 := congrArg Int32.toInt hv6110
              obtain ⟨c6112, c6113, c6114, c6115, c6116, c6117, c6118, c6119, c6120, c6121⟩ := hr6094.2
              refine At.enter rfl ?_
              refine r_istore_n _ rfl ?_
              refine r_goto ?_
              have w6123 := tw_s x5950.toInt
              have w6124 := bw_s x5952.toInt
              have w6125 := tw_s v6093.toInt
              have w6126 := bw_s v6106.toInt
              have y6135 := c6120
              unfold PRG at y6135
              have bv6136 := q_bnd v6106
              exact ih5958 (5 * (400 - v6098.toInt) + tw (v6093.toInt) + 10 * bw (v6106.toInt)) _ _ ⟨v6093, v6098, v6106, by first | rfl | omega, hI6091, hF6095, hv6098, hv6106, (w_p1 (by decide) (Or.inr rfl) e5961), (w_p1 (by decide) (Or.inr rfl) e5962), (w_e1 _ _ _), by omega, by omega, by omega, by omega, by omega, by omega, by omega, by omega, c6116, c6119, c6121.1, (fun c0 b hC h13 h => MTP.base c6121.2.1 ((hF5955.2.1 236 (by decide))) ((hF5955.1 231 8 (by decide))) c0 b trivial ((q5975 c0 b hC h13 h).tt (by omega))), (fun h14 c0 b K hB h => MGT_base c6121.2.2 ((hF5955.2.1 236 (by decide))) ((hF5955.1 231 8 (by decide))) h14 c0 b K trivial (CSG_tt (q5976 (show (gI g5953 231 14).toInt = 0 from by omega) c0 b K hB h) (by omega)))⟩ ⟨by omega, by omega⟩
            · have c6080_ : x5950.toInt = 3 := en_i_ne_f c6080
              refine At.enter rfl ?_
              refine r_aload_n e5961 ?_
              refine r_iload_n e5962 ?_
              have y6145 := (q5973 (by omega)).1
              refine r_callV 65 rfl [.ref 231, .int a1] [] (Nat.le_of_ble_eq_true rfl) rfl (T_X11_behindSum_231 _ hI5954 a1 (by omega) (gI g0 231 17).toInt (pE g0 238) (pE g0 239) (by refine ⟨?_, ?_, ?_, ?_⟩ <;> omega) (by omega) (by omega) q5972 (PT.eq (q5973 (by omega)).2 (by omega)) q5974) ?_
              rintro _ _ ⟨g6146, rfl, hI6147, hF6148, v6149, rfl, hr6150⟩
              refine At.sti ?_
              have hF6151 := Fr.tr hF5955 hF6148 rfl rfl
              have x6153 := HI.eqI hI6147 (p := 231) (b := 8) ((((hF6148.1 231 8 mf_X11_behindSum_231_231_8).trans (hF5955.1 231 8 (by decide))).trans hv1))
              obtain ⟨v6154, hv6154⟩ : ∃ v, gI g6146 231 9 = v := ⟨_, rfl⟩
              have rv6154 := RgF.at hI6147.2.1 (p := 231) (b := 9) rfl
              rw [hv6154] at rv6154
              dsimp only at rv6154
              have tv6154 := congrArg Int32.toInt hv6154
              obtain ⟨v6156, hv6156⟩ : ∃ v, gI g6146 231 10 = v := ⟨_, rfl⟩
              have rv6156 := RgF.at hI6147.2.1 (p := 231) (b := 10) rfl
              rw [hv6156] at rv6156
              dsimp only at rv6156
              have tv6156 := congrArg Int32.toInt hv6156
              obtain ⟨v6158, hv6158⟩ : ∃ v, gI g6146 231 11 = v := ⟨_, rfl⟩
              have tv6158 := congrArg Int32.toInt hv6158
              obtain ⟨v6160, hv6160⟩ : ∃ v, gJ g6146 231 12 = v := ⟨_, rfl⟩
              have x6161 := HI.eqJ hI6147 (b := 12) (hv6160)
              obtain ⟨v6162, hv6162⟩ : ∃ v, gI g6146 231 14 = v := ⟨_, rfl⟩
              have tv6162 := congrArg Int32.toInt hv6162
              obtain ⟨v6164, hv6164⟩ : ∃ v, gI g6146 231 17 = v := ⟨_, rfl⟩
              have rv6164 := RgF.at hI6147.2.1 (p := 231) (b := 17) rfl
              rw [hv6164] at rv6164
              dsimp only at rv6164
              have tv6164 := congrArg Int32.toInt hv6164
              obtain ⟨v6166, hv6166⟩ : ∃ v, gI g6146 231 23 = v := ⟨_, rfl⟩
              have rv6166 := RgF.at hI6147.2.1 (p := 231) (b := 23) rfl
              rw [hv6166] at rv6166
              dsimp only at rv6166
              have tv6166 := congrArg Int32.toInt hv6166
              obtain ⟨c6168, c6169, c6170, c6171, c6172, c6173, c6174, c6175, c6176, c6177⟩ := hr6150.2
              refine At.enter rfl ?_
              refine r_goto ?_
              refine At.enter rfl ?_
              refine r_istore_n _ rfl ?_
              refine r_goto ?_
              have w6179 := tw_s x5950.toInt
              have w6180 := bw_s x5952.toInt
              have w6181 := tw_s v6149.toInt
              have w6182 := bw_s v6162.toInt
              have y6191 := c6176
              unfold PRG at y6191
              have bv6192 := q_bnd v6162
              exact ih5958 (5 * (400 - v6154.toInt) + tw (v6149.toInt) + 10 * bw (v6162.toInt)) _ _ ⟨v6149, v6154, v6162, by first | rfl | omega, hI6147, hF6151, hv6154, hv6162, (w_p1 (by decide) (Or.inr rfl) e5961), (w_p1 (by decide) (Or.inr rfl) e5962), (w_e1 _ _ _), by omega, by omega, by omega, by omega, by omega, by omega, by omega, by omega, c6172, c6175, c6177.1, (fun c0 b hC h13 h => MTP.base c6177.2.1 ((hF5955.2.1 236 (by decide))) ((hF5955.1 231 8 (by decide))) c0 b hC ((q5975 c0 b hC h13 h).tt (by omega))), (fun h14 c0 b K hB h => MGT_base c6177.2.2 ((hF5955.2.1 236 (by decide))) ((hF5955.1 231 8 (by decide))) h14 c0 b K hB (CSG_tt (q5976 (show (gI g5953 231 14).toInt = 0 from by omega) c0 b K hB h) (by omega)))⟩ ⟨by omega, by omega⟩
          · have c6079_ : x5950.toInt = 1 := en_i_ne_f c6079
            refine At.enter rfl ?_
            refine r_aload_n e5961 ?_
            have y6201 := (q5973 (by omega)).1
            refine r_callV 52 rfl [.ref 231] [] (Nat.le_of_ble_eq_true rfl) rfl (T_X11_readPart_231 _ hI5954 (gI g0 231 17).toInt (pE g0 238) (pE g0 239) (by refine ⟨?_, ?_, ?_, ?_⟩ <;> omega) (by omega) (by omega) q5972 (PT.eq (q5973 (by omega)).2 (by omega)) q5974) ?_
            rintro _ _ ⟨g6202, rfl, hI6203, hF6204, v6205, rfl, hr6206⟩
            refine At.sti ?_
            have hF6207 := Fr.tr hF5955 hF6204 rfl rfl
            have x6209 := HI.eqI hI6203 (p := 231) (b := 8) ((((hF6204.1 231 8 mf_X11_readPart_231_231_8).trans (hF5955.1 231 8 (by decide))).trans hv1))
            obtain ⟨v6210, hv6210⟩ : ∃ v, gI g6202 231 9 = v := ⟨_, rfl⟩
            have rv6210 := RgF.at hI6203.2.1 (p := 231) (b := 9) rfl
            rw [hv6210] at rv6210
            dsimp only at rv6210
            have tv6210 := congrArg Int32.toInt hv6210
            obtain ⟨v6212, hv6212⟩ : ∃ v, gI g6202 231 10 = v := ⟨_, rfl⟩
            have rv6212 := RgF.at hI6203.2.1 (p := 231) (b := 10) rfl
            rw [hv6212] at rv6212
            dsimp only at rv6212
            have tv6212 := congrArg Int32.toInt hv6212
            obtain ⟨v6214, hv6214⟩ : ∃ v, gI g6202 231 11 = v := ⟨_, rfl⟩
            have tv6214 := congrArg Int32.toInt hv6214
            obtain ⟨v6216, hv6216⟩ : ∃ v, gJ g6202 231 12 = v := ⟨_, rfl⟩
            have x6217 := HI.eqJ hI6203 (b := 12) (hv6216)
            obtain ⟨v6218, hv6218⟩ : ∃ v, gI g6202 231 14 = v := ⟨_, rfl⟩
            have tv6218 := congrArg Int32.toInt hv6218
            obtain ⟨v6220, hv6220⟩ : ∃ v, gI g6202 231 17 = v := ⟨_, rfl⟩
            have rv6220 := RgF.at hI6203.2.1 (p := 231) (b := 17) rfl
            rw [hv6220] at rv6220
            dsimp only at rv6220
            have tv6220 := congrArg Int32.toInt hv6220
            obtain ⟨v6222, hv6222⟩ : ∃ v, gI g6202 231 23 = v := ⟨_, rfl⟩
            have rv6222 := RgF.at hI6203.2.1 (p := 231) (b := 23) rfl
            rw [hv6222] at rv6222
            dsimp only at rv6222
            have tv6222 := congrArg Int32.toInt hv6222
            obtain ⟨c6224, c6225, c6226, c6227, c6228, c6229, c6230, c6231, c6232, c6233⟩ := hr6206.2
            refine At.enter rfl ?_
            refine r_goto ?_
            refine At.enter rfl ?_
            refine r_istore_n _ rfl ?_
            refine r_goto ?_
            have w6235 := tw_s x5950.toInt
            have w6236 := bw_s x5952.toInt
            have w6237 := tw_s v6205.toInt
            have w6238 := bw_s v6218.toInt
            have y6247 := c6232
            unfold PRG at y6247
            have bv6248 := q_bnd v6218
            exact ih5958 (5 * (400 - v6210.toInt) + tw (v6205.toInt) + 10 * bw (v6218.toInt)) _ _ ⟨v6205, v6210, v6218, by first | rfl | omega, hI6203, hF6207, hv6210, hv6218, (w_p1 (by decide) (Or.inr rfl) e5961), (w_p1 (by decide) (Or.inr rfl) e5962), (w_e1 _ _ _), by omega, by omega, by omega, by omega, by omega, by omega, by omega, by omega, c6228, c6231, c6233.1, (fun c0 b hC h13 h => MTP.base c6233.2.1 ((hF5955.2.1 236 (by decide))) ((hF5955.1 231 8 (by decide))) c0 b trivial ((q5975 c0 b hC h13 h).tt (by omega))), (fun h14 c0 b K hB h => MGT_base c6233.2.2 ((hF5955.2.1 236 (by decide))) ((hF5955.1 231 8 (by decide))) h14 c0 b K trivial (CSG_tt (q5976 (show (gI g5953 231 14).toInt = 0 from by omega) c0 b K hB h) (by omega)))⟩ ⟨by omega, by omega⟩
        · have c6078_ : x5950.toInt = 0 := en_k_ne_f c6078
          refine At.enter rfl ?_
          refine r_aload_n e5961 ?_
          have y6257 := (q5973 (by omega)).1
          refine r_callV 40 rfl [.ref 231] [] (Nat.le_of_ble_eq_true rfl) rfl (T_X11_readPlain_231 _ hI5954 (gI g0 231 17).toInt (pE g0 238) (pE g0 239) (by refine ⟨?_, ?_, ?_, ?_⟩ <;> omega) (by omega) (by omega) q5972 (PT.eq (q5973 (by omega)).2 (by omega)) q5974) ?_
          rintro _ _ ⟨g6258, rfl, hI6259, hF6260, v6261, rfl, hr6262⟩
          refine At.sti ?_
          have hF6263 := Fr.tr hF5955 hF6260 rfl rfl
          have x6265 := HI.eqI hI6259 (p := 231) (b := 8) ((((hF6260.1 231 8 mf_X11_readPlain_231_231_8).trans (hF5955.1 231 8 (by decide))).trans hv1))
          obtain ⟨v6266, hv6266⟩ : ∃ v, gI g6258 231 9 = v := ⟨_, rfl⟩
          have rv6266 := RgF.at hI6259.2.1 (p := 231) (b := 9) rfl
          rw [hv6266] at rv6266
          dsimp only at rv6266
          have tv6266 := congrArg Int32.toInt hv6266
          obtain ⟨v6268, hv6268⟩ : ∃ v, gI g6258 231 10 = v := ⟨_, rfl⟩
          have rv6268 := RgF.at hI6259.2.1 (p := 231) (b := 10) rfl
          rw [hv6268] at rv6268
          dsimp only at rv6268
          have tv6268 := congrArg Int32.toInt hv6268
          obtain ⟨v6270, hv6270⟩ : ∃ v, gI g6258 231 11 = v := ⟨_, rfl⟩
          have tv6270 := congrArg Int32.toInt hv6270
          obtain ⟨v6272, hv6272⟩ : ∃ v, gJ g6258 231 12 = v := ⟨_, rfl⟩
          have x6273 := HI.eqJ hI6259 (b := 12) (hv6272)
          obtain ⟨v6274, hv6274⟩ : ∃ v, gI g6258 231 14 = v := ⟨_, rfl⟩
          have tv6274 := congrArg Int32.toInt hv6274
          obtain ⟨v6276, hv6276⟩ : ∃ v, gI g6258 231 17 = v := ⟨_, rfl⟩
          have rv6276 := RgF.at hI6259.2.1 (p := 231) (b := 17) rfl
          rw [hv6276] at rv6276
          dsimp only at rv6276
          have tv6276 := congrArg Int32.toInt hv6276
          obtain ⟨v6278, hv6278⟩ : ∃ v, gI g6258 231 23 = v := ⟨_, rfl⟩
          have rv6278 := RgF.at hI6259.2.1 (p := 231) (b := 23) rfl
          rw [hv6278] at rv6278
          dsimp only at rv6278
          have tv6278 := congrArg Int32.toInt hv6278
          obtain ⟨c6280, c6281, c6282, c6283, c6284, c6285, c6286, c6287, c6288, c6289⟩ := hr6262.2
          refine At.enter rfl ?_
          refine r_goto ?_
          refine At.enter rfl ?_
          refine r_istore_n _ rfl ?_
          refine r_goto ?_
          have w6291 := tw_s x5950.toInt
          have w6292 := bw_s x5952.toInt
          have w6293 := tw_s v6261.toInt
          have w6294 := bw_s v6274.toInt
          have y6303 := c6288
          unfold PRG at y6303
          have bv6304 := q_bnd v6274
          exact ih5958 (5 * (400 - v6266.toInt) + tw (v6261.toInt) + 10 * bw (v6274.toInt)) _ _ ⟨v6261, v6266, v6274, by first | rfl | omega, hI6259, hF6263, hv6266, hv6274, (w_p1 (by decide) (Or.inr rfl) e5961), (w_p1 (by decide) (Or.inr rfl) e5962), (w_e1 _ _ _), by omega, by omega, by omega, by omega, by omega, by omega, by omega, by omega, c6284, c6287, c6289.1, (fun c0 b hC h13 h => MTP.base c6289.2.1 ((hF5955.2.1 236 (by decide))) ((hF5955.1 231 8 (by decide))) c0 b trivial ((q5975 c0 b hC h13 h).tt (by omega))), (fun h14 c0 b K hB h => MGT_base c6289.2.2 ((hF5955.2.1 236 (by decide))) ((hF5955.1 231 8 (by decide))) h14 c0 b K trivial (CSG_tt (q5976 (show (gI g5953 231 14).toInt = 0 from by omega) c0 b K hB h) (by omega)))⟩ ⟨by omega, by omega⟩
