def F_X11_law_231 : List (Nat × Nat) := [(231, 0), (231, 1), (231, 8), (231, 9), (231, 10), (231, 11), (231, 12), (231, 13), (231, 14), (231, 15), (231, 17), (231, 20), (231, 23), (231, 24)]
def A_X11_law_231 : List Nat := [232, 233, 237, 238, 239, 240, 241]
theorem mf_X11_readClause_231_231_8 : memF F_X11_readClause_231 231 8 = false := by decide
theorem mf_X11_tell_231_231_13 : memF F_X11_tell_231 231 13 = false := by decide
theorem ma_X11_must_231_233 : memA A_X11_must_231 233 = false := by decide
theorem ma_X11_isSign_231_233 : memA A_X11_isSign_231 233 = false := by decide
theorem ma_X11_isSign_231_237 : memA A_X11_isSign_231 237 = false := by decide
set_option maxRecDepth 100000 in
set_option maxHeartbeats 4000000 in
theorem T_X11_law_231 (d : Nat) {N : Nat} {g0 : List en_E} (hI0 : HI g0) : Ev (d + 9) 210 [.ref 231] (g0, N) (fun w h' => ∃ g', h' = (g', N) ∧ HI g' ∧ Fr F_X11_law_231 A_X11_law_231 g0 g' ∧ ∃ r : Int32, w = some (.int r) ∧ ((-6) ≤ r.toInt ∧ r.toInt ≤ 5) ∧ ((∀ i : Int, 0 ≤ i → i < 110 → i ≠ 2 → eA g' 233 i = eA g0 233 i) ∧ (gI g' 231 8).toInt = 0 ∧ LWM g0 g' r.toInt ∧ LWG g0 g' r.toInt ∧ ROWE g0 g' ∧ (r.toInt < 0 → ∀ i : Int, 110 ≤ i → i < 5510 → eA g' 233 i = eA g0 233 i))) := by
  have hF0 : Fr F_X11_law_231 A_X11_law_231 g0 g0 := Fr.rf
  obtain ⟨v1, hv1⟩ : ∃ v, gI g0 231 8 = v := ⟨_, rfl⟩
  have rv1 := RgF.at hI0.2.1 (p := 231) (b := 8) rfl
  rw [hv1] at rv1
  dsimp only at rv1
  have tv1 := congrArg Int32.toInt hv1
  refine Ev.mk rfl rfl ⟨Nat.le_of_ble_eq_true rfl, Or.inr (q_rc hI0.1 kx_231 rfl)⟩ ?_
  show At _ none _ _ (0, [(0, .ref 231)], [], (_, _)) _
  refine At.enter rfl ?_
  refine r_aload_n rfl ?_
  refine r_iconst 0 rfl ?_
  refine q_putI (Sh.int hI0.1 kx_231 rfl) rfl ?_
  have hI214810 := HI.wI0 hI0 kx_231 rfl (p := 231) (b := 0) (v := 0) rfl
  have hF214811 := Fr.wI (p := 231) (b := 0) (v := 0) hF0 rfl
  refine r_aload_n rfl ?_
  refine q_getR (Sh.ref hI214810.1 kx_231 rfl) ?_
  refine r_iconst 2 rfl ?_
  obtain ⟨v214812, hv214812⟩ : ∃ v, eA g0 233 2 = v := ⟨_, rfl⟩
  have tv214812 := congrArg Int32.toInt hv214812
  have wv214812 := HI.t2 hI0
  rw [hv214812] at wv214812
  refine q_iald (Sh.arr hI214810.1 ka_233) 2 rfl (by decide) v214812 ((eA_c (gA_sI)).trans hv214812) ?_
  refine r_bipush 6 rfl ?_
  refine r_ics 16 rfl (fun c214813 => ?_) (fun c214813 => ?_)
  · have c214813_ : v214812.toInt ≠ 6 := en_i_ne_t c214813
    refine At.enter rfl ?_
    refine r_aload_n rfl ?_
    refine q_inlV 32 rfl [.ref 231] [] (Nat.le_of_ble_eq_true rfl) rfl ?_
    refine Ev.mk rfl rfl ⟨Nat.le_of_ble_eq_true rfl, Or.inr (q_rc hI214810.1 kx_231 rfl)⟩ ?_
    show At _ none _ _ (0, [(0, .ref 231)], [], (_, _)) _
    refine At.enter rfl ?_
    refine r_aload_n rfl ?_
    refine r_iconst 0 rfl ?_
    refine q_putI (Sh.int hI214810.1 kx_231 rfl) rfl ?_
    have hI214814 := HI.wI1 hI214810 kx_231 rfl (p := 231) (b := 10) (v := 0) rfl (by decide)
    have hF214815 := Fr.wI (p := 231) (b := 10) (v := 0) hF214811 rfl
    refine r_aload_n rfl ?_
    refine r_iconst 0 rfl ?_
    refine q_putI (Sh.int hI214814.1 kx_231 rfl) rfl ?_
    have hI214816 := HI.wI0 hI214814 kx_231 rfl (p := 231) (b := 14) (v := 0) rfl
    have hF214817 := Fr.wI (p := 231) (b := 14) (v := 0) hF214815 rfl
    refine r_aload_n rfl ?_
    refine r_iconst (-1) rfl ?_
    refine q_putI (Sh.int hI214816.1 kx_231 rfl) rfl ?_
    have hI214818 := HI.wI0 hI214816 kx_231 rfl (p := 231) (b := 13) (v := (-1)) rfl
    have hF214819 := Fr.wI (p := 231) (b := 13) (v := (-1)) hF214817 rfl
    refine r_aload_n rfl ?_
    have x214820 := HI.eqI hI214818 (p := 231) (b := 8) ((((gI_sI_ne (by decide)).trans ((gI_sI_ne (by decide)).trans ((gI_sI_ne (by decide)).trans (gI_sI_ne (by decide))))).trans hv1))
    have x214821 := HI.eqI hI214818 (p := 231) (b := 10) (((gI_sI_ne (by decide)).trans ((gI_sI_ne (by decide)).trans (gI_sI_eq hI214810.1 kx_231 rfl _))))
    have zv214822 : (0 : Int32).toInt = 0 := rfl
    refine r_callV 19 rfl [.ref 231] [] (Nat.le_of_ble_eq_true rfl) rfl (T_X11_next_231 _ hI214818 (by omega)) ?_
    rintro _ _ ⟨g214823, rfl, hI214824, hF214825, rfl, hr214827⟩
    refine At.stn ?_
    have hF214828 := Fr.tr hF214819 hF214825 rfl rfl
    have x214832 := HI.eqI hI214824 (p := 231) (b := 8) ((((hF214825.1 231 8 mf_X11_next_231_231_8).trans ((gI_sI_ne (by decide)).trans ((gI_sI_ne (by decide)).trans ((gI_sI_ne (by decide)).trans (gI_sI_ne (by decide)))))).trans hv1))
    obtain ⟨v214833, hv214833⟩ : ∃ v, gI g214823 231 9 = v := ⟨_, rfl⟩
    have rv214833 := RgF.at hI214824.2.1 (p := 231) (b := 9) rfl
    rw [hv214833] at rv214833
    dsimp only at rv214833
    have tv214833 := congrArg Int32.toInt hv214833
    obtain ⟨v214835, hv214835⟩ : ∃ v, gI g214823 231 10 = v := ⟨_, rfl⟩
    have rv214835 := RgF.at hI214824.2.1 (p := 231) (b := 10) rfl
    rw [hv214835] at rv214835
    dsimp only at rv214835
    have tv214835 := congrArg Int32.toInt hv214835
    obtain ⟨v214837, hv214837⟩ : ∃ v, gI g214823 231 11 = v := ⟨_, rfl⟩
    have tv214837 := congrArg Int32.toInt hv214837
    obtain ⟨c214839, c214840, c214841, c214842, c214843, c214844, c214845⟩ := hr214827
    have hK214846 := c214845.1
    refine At.enter rfl ?_
    refine q_vret ?_
    refine At.enter rfl ?_
    refine r_aload_n rfl ?_
    refine r_iconst 0 rfl ?_
    refine q_putI (Sh.int hI214824.1 kx_231 rfl) rfl ?_
    have hI214847 := HI.wI1 hI214824 kx_231 rfl (p := 231) (b := 15) (v := 0) rfl (by decide)
    have hF214848 := Fr.wI (p := 231) (b := 15) (v := 0) hF214828 rfl
    refine r_aload_n rfl ?_
    refine r_iconst 0 rfl ?_
    refine q_putI (Sh.int hI214847.1 kx_231 rfl) rfl ?_
    have hI214849 := HI.wI1 hI214847 kx_231 rfl (p := 231) (b := 17) (v := 0) rfl (by decide)
    have hF214850 := Fr.wI (p := 231) (b := 17) (v := 0) hF214848 rfl
    refine r_aload_n rfl ?_
    refine r_iconst 0 rfl ?_
    refine q_putI (Sh.int hI214849.1 kx_231 rfl) rfl ?_
    have hI214851 := HI.wI0 hI214849 kx_231 rfl (p := 231) (b := 20) (v := 0) rfl
    have hF214852 := Fr.wI (p := 231) (b := 20) (v := 0) hF214850 rfl
    refine r_aload_n rfl ?_
    have x214853 := HI.eqI hI214851 (p := 231) (b := 8) ((((gI_sI_ne (by decide)).trans ((gI_sI_ne (by decide)).trans ((gI_sI_ne (by decide)).trans ((hF214825.1 231 8 mf_X11_next_231_231_8).trans ((gI_sI_ne (by decide)).trans ((gI_sI_ne (by decide)).trans ((gI_sI_ne (by decide)).trans (gI_sI_ne (by decide))))))))).trans hv1))
    have x214854 := HI.eqI hI214851 (p := 231) (b := 9) ((((gI_sI_ne (by decide)).trans ((gI_sI_ne (by decide)).trans (gI_sI_ne (by decide)))).trans hv214833))
    have x214855 := HI.eqI hI214851 (p := 231) (b := 10) ((((gI_sI_ne (by decide)).trans ((gI_sI_ne (by decide)).trans (gI_sI_ne (by decide)))).trans hv214835))
    have x214856 := HI.eqI hI214851 (p := 231) (b := 11) ((((gI_sI_ne (by decide)).trans ((gI_sI_ne (by decide)).trans (gI_sI_ne (by decide)))).trans hv214837))
    have x214857 := HI.eqI hI214851 (p := 231) (b := 14) (((gI_sI_ne (by decide)).trans ((gI_sI_ne (by decide)).trans ((gI_sI_ne (by decide)).trans ((hF214825.1 231 14 mf_X11_next_231_231_14).trans ((gI_sI_ne (by decide)).trans (gI_sI_eq hI214814.1 kx_231 rfl _)))))))
    have x214859 := HI.eqI hI214851 (p := 231) (b := 15) (((gI_sI_ne (by decide)).trans ((gI_sI_ne (by decide)).trans (gI_sI_eq hI214824.1 kx_231 rfl _))))
    have x214861 := HI.eqI hI214851 (p := 231) (b := 17) (((gI_sI_ne (by decide)).trans (gI_sI_eq hI214847.1 kx_231 rfl _)))
    have x214863 := HI.eqI hI214851 (p := 231) (b := 13) (((gI_sI_ne (by decide)).trans ((gI_sI_ne (by decide)).trans ((gI_sI_ne (by decide)).trans ((hF214825.1 231 13 mf_X11_next_231_231_13).trans (gI_sI_eq hI214816.1 kx_231 rfl _))))))
    have zv214864 : ((-1) : Int32).toInt = (-1) := rfl
    have x214865 := HI.eqI hI214851 (p := 231) (b := 20) ((gI_sI_eq hI214849.1 kx_231 rfl _))
    have w26214867 := W26.cong c214844 hI214851 (((gI_sI_ne (by decide)).trans ((gI_sI_ne (by decide)).trans (gI_sI_ne (by decide))))) (((gI_sI_ne (by decide)).trans ((gI_sI_ne (by decide)).trans (gI_sI_ne (by decide))))) (((gI_sI_ne (by decide)).trans ((gI_sI_ne (by decide)).trans (gI_sI_ne (by decide))))) (((gJ_sI_ne (by decide)).trans ((gJ_sI_ne (by decide)).trans (gJ_sI_ne (by decide)))))
    refine r_callV 51 rfl [.ref 231] [] (Nat.le_of_ble_eq_true rfl) rfl (T_X11_readClause_231 _ hI214851 (by refine ⟨?_, ?_, ?_, ?_⟩ <;> omega) (by omega) (by omega) w26214867 (CLS.zero0 (by omega)) (TKM.c hK214846 (((gA_sI).trans ((gA_sI).trans (gA_sI)))) (((gI_sI_ne (by decide)).trans ((gI_sI_ne (by decide)).trans (gI_sI_ne (by decide))))) (((gI_sI_ne (by decide)).trans ((gI_sI_ne (by decide)).trans (gI_sI_ne (by decide))))) (((gI_sI_ne (by decide)).trans ((gI_sI_ne (by decide)).trans (gI_sI_ne (by decide))))) (((gI_sI_ne (by decide)).trans ((gI_sI_ne (by decide)).trans (gI_sI_ne (by decide))))) (((gJ_sI_ne (by decide)).trans ((gJ_sI_ne (by decide)).trans (gJ_sI_ne (by decide))))))) ?_
    rintro _ _ ⟨g214868, rfl, hI214869, hF214870, rfl, hr214872⟩
    refine At.stn ?_
    have hF214873 := Fr.tr hF214852 hF214870 rfl rfl
    have x214875 := HI.eqI hI214869 (p := 231) (b := 8) ((((hF214870.1 231 8 mf_X11_readClause_231_231_8).trans ((gI_sI_ne (by decide)).trans ((gI_sI_ne (by decide)).trans ((gI_sI_ne (by decide)).trans ((hF214825.1 231 8 mf_X11_next_231_231_8).trans ((gI_sI_ne (by decide)).trans ((gI_sI_ne (by decide)).trans ((gI_sI_ne (by decide)).trans (gI_sI_ne (by decide)))))))))).trans hv1))
    obtain ⟨v214876, hv214876⟩ : ∃ v, gI g214868 231 9 = v := ⟨_, rfl⟩
    have rv214876 := RgF.at hI214869.2.1 (p := 231) (b := 9) rfl
    rw [hv214876] at rv214876
    dsimp only at rv214876
    have tv214876 := congrArg Int32.toInt hv214876
    obtain ⟨v214878, hv214878⟩ : ∃ v, gI g214868 231 10 = v := ⟨_, rfl⟩
    have rv214878 := RgF.at hI214869.2.1 (p := 231) (b := 10) rfl
    rw [hv214878] at rv214878
    dsimp only at rv214878
    have tv214878 := congrArg Int32.toInt hv214878
    obtain ⟨v214880, hv214880⟩ : ∃ v, gI g214868 231 11 = v := ⟨_, rfl⟩
    have tv214880 := congrArg Int32.toInt hv214880
    obtain ⟨v214882, hv214882⟩ : ∃ v, gI g214868 231 14 = v := ⟨_, rfl⟩
    have tv214882 := congrArg Int32.toInt hv214882
    obtain ⟨v214884, hv214884⟩ : ∃ v, gI g214868 231 15 = v := ⟨_, rfl⟩
    have rv214884 := RgF.at hI214869.2.1 (p := 231) (b := 15) rfl
    rw [hv214884] at rv214884
    dsimp only at rv214884
    have tv214884 := congrArg Int32.toInt hv214884
    obtain ⟨v214886, hv214886⟩ : ∃ v, gI g214868 231 17 = v := ⟨_, rfl⟩
    have rv214886 := RgF.at hI214869.2.1 (p := 231) (b := 17) rfl
    rw [hv214886] at rv214886
    dsimp only at rv214886
    have tv214886 := congrArg Int32.toInt hv214886
    obtain ⟨c214888, c214889, c214890, c214891, c214892, c214893, c214894, c214895⟩ := hr214872
    have hK214896 := c214895.1
    obtain ⟨v214897, hv214897⟩ : ∃ v, gI g214868 231 13 = v := ⟨_, rfl⟩
    have tv214897 := congrArg Int32.toInt hv214897
    have hskp0 : SKP (TM g0) (nM g0) 0 (pI g214823 9) := SKP.st0 c214845.2 (((gA_sI).trans ((gA_sI).trans ((gA_sI).trans (gA_sI))))) (((gI_sI_ne (by decide)).trans ((gI_sI_ne (by decide)).trans ((gI_sI_ne (by decide)).trans (gI_sI_ne (by decide)))))) (show (gI _ 231 10).toInt = 0 from by omega)
    refine w_loopI (fun n_ l_ g_ => ∃ x268539 : Int32, n_ = 400 - x268539.toInt ∧ HI g_ ∧ Fr F_X11_law_231 A_X11_law_231 g0 g_ ∧ gI g_ 231 9 = x268539 ∧ en_get 0 l_ = some (.ref 231) ∧ (0 ≤ x268539.toInt ∧ x268539.toInt ≤ 400) ∧ (Fr [(231, 0), (231, 9), (231, 10), (231, 11), (231, 12), (231, 13), (231, 14), (231, 15), (231, 17), (231, 20), (231, 23), (231, 24)] [237, 238, 239, 240, 241] g0 g_) ∧ ((gI g_ 231 9).toInt ≤ (gI g_ 231 10).toInt) ∧ ((gI g_ 231 10).toInt ≤ (gI g_ 231 8).toInt) ∧ (0 ≤ (gI g_ 231 11).toInt) ∧ ((gI g_ 231 11).toInt ≤ 3 * ((gI g_ 231 10).toInt - (gI g_ 231 9).toInt)) ∧ (W26 g_) ∧ (CLZ g_) ∧ (TKM g_) ∧ (CLM (TM g0) (nM g0) (6, [], 0, 0, pI g214823 9) g_ 8) ∧ (RGL g0 g_ (pI g214823 9))) ?_ (400 - v214876.toInt) ⟨v214876, by first | rfl | omega, hI214869, hF214873, hv214876, rfl, by omega, (Fr.tr (Fr.wI (p := 231) (b := 20) (Fr.wI (p := 231) (b := 17) (Fr.wI (p := 231) (b := 15) (Fr.tr (Fr.wI (p := 231) (b := 13) (Fr.wI (p := 231) (b := 14) (Fr.wI (p := 231) (b := 10) (Fr.wI (p := 231) (b := 0) Fr.rf rfl) rfl) rfl) rfl) hF214825 rfl rfl) rfl) rfl) rfl) hF214870 rfl rfl), by omega, by omega, by omega, by omega, c214892, c214894, hK214896, (CPM.at_ c214895.2.1 (((gA_sI).trans ((gA_sI).trans ((gA_sI).trans ((hF214825.2.1 236 ma_X11_next_231_236).trans ((gA_sI).trans ((gA_sI).trans ((gA_sI).trans (gA_sI))))))))) (((gI_sI_ne (by decide)).trans ((gI_sI_ne (by decide)).trans ((gI_sI_ne (by decide)).trans ((hF214825.1 231 8 mf_X11_next_231_231_8).trans ((gI_sI_ne (by decide)).trans ((gI_sI_ne (by decide)).trans ((gI_sI_ne (by decide)).trans (gI_sI_ne (by decide)))))))))) (CLM.start (show (gI _ 231 14).toInt = 0 from by omega) (show (gI _ 231 13).toInt = -1 from by omega) (show (gI _ 231 20).toInt = 0 from by omega) (show (gI _ 231 15).toInt = 0 from by omega) (pI.c (((gI_sI_ne (by decide)).trans ((gI_sI_ne (by decide)).trans (gI_sI_ne (by decide)))))))), (fun h14 => CPG_at c214895.2.2 (((gA_sI).trans ((gA_sI).trans ((gA_sI).trans ((hF214825.2.1 236 ma_X11_next_231_236).trans ((gA_sI).trans ((gA_sI).trans ((gA_sI).trans (gA_sI))))))))) (((gI_sI_ne (by decide)).trans ((gI_sI_ne (by decide)).trans ((gI_sI_ne (by decide)).trans ((hF214825.1 231 8 mf_X11_next_231_231_8).trans ((gI_sI_ne (by decide)).trans ((gI_sI_ne (by decide)).trans ((gI_sI_ne (by decide)).trans (gI_sI_ne (by decide)))))))))) h14 (RGL_start (Or.inr ⟨OG_c (((gA_sI).trans ((gA_sI).trans ((gA_sI).trans ((hF214825.2.1 238 ma_X11_next_231_238).trans ((gA_sI).trans ((gA_sI).trans ((gA_sI).trans (gA_sI))))))))), AG_c (((gA_sI).trans ((gA_sI).trans ((gA_sI).trans ((hF214825.2.1 239 ma_X11_next_231_239).trans ((gA_sI).trans ((gA_sI).trans ((gA_sI).trans (gA_sI)))))))))⟩) (show (gI _ 231 17).toInt = 0 from by omega) (show (gI _ 231 15).toInt = 0 from by omega) (pI.c (((gI_sI_ne (by decide)).trans ((gI_sI_ne (by decide)).trans (gI_sI_ne (by decide))))))))⟩
    rintro n268544 l268543 g268540 ⟨x268539, hm268566, hI268541, hF268542, e268546, e268547, r268548, q268549, q268550, q268551, q268552, q268553, q268554, q268555, q268556, q268557, q268558⟩ ih268545
    have tv268567 := congrArg Int32.toInt e268546
    have x268568 := HI.eqI hI268541 (p := 231) (b := 8) (((q268549.1 231 8 (by decide)).trans hv1))
    have x268569 := HI.eqI hI268541 (p := 231) (b := 9) (e268546)
    obtain ⟨v268570, hv268570⟩ : ∃ v, gI g268540 231 10 = v := ⟨_, rfl⟩
    have rv268570 := RgF.at hI268541.2.1 (p := 231) (b := 10) rfl
    rw [hv268570] at rv268570
    dsimp only at rv268570
    have tv268570 := congrArg Int32.toInt hv268570
    obtain ⟨v268572, hv268572⟩ : ∃ v, gI g268540 231 11 = v := ⟨_, rfl⟩
    have tv268572 := congrArg Int32.toInt hv268572
    obtain ⟨v268574, hv268574⟩ : ∃ v, gI g268540 231 14 = v := ⟨_, rfl⟩
    have tv268574 := congrArg Int32.toInt hv268574
    obtain ⟨v268576, hv268576⟩ : ∃ v, gI g268540 231 15 = v := ⟨_, rfl⟩
    have rv268576 := RgF.at hI268541.2.1 (p := 231) (b := 15) rfl
    rw [hv268576] at rv268576
    dsimp only at rv268576
    have tv268576 := congrArg Int32.toInt hv268576
    obtain ⟨v268578, hv268578⟩ : ∃ v, gI g268540 231 17 = v := ⟨_, rfl⟩
    have rv268578 := RgF.at hI268541.2.1 (p := 231) (b := 17) rfl
    rw [hv268578] at rv268578
    dsimp only at rv268578
    have tv268578 := congrArg Int32.toInt hv268578
    refine At.enter rfl ?_
    refine r_aload_n e268547 ?_
    refine q_getI (Sh.int hI268541.1 kx_231 rfl) v268574 hv268574 ?_
    refine r_ifs 58 rfl (fun c268580 => ?_) (fun c268580 => ?_)
    · have c268580_ : v268574.toInt ≠ 0 := en_k_ne_t c268580
      refine At.enter rfl ?_
      refine r_aload_n e268547 ?_
      refine q_getI (Sh.int hI268541.1 kx_231 rfl) v268574 hv268574 ?_
      refine r_ifs 85 rfl (fun c268581 => ?_) (fun c268581 => ?_)
      · have c268581_ : v268574.toInt ≠ 0 := en_k_ne_t c268581
        refine At.enter rfl ?_
        refine r_aload_n e268547 ?_
        refine r_iconst 0 rfl ?_
        refine q_putI (Sh.int hI268541.1 kx_231 rfl) rfl ?_
        have hI268582 := HI.wI1 hI268541 kx_231 rfl (p := 231) (b := 8) (v := 0) rfl (by decide)
        have hF268583 := Fr.wI (p := 231) (b := 8) (v := 0) hF268542 rfl
        refine r_aload_n e268547 ?_
        refine q_getI (Sh.int hI268582.1 kx_231 rfl) v268574 ((gI_sI_ne (by decide)).trans hv268574) ?_
        refine r_ifs 109 rfl (fun c268584 => ?_) (fun c268584 => ?_)
        · have c268584_ : v268574.toInt = 0 := en_k_eq_t c268584
          refine At.enter rfl ?_
          refine r_bipush 110 rfl ?_
          refine r_sipush 900 rfl ?_
          refine r_aload_n e268547 ?_
          refine q_getR (Sh.ref hI268582.1 kx_231 rfl) ?_
          refine r_iconst 2 rfl ?_
          refine q_iald (Sh.arr hI268582.1 ka_233) 2 rfl (by decide) v214812 ((eA_c ((gA_sI).trans (q268549.2.1 233 (by decide)))).trans hv214812) ?_
          refine q_imul (900 * v214812.toInt) rfl (by omega) (fun v268585 hv268585 => ?_)
          refine q_iadd (110 + v268585.toInt) rfl (by omega) (fun v268586 hv268586 => ?_)
          refine r_istore_n _ rfl ?_
          refine r_aload_n (w_p1 (by decide) (Or.inr rfl) e268547) ?_
          refine q_getR (Sh.ref hI268582.1 kx_231 rfl) ?_
          refine r_iload_n (w_e1 _ _ _) ?_
          refine r_iconst 1 rfl ?_
          refine q_iadd (v268586.toInt + 1) rfl (by omega) (fun v268587 hv268587 => ?_)
          refine r_aload_n (w_p1 (by decide) (Or.inr rfl) e268547) ?_
          refine q_getI (Sh.int hI268582.1 kx_231 rfl) v268576 ((gI_sI_ne (by decide)).trans hv268576) ?_
          refine q_iast (Sh.arr hI268582.1 ka_233) ((900 * v214812.toInt + 111)) (by omega) (by omega) ?_
          have x268590 := HI.eqA hI268582 (p := 233) (j := 2) ((((eA_c gA_sI).trans (eA_c (q268549.2.1 233 (by decide)))).trans hv214812))
          have hI268588 := HI.wfree hI268582 (j := (900 * v214812.toInt + 111)) (v := v268576) ⟨by omega, by omega⟩
          have hF268589 := Fr.wA (p := 233) (j := (900 * v214812.toInt + 111)) (v := v268576) hF268583 rfl
          refine r_iconst 0 rfl ?_
          refine r_istore_n _ rfl ?_
          refine Ar.fall 144 rfl ?_
          refine w_loopI (fun n_ l_ g_ => ∃ x278581 : Int32, n_ = 96 - x278581.toInt ∧ HI g_ ∧ Fr F_X11_law_231 A_X11_law_231 g0 g_ ∧ gI g_ 231 8 = 0 ∧ en_get 0 l_ = some (.ref 231) ∧ en_get 1 l_ = some (.int v268586) ∧ en_get 2 l_ = some (.int x278581) ∧ (0 ≤ x278581.toInt ∧ x278581.toInt ≤ 96) ∧ (Fr [(231, 8)] [233] g268540 g_) ∧ ((eA g_ 233 (v268586.toInt + 1)).toInt = (gI g268540 231 15).toInt) ∧ (∀ i : Int, 0 ≤ i → i < x278581.toInt → (eA g_ 233 (v268586.toInt + 2 + i)).toInt = (eA g268540 237 i).toInt) ∧ (∀ i : Int, 0 ≤ i → (i < v268586.toInt + 1 ∨ v268586.toInt + 900 ≤ i) → eA g_ 233 i = eA g268540 233 i)) ?_ (96 - 0) ⟨0, by first | rfl | omega, hI268588, hF268589, ((gI_sW).trans (gI_sI_eq hI268541.1 kx_231 rfl _)), (w_p1 (by decide) (Or.inr rfl) (w_p1 (by decide) (Or.inr rfl) e268547)), (w_p1 (by decide) (Or.inr rfl) (w_e1 _ _ _)), (w_e1 _ _ _), by decide, (Fr.wA (p := 233) (Fr.wI (p := 231) (b := 8) Fr.rf rfl) rfl), ((congrArg Int32.toInt (eA_sA_eq hI268582.1 ka_233 (by omega) (by omega) (by omega))).trans (by omega)), (fun i i0 i1 => absurd i1 (by omega)), (fun i i0 i1 => ((eA_sA_ne (i := i) hI268582.1 ka_233 (by omega) (by omega) (by omega)).trans (eA_c gA_sI)))⟩
          rintro n278586 l278585 g278582 ⟨x278581, hm278600, hI278583, hF278584, e278588, e278589, e278590, e278591, r278592, q278593, q278594, q278595, q278596⟩ ih278587
          have tv278601 := congrArg Int32.toInt e278588
          have t278604 := congrArg Int32.toInt ((q278596 2 (by decide) (Or.inl (by omega))).trans ((eA_c (q268549.2.1 233 (by decide))).trans hv214812))
          refine At.enter rfl ?_
          refine r_iload_n e278591 ?_
          refine r_bipush 8 rfl ?_
          refine r_aload_n e278589 ?_
          refine q_getI (Sh.int hI278583.1 kx_231 rfl) v268576 ((q278593.1 231 15 (by decide)).trans hv268576) ?_
          refine q_imul (8 * v268576.toInt) rfl (by omega) (fun v278605 hv278605 => ?_)
          have bv278607 := q_bnd x278581
          have bv278608 := q_bnd v278605
          refine r_ics 155 rfl (fun c278606 => ?_) (fun c278606 => ?_)
          · have c278606_ : x278581.toInt ≥ v278605.toInt := en_i_ge_t c278606
            refine At.enter rfl ?_
            refine r_iconst 0 rfl ?_
            refine r_istore_n _ rfl ?_
            refine Ar.fall 179 rfl ?_
            refine w_loopI (fun n_ l_ g_ => ∃ x279204 : Int32, n_ = 400 - x279204.toInt ∧ HI g_ ∧ Fr F_X11_law_231 A_X11_law_231 g0 g_ ∧ gI g_ 231 8 = 0 ∧ en_get 0 l_ = some (.ref 231) ∧ en_get 1 l_ = some (.int v268586) ∧ en_get 2 l_ = some (.int x279204) ∧ (0 ≤ x279204.toInt ∧ x279204.toInt ≤ 400) ∧ (Fr [(231, 8)] [233] g268540 g_) ∧ ((eA g_ 233 (v268586.toInt + 1)).toInt = (gI g268540 231 15).toInt) ∧ (∀ i : Int, 0 ≤ i → i < 8 * (gI g268540 231 15).toInt → (eA g_ 233 (v268586.toInt + 2 + i)).toInt = (eA g268540 237 i).toInt) ∧ (∀ i : Int, 0 ≤ i → (i < v268586.toInt + 1 ∨ v268586.toInt + 900 ≤ i) → eA g_ 233 i = eA g268540 233 i) ∧ (∀ i : Int, 0 ≤ i → i < x279204.toInt → (eA g_ 233 (v268586.toInt + 98 + 2 * i)).toInt = (eA g268540 238 i).toInt ∧ (eA g_ 233 (v268586.toInt + 98 + 2 * i + 1)).toInt = (eA g268540 239 i).toInt)) ?_ (400 - 0) ⟨0, by first | rfl | omega, hI278583, hF278584, e278588, (w_p1 (by decide) (Or.inr rfl) e278589), (w_p1 (by decide) (Or.inr rfl) e278590), (w_e1 _ _ _), by decide, (Fr.tr Fr.rf q278593 rfl rfl), ((congrArg Int32.toInt (rfl)).trans q278594), (fun i i0 i1 => q278595 i i0 (by omega)), (fun i i0 i1 => (rfl).trans (q278596 i i0 i1)), (fun i i0 i1 => absurd i1 (by omega))⟩
            rintro n279209 l279208 g279205 ⟨x279204, hm279224, hI279206, hF279207, e279211, e279212, e279213, e279214, r279215, q279216, q279217, q279218, q279219, q279220⟩ ih279210
            have tv279225 := congrArg Int32.toInt e279211
            have t279228 := congrArg Int32.toInt ((q279219 2 (by decide) (Or.inl (by omega))).trans ((eA_c (q268549.2.1 233 (by decide))).trans hv214812))
            refine At.enter rfl ?_
            refine r_iload_n e279214 ?_
            refine r_aload_n e279212 ?_
            refine q_getI (Sh.int hI279206.1 kx_231 rfl) v268578 ((q279216.1 231 17 (by decide)).trans hv268578) ?_
            have bv279230 := q_bnd x279204
            have bv279231 := q_bnd v268578
            refine r_ics 187 rfl (fun c279229 => ?_) (fun c279229 => ?_)
            · have c279229_ : x279204.toInt ≥ v268578.toInt := en_i_ge_t c279229
              refine At.enter rfl ?_
              refine r_aload_n e279212 ?_
              refine q_getR (Sh.ref hI279206.1 kx_231 rfl) ?_
              refine r_iconst 2 rfl ?_
              refine r_dup2 ⟨rfl, rfl⟩ ?_
              refine q_iald (Sh.arr hI279206.1 ka_233) 2 rfl (by decide) v214812 ((q279219 2 (by decide) (Or.inl (by omega))).trans ((eA_c (q268549.2.1 233 (by decide))).trans hv214812)) ?_
              refine r_iconst 1 rfl ?_
              refine q_iadd (v214812.toInt + 1) rfl (by omega) (fun v279232 hv279232 => ?_)
              refine q_iast (Sh.arr hI279206.1 ka_233) (2) rfl (by decide) ?_
              have x279235 := HI.eqA hI279206 (p := 233) (j := 2) (((q279219 2 (by decide) (Or.inl (by omega))).trans ((eA_c (q268549.2.1 233 (by decide))).trans hv214812)))
              have hI279233 := HI.wt2 hI279206 (v := v279232) (by omega) (by omega) (by rw [show 110 + 900 * (eA _ 233 2).toInt = v268586.toInt by omega]; exact LAW.mk (q268555 (by omega)).2 ⟨by omega, by omega⟩ (by omega) q279217 q279218 (fun i i0 i1 => q279220 i i0 (by omega)))
              have hF279234 := Fr.wA (p := 233) (j := 2) (v := v279232) hF279207 rfl
              refine r_aload_n e279212 ?_
              refine r_aload_n e279212 ?_
              refine q_getR (Sh.ref hI279233.1 kx_231 rfl) ?_
              refine r_iconst 2 rfl ?_
              refine q_iald (Sh.arr hI279233.1 ka_233) 2 rfl (by decide) v279232 (eA_sA_eq hI279206.1 ka_233 (by first | rfl | omega) (by first | decide | omega) (by first | decide | omega)) ?_
              refine r_iconst 1 rfl ?_
              refine q_isub (v279232.toInt - 1) rfl (by omega) (fun v279236 hv279236 => ?_)
              refine r_callV 255 rfl [.ref 231, .int v279236] [] (Nat.le_of_ble_eq_true rfl) rfl (T_X11_tell_231 _ hI279233 v279236 (by omega)) ?_
              rintro _ _ ⟨g279237, rfl, hI279238, hF279239, v279240, rfl, hr279241⟩
              refine At.sti ?_
              have hF279242 := Fr.tr hF279234 hF279239 rfl rfl
              refine At.enter rfl ?_
              refine r_ireti ?_
              have x279243 := HI.eqI hI279238 (p := 231) (b := 8) ((((hF279239.1 231 8 mf_X11_tell_231_231_8).trans (gI_sW)).trans e279211))
              have x279245 := HI.eqA hI0 (p := 233) (j := 2) (hv214812)
              have x279246 := HI.eqA hI279238 (p := 233) (j := 2) (((eA_c (hF279239.2.1 233 ma_X11_tell_231_233)).trans (eA_sA_eq hI279206.1 ka_233 (by first | rfl | omega) (by first | decide | omega) (by first | decide | omega))))
              obtain ⟨v279249, hv279249⟩ : ∃ v, gI g268540 231 13 = v := ⟨_, rfl⟩
              have tv279249 := congrArg Int32.toInt hv279249
              have x279252 := HI.eqI hI279238 (p := 231) (b := 13) ((((hF279239.1 231 13 mf_X11_tell_231_231_13).trans ((gI_sW).trans (q279216.1 231 13 (by decide)))).trans hv279249))
              have ce := CDM.end_ q268556
              have y279253 : pI g268540 11 = (gI g268540 231 11).toInt := rfl
              exact ⟨_, rfl, hI279238, hF279242, _, rfl, by omega, ⟨(fun i i0 i1 i2 => ((eA_c (hF279239.2.1 233 ma_X11_tell_231_233)).trans ((eA_sA_ne (i := i) hI279206.1 ka_233 (by omega) (by omega) (by omega)).trans ((q279219 i i0 (Or.inl (by omega))).trans (eA_c ((q268549.2.1 233 (by decide)))))))), by omega, Or.inr ⟨show (eA g0 233 2).toInt ≠ 6 from by omega, ⟨_, hskp0, Or.inl ⟨by omega, CLM.fin q268557 (show (gI g268540 231 14).toInt = 0 from by omega) (TKM.someC q268556 ((q268549.2.1 236 (by decide))) ((q268549.1 231 8 (by decide)))).choose_spec (by omega) (show (gI _ 231 13).toInt = (gI g268540 231 13).toInt from (by first | exact x279252.trans tv279249.symm | omega))⟩⟩, Or.inr ⟨show _ = (eA g0 233 2).toInt from by omega, by omega, show (eA _ 233 2).toInt = (eA g0 233 2).toInt + 1 from by omega⟩⟩, (LWG_mk (at_ := v268586.toInt) hskp0 q268558 (show (gI g268540 231 14).toInt = 0 from by omega) (TKM.someC q268556 ((q268549.2.1 236 (by decide))) ((q268549.1 231 8 (by decide)))).choose_spec (by omega) SMG_rf rfl rfl ⟨show 0 ≤ (gI _ 231 15).toInt from by omega, show (gI _ 231 15).toInt ≤ 12 from by omega⟩ ⟨show 0 ≤ (gI _ 231 17).toInt from by omega, show (gI _ 231 17).toInt ≤ 400 from by omega⟩ (by omega) ((congrArg Int32.toInt (((eA_c (hF279239.2.1 233 ma_X11_tell_231_233)).trans (eA_sA_ne (i := v268586.toInt + 1) hI279206.1 ka_233 (by omega) (by omega) (by omega))))).trans q279217) (fun i i0 i1 => (congrArg Int32.toInt (((eA_c (hF279239.2.1 233 ma_X11_tell_231_233)).trans (eA_sA_ne (i := v268586.toInt + 2 + i) hI279206.1 ka_233 (by omega) (by omega) (by omega))))).trans (q279218 i i0 (by have i1 : i < 8 * (gI _ 231 15).toInt := i1; omega))) (fun i i0 i1 => (fun z => ⟨(congrArg Int32.toInt (((eA_c (hF279239.2.1 233 ma_X11_tell_231_233)).trans (eA_sA_ne (i := v268586.toInt + 98 + 2 * i) hI279206.1 ka_233 (by omega) (by omega) (by omega))))).trans z.1, (congrArg Int32.toInt (((eA_c (hF279239.2.1 233 ma_X11_tell_231_233)).trans (eA_sA_ne (i := v268586.toInt + 98 + 2 * i + 1) hI279206.1 ka_233 (by omega) (by omega) (by omega))))).trans z.2⟩) (q279220 i i0 (by have i1 : i < (gI _ 231 17).toInt := i1; omega)))), (show ROWE g0 _ from (fun i i0 i1 i2 => ((eA_c (hF279239.2.1 233 ma_X11_tell_231_233)).trans ((eA_sA_ne (i := i) hI279206.1 ka_233 (by omega) (by omega) (by omega)).trans ((q279219 i (by omega) (by omega)).trans (eA_c ((q268549.2.1 233 (by decide))))))))), (fun hr => False.elim (by omega))⟩⟩
            · have c279229_ : x279204.toInt < v268578.toInt := en_i_ge_f c279229
              refine At.enter rfl ?_
              refine r_aload_n e279212 ?_
              refine q_getR (Sh.ref hI279206.1 kx_231 rfl) ?_
              refine r_iload_n e279213 ?_
              refine r_bipush 98 rfl ?_
              refine q_iadd (v268586.toInt + 98) rfl (by omega) (fun v279256 hv279256 => ?_)
              refine r_iconst 2 rfl ?_
              refine r_iload_n e279214 ?_
              refine q_imul (2 * x279204.toInt) rfl (by omega) (fun v279257 hv279257 => ?_)
              refine q_iadd (v279256.toInt + v279257.toInt) rfl (by omega) (fun v279258 hv279258 => ?_)
              refine r_aload_n e279212 ?_
              refine q_getR (Sh.ref hI279206.1 kx_231 rfl) ?_
              refine r_iload_n e279214 ?_
              obtain ⟨v279259, hv279259⟩ : ∃ v, eA g268540 238 x279204.toInt = v := ⟨_, rfl⟩
              refine q_iald (Sh.arr hI279206.1 ka_238) x279204.toInt rfl (by omega) v279259 ((eA_c (q279216.2.1 238 (by decide))).trans hv279259) ?_
              refine q_iast (Sh.arr hI279206.1 ka_233) ((900 * v214812.toInt + 2 * x279204.toInt + 208)) (by omega) (by omega) ?_
              have x279262 := HI.eqA hI279206 (p := 233) (j := 2) (((q279219 2 (by decide) (Or.inl (by omega))).trans ((eA_c (q268549.2.1 233 (by decide))).trans hv214812)))
              have hI279260 := HI.wfree hI279206 (j := (900 * v214812.toInt + 2 * x279204.toInt + 208)) (v := v279259) ⟨by omega, by omega⟩
              have hF279261 := Fr.wA (p := 233) (j := (900 * v214812.toInt + 2 * x279204.toInt + 208)) (v := v279259) hF279207 rfl
              refine r_aload_n e279212 ?_
              refine q_getR (Sh.ref hI279260.1 kx_231 rfl) ?_
              refine r_iload_n e279213 ?_
              refine r_bipush 98 rfl ?_
              refine q_iadd (v268586.toInt + 98) rfl (by omega) (fun v279263 hv279263 => ?_)
              refine r_iconst 2 rfl ?_
              refine r_iload_n e279214 ?_
              refine q_imul (2 * x279204.toInt) rfl (by omega) (fun v279264 hv279264 => ?_)
              refine q_iadd (v279263.toInt + v279264.toInt) rfl (by omega) (fun v279265 hv279265 => ?_)
              refine r_iconst 1 rfl ?_
              refine q_iadd (v279265.toInt + 1) rfl (by omega) (fun v279266 hv279266 => ?_)
              refine r_aload_n e279212 ?_
              refine q_getR (Sh.ref hI279260.1 kx_231 rfl) ?_
              refine r_iload_n e279214 ?_
              obtain ⟨v279267, hv279267⟩ : ∃ v, eA g268540 239 x279204.toInt = v := ⟨_, rfl⟩
              refine q_iald (Sh.arr hI279260.1 ka_239) x279204.toInt rfl (by omega) v279267 ((eA_c ((gA_sA_ne (by decide)).trans (q279216.2.1 239 (by decide)))).trans hv279267) ?_
              refine q_iast (Sh.arr hI279260.1 ka_233) ((900 * v214812.toInt + 2 * x279204.toInt + 209)) (by omega) (by omega) ?_
              have x279270 := HI.eqA hI279260 (p := 233) (j := 2) (((eA_sA_ne hI279206.1 ka_233 (by first | decide | omega) (by first | decide | omega) (by first | decide | omega)).trans ((q279219 2 (by decide) (Or.inl (by omega))).trans ((eA_c (q268549.2.1 233 (by decide))).trans hv214812))))
              have hI279268 := HI.wfree hI279260 (j := (900 * v214812.toInt + 2 * x279204.toInt + 209)) (v := v279267) ⟨by omega, by omega⟩
              have hF279269 := Fr.wA (p := 233) (j := (900 * v214812.toInt + 2 * x279204.toInt + 209)) (v := v279267) hF279261 rfl
              refine q_iinc e279214 (x279204.toInt + 1) rfl (by omega) (fun v279271 hv279271 => ?_)
              refine r_goto ?_
              exact ih279210 (400 - v279271.toInt) _ _ ⟨v279271, by first | rfl | omega, hI279268, hF279269, (((gI_sW).trans (gI_sW)).trans e279211), (w_p1 (by decide) (Or.inr rfl) e279212), (w_p1 (by decide) (Or.inr rfl) e279213), (w_e1 _ _ _), by omega, (Fr.wA (p := 233) (Fr.wA (p := 233) q279216 rfl) rfl), ((congrArg Int32.toInt (((eA_sA_ne (i := v268586.toInt + 1) hI279260.1 ka_233 (by omega) (by omega) (by omega)).trans (eA_sA_ne (i := v268586.toInt + 1) hI279206.1 ka_233 (by omega) (by omega) (by omega))))).trans q279217), (fun i i0 i1 => (congrArg Int32.toInt (((eA_sA_ne (i := v268586.toInt + 2 + i) hI279260.1 ka_233 (by omega) (by omega) (by omega)).trans (eA_sA_ne (i := v268586.toInt + 2 + i) hI279206.1 ka_233 (by omega) (by omega) (by omega))))).trans (q279218 i i0 i1)), (fun i i0 i1 => (((eA_sA_ne (i := i) hI279260.1 ka_233 (by omega) (by omega) (by omega)).trans (eA_sA_ne (i := i) hI279206.1 ka_233 (by omega) (by omega) (by omega)))).trans (q279219 i i0 i1)), (fun i i0 i1 => (Decidable.em (i = x279204.toInt)).elim (fun e => by rw [e]; exact ⟨((congrArg Int32.toInt ((eA_sA_ne (i := v268586.toInt + 98 + 2 * x279204.toInt) hI279260.1 ka_233 (by omega) (by omega) (by omega)).trans (eA_sA_eq hI279206.1 ka_233 (by omega) (by omega) (by omega)))).trans (congrArg Int32.toInt hv279259).symm), ((congrArg Int32.toInt (eA_sA_eq hI279260.1 ka_233 (by omega) (by omega) (by omega))).trans (congrArg Int32.toInt hv279267).symm)⟩) (fun e => ⟨(congrArg Int32.toInt (((eA_sA_ne (i := v268586.toInt + 98 + 2 * i) hI279260.1 ka_233 (by omega) (by omega) (by omega)).trans (eA_sA_ne (i := v268586.toInt + 98 + 2 * i) hI279206.1 ka_233 (by omega) (by omega) (by omega))))).trans (q279220 i i0 (by omega)).1, (congrArg Int32.toInt (((eA_sA_ne (i := v268586.toInt + 98 + 2 * i + 1) hI279260.1 ka_233 (by omega) (by omega) (by omega)).trans (eA_sA_ne (i := v268586.toInt + 98 + 2 * i + 1) hI279206.1 ka_233 (by omega) (by omega) (by omega))))).trans (q279220 i i0 (by omega)).2⟩))⟩ ⟨by omega, by omega⟩
          · have c278606_ : x278581.toInt < v278605.toInt := en_i_ge_f c278606
            refine At.enter rfl ?_
            refine r_aload_n e278589 ?_
            refine q_getR (Sh.ref hI278583.1 kx_231 rfl) ?_
            refine r_iload_n e278590 ?_
            refine r_iconst 2 rfl ?_
            refine q_iadd (v268586.toInt + 2) rfl (by omega) (fun v279272 hv279272 => ?_)
            refine r_iload_n e278591 ?_
            refine q_iadd (v279272.toInt + x278581.toInt) rfl (by omega) (fun v279273 hv279273 => ?_)
            refine r_aload_n e278589 ?_
            refine q_getR (Sh.ref hI278583.1 kx_231 rfl) ?_
            refine r_iload_n e278591 ?_
            obtain ⟨v279274, hv279274⟩ : ∃ v, eA g268540 237 x278581.toInt = v := ⟨_, rfl⟩
            refine q_iald (Sh.arr hI278583.1 ka_237) x278581.toInt rfl (by omega) v279274 ((eA_c (q278593.2.1 237 (by decide))).trans hv279274) ?_
            refine q_iast (Sh.arr hI278583.1 ka_233) ((900 * v214812.toInt + x278581.toInt + 112)) (by omega) (by omega) ?_
            have x279277 := HI.eqA hI278583 (p := 233) (j := 2) (((q278596 2 (by decide) (Or.inl (by omega))).trans ((eA_c (q268549.2.1 233 (by decide))).trans hv214812)))
            have hI279275 := HI.wfree hI278583 (j := (900 * v214812.toInt + x278581.toInt + 112)) (v := v279274) ⟨by omega, by omega⟩
            have hF279276 := Fr.wA (p := 233) (j := (900 * v214812.toInt + x278581.toInt + 112)) (v := v279274) hF278584 rfl
            refine q_iinc e278591 (x278581.toInt + 1) rfl (by omega) (fun v279278 hv279278 => ?_)
            refine r_goto ?_
            exact ih278587 (96 - v279278.toInt) _ _ ⟨v279278, by first | rfl | omega, hI279275, hF279276, ((gI_sW).trans e278588), (w_p1 (by decide) (Or.inr rfl) e278589), (w_p1 (by decide) (Or.inr rfl) e278590), (w_e1 _ _ _), by omega, (Fr.wA (p := 233) q278593 rfl), ((congrArg Int32.toInt ((eA_sA_ne (i := v268586.toInt + 1) hI278583.1 ka_233 (by omega) (by omega) (by omega)))).trans q278594), (fun i i0 i1 => (Decidable.em (i = x278581.toInt)).elim (fun e => by rw [e]; exact (congrArg Int32.toInt (eA_sA_eq hI278583.1 ka_233 (by omega) (by omega) (by omega))).trans (congrArg Int32.toInt hv279274).symm) (fun e => (congrArg Int32.toInt ((eA_sA_ne (i := v268586.toInt + 2 + i) hI278583.1 ka_233 (by omega) (by omega) (by omega)))).trans (q278595 i i0 (by omega)))), (fun i i0 i1 => ((eA_sA_ne (i := i) hI278583.1 ka_233 (by omega) (by omega) (by omega))).trans (q278596 i i0 i1))⟩ ⟨by omega, by omega⟩
        · have c268584_ : v268574.toInt ≠ 0 := en_k_eq_f c268584
          refine At.enter rfl ?_
          refine r_aload_n e268547 ?_
          refine r_bipush (-6) rfl ?_
          refine r_callV 115 rfl [.ref 231, .int (-6)] [] (Nat.le_of_ble_eq_true rfl) rfl (T_X11_tell_231 _ hI268582 (-6) (by decide)) ?_
          rintro _ _ ⟨g279279, rfl, hI279280, hF279281, v279282, rfl, hr279283⟩
          refine At.sti ?_
          have hF279284 := Fr.tr hF268583 hF279281 rfl rfl
          have zv279285 : ((-6) : Int32).toInt = (-6) := rfl
          refine At.enter rfl ?_
          refine r_ireti ?_
          have x279286 := HI.eqI hI279280 (p := 231) (b := 8) (((hF279281.1 231 8 mf_X11_tell_231_231_8).trans (gI_sI_eq hI268541.1 kx_231 rfl _)))
          have x279288 := HI.eqA hI0 (p := 233) (j := 2) (hv214812)
          have x279289 := HI.eqA hI279280 (p := 233) (j := 2) ((((eA_c (hF279281.2.1 233 ma_X11_tell_231_233)).trans ((eA_c gA_sI).trans (eA_c (q268549.2.1 233 (by decide))))).trans hv214812))
          obtain ⟨v279292, hv279292⟩ : ∃ v, gI g268540 231 13 = v := ⟨_, rfl⟩
          have tv279292 := congrArg Int32.toInt hv279292
          have x279295 := HI.eqI hI279280 (p := 231) (b := 13) ((((hF279281.1 231 13 mf_X11_tell_231_231_13).trans (gI_sI_ne (by decide))).trans hv279292))
          have ce := CDM.end_ q268556
          have y279296 : pI g268540 11 = (gI g268540 231 11).toInt := rfl
          exact ⟨_, rfl, hI279280, hF279284, _, rfl, by omega, ⟨(fun i i0 i1 i2 => eA_c (((hF279281.2.1 233 ma_X11_tell_231_233).trans ((gA_sI).trans (q268549.2.1 233 (by decide)))))), by omega, Or.inr ⟨show (eA g0 233 2).toInt ≠ 6 from by omega, ⟨_, hskp0, Or.inr ⟨by omega, CLM.badr q268557 (show (gI g268540 231 14).toInt ≠ 0 from by omega) (show (gI _ 231 13).toInt = (gI g268540 231 13).toInt from (by first | exact x279295.trans tv279292.symm | omega))⟩⟩, Or.inl ⟨by omega, (show (eA _ 233 2).toInt = (eA g0 233 2).toInt from by omega)⟩⟩, (fun h1 => absurd (show _ = (-6 : Int) from by omega) h1), (show ROWE g0 _ from (fun i i0 i1 i2 => eA_c (((hF279281.2.1 233 ma_X11_tell_231_233).trans ((gA_sI).trans (q268549.2.1 233 (by decide))))))), (fun hr i i0 i1 => eA_c (((hF279281.2.1 233 ma_X11_tell_231_233).trans ((gA_sI).trans (q268549.2.1 233 (by decide))))))⟩⟩
      · have c268581_ : v268574.toInt = 0 := en_k_ne_f c268581
        refine At.enter rfl ?_
        refine r_aload_n e268547 ?_
        refine q_getI (Sh.int hI268541.1 kx_231 rfl) v268572 hv268572 ?_
        refine r_ifs 92 rfl (fun c279297 => ?_) (fun c279297 => ?_)
        · have c279297_ : v268572.toInt = 0 := en_k_eq_t c279297
          refine At.enter rfl ?_
          refine r_aload_n e268547 ?_
          refine r_iconst 0 rfl ?_
          refine q_putI (Sh.int hI268541.1 kx_231 rfl) rfl ?_
          have hI279298 := HI.wI1 hI268541 kx_231 rfl (p := 231) (b := 8) (v := 0) rfl (by decide)
          have hF279299 := Fr.wI (p := 231) (b := 8) (v := 0) hF268542 rfl
          refine r_aload_n e268547 ?_
          refine q_getI (Sh.int hI279298.1 kx_231 rfl) v268574 ((gI_sI_ne (by decide)).trans hv268574) ?_
          refine r_ifs 109 rfl (fun c279300 => ?_) (fun c279300 => ?_)
          · have c279300_ : v268574.toInt = 0 := en_k_eq_t c279300
            refine At.enter rfl ?_
            refine r_bipush 110 rfl ?_
            refine r_sipush 900 rfl ?_
            refine r_aload_n e268547 ?_
            refine q_getR (Sh.ref hI279298.1 kx_231 rfl) ?_
            refine r_iconst 2 rfl ?_
            refine q_iald (Sh.arr hI279298.1 ka_233) 2 rfl (by decide) v214812 ((eA_c ((gA_sI).trans (q268549.2.1 233 (by decide)))).trans hv214812) ?_
            refine q_imul (900 * v214812.toInt) rfl (by omega) (fun v279301 hv279301 => ?_)
            refine q_iadd (110 + v279301.toInt) rfl (by omega) (fun v279302 hv279302 => ?_)
            refine r_istore_n _ rfl ?_
            refine r_aload_n (w_p1 (by decide) (Or.inr rfl) e268547) ?_
            refine q_getR (Sh.ref hI279298.1 kx_231 rfl) ?_
            refine r_iload_n (w_e1 _ _ _) ?_
            refine r_iconst 1 rfl ?_
            refine q_iadd (v279302.toInt + 1) rfl (by omega) (fun v279303 hv279303 => ?_)
            refine r_aload_n (w_p1 (by decide) (Or.inr rfl) e268547) ?_
            refine q_getI (Sh.int hI279298.1 kx_231 rfl) v268576 ((gI_sI_ne (by decide)).trans hv268576) ?_
            refine q_iast (Sh.arr hI279298.1 ka_233) ((900 * v214812.toInt + 111)) (by omega) (by omega) ?_
            have x279306 := HI.eqA hI279298 (p := 233) (j := 2) ((((eA_c gA_sI).trans (eA_c (q268549.2.1 233 (by decide)))).trans hv214812))
            have hI279304 := HI.wfree hI279298 (j := (900 * v214812.toInt + 111)) (v := v268576) ⟨by omega, by omega⟩
            have hF279305 := Fr.wA (p := 233) (j := (900 * v214812.toInt + 111)) (v := v268576) hF279299 rfl
            refine r_iconst 0 rfl ?_
            refine r_istore_n _ rfl ?_
            refine Ar.fall 144 rfl ?_
            refine w_loopI (fun n_ l_ g_ => ∃ x289297 : Int32, n_ = 96 - x289297.toInt ∧ HI g_ ∧ Fr F_X11_law_231 A_X11_law_231 g0 g_ ∧ gI g_ 231 8 = 0 ∧ en_get 0 l_ = some (.ref 231) ∧ en_get 1 l_ = some (.int v279302) ∧ en_get 2 l_ = some (.int x289297) ∧ (0 ≤ x289297.toInt ∧ x289297.toInt ≤ 96) ∧ (Fr [(231, 8)] [233] g268540 g_) ∧ ((eA g_ 233 (v279302.toInt + 1)).toInt = (gI g268540 231 15).toInt) ∧ (∀ i : Int, 0 ≤ i → i < x289297.toInt → (eA g_ 233 (v279302.toInt + 2 + i)).toInt = (eA g268540 237 i).toInt) ∧ (∀ i : Int, 0 ≤ i → (i < v279302.toInt + 1 ∨ v279302.toInt + 900 ≤ i) → eA g_ 233 i = eA g268540 233 i)) ?_ (96 - 0) ⟨0, by first | rfl | omega, hI279304, hF279305, ((gI_sW).trans (gI_sI_eq hI268541.1 kx_231 rfl _)), (w_p1 (by decide) (Or.inr rfl) (w_p1 (by decide) (Or.inr rfl) e268547)), (w_p1 (by decide) (Or.inr rfl) (w_e1 _ _ _)), (w_e1 _ _ _), by decide, (Fr.wA (p := 233) (Fr.wI (p := 231) (b := 8) Fr.rf rfl) rfl), ((congrArg Int32.toInt (eA_sA_eq hI279298.1 ka_233 (by omega) (by omega) (by omega))).trans (by omega)), (fun i i0 i1 => absurd i1 (by omega)), (fun i i0 i1 => ((eA_sA_ne (i := i) hI279298.1 ka_233 (by omega) (by omega) (by omega)).trans (eA_c gA_sI)))⟩
            rintro n289302 l289301 g289298 ⟨x289297, hm289316, hI289299, hF289300, e289304, e289305, e289306, e289307, r289308, q289309, q289310, q289311, q289312⟩ ih289303
            have tv289317 := congrArg Int32.toInt e289304
            have t289320 := congrArg Int32.toInt ((q289312 2 (by decide) (Or.inl (by omega))).trans ((eA_c (q268549.2.1 233 (by decide))).trans hv214812))
            refine At.enter rfl ?_
            refine r_iload_n e289307 ?_
            refine r_bipush 8 rfl ?_
            refine r_aload_n e289305 ?_
            refine q_getI (Sh.int hI289299.1 kx_231 rfl) v268576 ((q289309.1 231 15 (by decide)).trans hv268576) ?_
            refine q_imul (8 * v268576.toInt) rfl (by omega) (fun v289321 hv289321 => ?_)
            have bv289323 := q_bnd x289297
            have bv289324 := q_bnd v289321
            refine r_ics 155 rfl (fun c289322 => ?_) (fun c289322 => ?_)
            · have c289322_ : x289297.toInt ≥ v289321.toInt := en_i_ge_t c289322
              refine At.enter rfl ?_
              refine r_iconst 0 rfl ?_
              refine r_istore_n _ rfl ?_
              refine Ar.fall 179 rfl ?_
              refine w_loopI (fun n_ l_ g_ => ∃ x289920 : Int32, n_ = 400 - x289920.toInt ∧ HI g_ ∧ Fr F_X11_law_231 A_X11_law_231 g0 g_ ∧ gI g_ 231 8 = 0 ∧ en_get 0 l_ = some (.ref 231) ∧ en_get 1 l_ = some (.int v279302) ∧ en_get 2 l_ = some (.int x289920) ∧ (0 ≤ x289920.toInt ∧ x289920.toInt ≤ 400) ∧ (Fr [(231, 8)] [233] g268540 g_) ∧ ((eA g_ 233 (v279302.toInt + 1)).toInt = (gI g268540 231 15).toInt) ∧ (∀ i : Int, 0 ≤ i → i < 8 * (gI g268540 231 15).toInt → (eA g_ 233 (v279302.toInt + 2 + i)).toInt = (eA g268540 237 i).toInt) ∧ (∀ i : Int, 0 ≤ i → (i < v279302.toInt + 1 ∨ v279302.toInt + 900 ≤ i) → eA g_ 233 i = eA g268540 233 i) ∧ (∀ i : Int, 0 ≤ i → i < x289920.toInt → (eA g_ 233 (v279302.toInt + 98 + 2 * i)).toInt = (eA g268540 238 i).toInt ∧ (eA g_ 233 (v279302.toInt + 98 + 2 * i + 1)).toInt = (eA g268540 239 i).toInt)) ?_ (400 - 0) ⟨0, by first | rfl | omega, hI289299, hF289300, e289304, (w_p1 (by decide) (Or.inr rfl) e289305), (w_p1 (by decide) (Or.inr rfl) e289306), (w_e1 _ _ _), by decide, (Fr.tr Fr.rf q289309 rfl rfl), ((congrArg Int32.toInt (rfl)).trans q289310), (fun i i0 i1 => q289311 i i0 (by omega)), (fun i i0 i1 => (rfl).trans (q289312 i i0 i1)), (fun i i0 i1 => absurd i1 (by omega))⟩
              rintro n289925 l289924 g289921 ⟨x289920, hm289940, hI289922, hF289923, e289927, e289928, e289929, e289930, r289931, q289932, q289933, q289934, q289935, q289936⟩ ih289926
              have tv289941 := congrArg Int32.toInt e289927
              have t289944 := congrArg Int32.toInt ((q289935 2 (by decide) (Or.inl (by omega))).trans ((eA_c (q268549.2.1 233 (by decide))).trans hv214812))
              refine At.enter rfl ?_
              refine r_iload_n e289930 ?_
              refine r_aload_n e289928 ?_
              refine q_getI (Sh.int hI289922.1 kx_231 rfl) v268578 ((q289932.1 231 17 (by decide)).trans hv268578) ?_
              have bv289946 := q_bnd x289920
              have bv289947 := q_bnd v268578
              refine r_ics 187 rfl (fun c289945 => ?_) (fun c289945 => ?_)
              · have c289945_ : x289920.toInt ≥ v268578.toInt := en_i_ge_t c289945
                refine At.enter rfl ?_
                refine r_aload_n e289928 ?_
                refine q_getR (Sh.ref hI289922.1 kx_231 rfl) ?_
                refine r_iconst 2 rfl ?_
                refine r_dup2 ⟨rfl, rfl⟩ ?_
                refine q_iald (Sh.arr hI289922.1 ka_233) 2 rfl (by decide) v214812 ((q289935 2 (by decide) (Or.inl (by omega))).trans ((eA_c (q268549.2.1 233 (by decide))).trans hv214812)) ?_
                refine r_iconst 1 rfl ?_
                refine q_iadd (v214812.toInt + 1) rfl (by omega) (fun v289948 hv289948 => ?_)
                refine q_iast (Sh.arr hI289922.1 ka_233) (2) rfl (by decide) ?_
                have x289951 := HI.eqA hI289922 (p := 233) (j := 2) (((q289935 2 (by decide) (Or.inl (by omega))).trans ((eA_c (q268549.2.1 233 (by decide))).trans hv214812)))
                have hI289949 := HI.wt2 hI289922 (v := v289948) (by omega) (by omega) (by rw [show 110 + 900 * (eA _ 233 2).toInt = v279302.toInt by omega]; exact LAW.mk (q268555 (by omega)).2 ⟨by omega, by omega⟩ (by omega) q289933 q289934 (fun i i0 i1 => q289936 i i0 (by omega)))
                have hF289950 := Fr.wA (p := 233) (j := 2) (v := v289948) hF289923 rfl
                refine r_aload_n e289928 ?_
                refine r_aload_n e289928 ?_
                refine q_getR (Sh.ref hI289949.1 kx_231 rfl) ?_
                refine r_iconst 2 rfl ?_
                refine q_iald (Sh.arr hI289949.1 ka_233) 2 rfl (by decide) v289948 (eA_sA_eq hI289922.1 ka_233 (by first | rfl | omega) (by first | decide | omega) (by first | decide | omega)) ?_
                refine r_iconst 1 rfl ?_
                refine q_isub (v289948.toInt - 1) rfl (by omega) (fun v289952 hv289952 => ?_)
                refine r_callV 255 rfl [.ref 231, .int v289952] [] (Nat.le_of_ble_eq_true rfl) rfl (T_X11_tell_231 _ hI289949 v289952 (by omega)) ?_
                rintro _ _ ⟨g289953, rfl, hI289954, hF289955, v289956, rfl, hr289957⟩
                refine At.sti ?_
                have hF289958 := Fr.tr hF289950 hF289955 rfl rfl
                refine At.enter rfl ?_
                refine r_ireti ?_
                have x289959 := HI.eqI hI289954 (p := 231) (b := 8) ((((hF289955.1 231 8 mf_X11_tell_231_231_8).trans (gI_sW)).trans e289927))
                have x289961 := HI.eqA hI0 (p := 233) (j := 2) (hv214812)
                have x289962 := HI.eqA hI289954 (p := 233) (j := 2) (((eA_c (hF289955.2.1 233 ma_X11_tell_231_233)).trans (eA_sA_eq hI289922.1 ka_233 (by first | rfl | omega) (by first | decide | omega) (by first | decide | omega))))
                obtain ⟨v289965, hv289965⟩ : ∃ v, gI g268540 231 13 = v := ⟨_, rfl⟩
                have tv289965 := congrArg Int32.toInt hv289965
                have x289968 := HI.eqI hI289954 (p := 231) (b := 13) ((((hF289955.1 231 13 mf_X11_tell_231_231_13).trans ((gI_sW).trans (q289932.1 231 13 (by decide)))).trans hv289965))
                have ce := CDM.end_ q268556
                have y289969 : pI g268540 11 = (gI g268540 231 11).toInt := rfl
                exact ⟨_, rfl, hI289954, hF289958, _, rfl, by omega, ⟨(fun i i0 i1 i2 => ((eA_c (hF289955.2.1 233 ma_X11_tell_231_233)).trans ((eA_sA_ne (i := i) hI289922.1 ka_233 (by omega) (by omega) (by omega)).trans ((q289935 i i0 (Or.inl (by omega))).trans (eA_c ((q268549.2.1 233 (by decide)))))))), by omega, Or.inr ⟨show (eA g0 233 2).toInt ≠ 6 from by omega, ⟨_, hskp0, Or.inl ⟨by omega, CLM.fin q268557 (show (gI g268540 231 14).toInt = 0 from by omega) (TKM.someC q268556 ((q268549.2.1 236 (by decide))) ((q268549.1 231 8 (by decide)))).choose_spec (by omega) (show (gI _ 231 13).toInt = (gI g268540 231 13).toInt from (by first | exact x289968.trans tv289965.symm | omega))⟩⟩, Or.inr ⟨show _ = (eA g0 233 2).toInt from by omega, by omega, show (eA _ 233 2).toInt = (eA g0 233 2).toInt + 1 from by omega⟩⟩, (LWG_mk (at_ := v279302.toInt) hskp0 q268558 (show (gI g268540 231 14).toInt = 0 from by omega) (TKM.someC q268556 ((q268549.2.1 236 (by decide))) ((q268549.1 231 8 (by decide)))).choose_spec (by omega) SMG_rf rfl rfl ⟨show 0 ≤ (gI _ 231 15).toInt from by omega, show (gI _ 231 15).toInt ≤ 12 from by omega⟩ ⟨show 0 ≤ (gI _ 231 17).toInt from by omega, show (gI _ 231 17).toInt ≤ 400 from by omega⟩ (by omega) ((congrArg Int32.toInt (((eA_c (hF289955.2.1 233 ma_X11_tell_231_233)).trans (eA_sA_ne (i := v279302.toInt + 1) hI289922.1 ka_233 (by omega) (by omega) (by omega))))).trans q289933) (fun i i0 i1 => (congrArg Int32.toInt (((eA_c (hF289955.2.1 233 ma_X11_tell_231_233)).trans (eA_sA_ne (i := v279302.toInt + 2 + i) hI289922.1 ka_233 (by omega) (by omega) (by omega))))).trans (q289934 i i0 (by have i1 : i < 8 * (gI _ 231 15).toInt := i1; omega))) (fun i i0 i1 => (fun z => ⟨(congrArg Int32.toInt (((eA_c (hF289955.2.1 233 ma_X11_tell_231_233)).trans (eA_sA_ne (i := v279302.toInt + 98 + 2 * i) hI289922.1 ka_233 (by omega) (by omega) (by omega))))).trans z.1, (congrArg Int32.toInt (((eA_c (hF289955.2.1 233 ma_X11_tell_231_233)).trans (eA_sA_ne (i := v279302.toInt + 98 + 2 * i + 1) hI289922.1 ka_233 (by omega) (by omega) (by omega))))).trans z.2⟩) (q289936 i i0 (by have i1 : i < (gI _ 231 17).toInt := i1; omega)))), (show ROWE g0 _ from (fun i i0 i1 i2 => ((eA_c (hF289955.2.1 233 ma_X11_tell_231_233)).trans ((eA_sA_ne (i := i) hI289922.1 ka_233 (by omega) (by omega) (by omega)).trans ((q289935 i (by omega) (by omega)).trans (eA_c ((q268549.2.1 233 (by decide))))))))), (fun hr => False.elim (by omega))⟩⟩
              · have c289945_ : x289920.toInt < v268578.toInt := en_i_ge_f c289945
                refine At.enter rfl ?_
                refine r_aload_n e289928 ?_
                refine q_getR (Sh.ref hI289922.1 kx_231 rfl) ?_
                refine r_iload_n e289929 ?_
                refine r_bipush 98 rfl ?_
                refine q_iadd (v279302.toInt + 98) rfl (by omega) (fun v289972 hv289972 => ?_)
                refine r_iconst 2 rfl ?_
                refine r_iload_n e289930 ?_
                refine q_imul (2 * x289920.toInt) rfl (by omega) (fun v289973 hv289973 => ?_)
                refine q_iadd (v289972.toInt + v289973.toInt) rfl (by omega) (fun v289974 hv289974 => ?_)
                refine r_aload_n e289928 ?_
                refine q_getR (Sh.ref hI289922.1 kx_231 rfl) ?_
                refine r_iload_n e289930 ?_
                obtain ⟨v289975, hv289975⟩ : ∃ v, eA g268540 238 x289920.toInt = v := ⟨_, rfl⟩
                refine q_iald (Sh.arr hI289922.1 ka_238) x289920.toInt rfl (by omega) v289975 ((eA_c (q289932.2.1 238 (by decide))).trans hv289975) ?_
                refine q_iast (Sh.arr hI289922.1 ka_233) ((900 * v214812.toInt + 2 * x289920.toInt + 208)) (by omega) (by omega) ?_
                have x289978 := HI.eqA hI289922 (p := 233) (j := 2) (((q289935 2 (by decide) (Or.inl (by omega))).trans ((eA_c (q268549.2.1 233 (by decide))).trans hv214812)))
                have hI289976 := HI.wfree hI289922 (j := (900 * v214812.toInt + 2 * x289920.toInt + 208)) (v := v289975) ⟨by omega, by omega⟩
                have hF289977 := Fr.wA (p := 233) (j := (900 * v214812.toInt + 2 * x289920.toInt + 208)) (v := v289975) hF289923 rfl
                refine r_aload_n e289928 ?_
                refine q_getR (Sh.ref hI289976.1 kx_231 rfl) ?_
                refine r_iload_n e289929 ?_
                refine r_bipush 98 rfl ?_
                refine q_iadd (v279302.toInt + 98) rfl (by omega) (fun v289979 hv289979 => ?_)
                refine r_iconst 2 rfl ?_
                refine r_iload_n e289930 ?_
                refine q_imul (2 * x289920.toInt) rfl (by omega) (fun v289980 hv289980 => ?_)
                refine q_iadd (v289979.toInt + v289980.toInt) rfl (by omega) (fun v289981 hv289981 => ?_)
                refine r_iconst 1 rfl ?_
                refine q_iadd (v289981.toInt + 1) rfl (by omega) (fun v289982 hv289982 => ?_)
                refine r_aload_n e289928 ?_
                refine q_getR (Sh.ref hI289976.1 kx_231 rfl) ?_
                refine r_iload_n e289930 ?_
                obtain ⟨v289983, hv289983⟩ : ∃ v, eA g268540 239 x289920.toInt = v := ⟨_, rfl⟩
                refine q_iald (Sh.arr hI289976.1 ka_239) x289920.toInt rfl (by omega) v289983 ((eA_c ((gA_sA_ne (by decide)).trans (q289932.2.1 239 (by decide)))).trans hv289983) ?_
                refine q_iast (Sh.arr hI289976.1 ka_233) ((900 * v214812.toInt + 2 * x289920.toInt + 209)) (by omega) (by omega) ?_
                have x289986 := HI.eqA hI289976 (p := 233) (j := 2) (((eA_sA_ne hI289922.1 ka_233 (by first | decide | omega) (by first | decide | omega) (by first | decide | omega)).trans ((q289935 2 (by decide) (Or.inl (by omega))).trans ((eA_c (q268549.2.1 233 (by decide))).trans hv214812))))
                have hI289984 := HI.wfree hI289976 (j := (900 * v214812.toInt + 2 * x289920.toInt + 209)) (v := v289983) ⟨by omega, by omega⟩
                have hF289985 := Fr.wA (p := 233) (j := (900 * v214812.toInt + 2 * x289920.toInt + 209)) (v := v289983) hF289977 rfl
                refine q_iinc e289930 (x289920.toInt + 1) rfl (by omega) (fun v289987 hv289987 => ?_)
                refine r_goto ?_
                exact ih289926 (400 - v289987.toInt) _ _ ⟨v289987, by first | rfl | omega, hI289984, hF289985, (((gI_sW).trans (gI_sW)).trans e289927), (w_p1 (by decide) (Or.inr rfl) e289928), (w_p1 (by decide) (Or.inr rfl) e289929), (w_e1 _ _ _), by omega, (Fr.wA (p := 233) (Fr.wA (p := 233) q289932 rfl) rfl), ((congrArg Int32.toInt (((eA_sA_ne (i := v279302.toInt + 1) hI289976.1 ka_233 (by omega) (by omega) (by omega)).trans (eA_sA_ne (i := v279302.toInt + 1) hI289922.1 ka_233 (by omega) (by omega) (by omega))))).trans q289933), (fun i i0 i1 => (congrArg Int32.toInt (((eA_sA_ne (i := v279302.toInt + 2 + i) hI289976.1 ka_233 (by omega) (by omega) (by omega)).trans (eA_sA_ne (i := v279302.toInt + 2 + i) hI289922.1 ka_233 (by omega) (by omega) (by omega))))).trans (q289934 i i0 i1)), (fun i i0 i1 => (((eA_sA_ne (i := i) hI289976.1 ka_233 (by omega) (by omega) (by omega)).trans (eA_sA_ne (i := i) hI289922.1 ka_233 (by omega) (by omega) (by omega)))).trans (q289935 i i0 i1)), (fun i i0 i1 => (Decidable.em (i = x289920.toInt)).elim (fun e => by rw [e]; exact ⟨((congrArg Int32.toInt ((eA_sA_ne (i := v279302.toInt + 98 + 2 * x289920.toInt) hI289976.1 ka_233 (by omega) (by omega) (by omega)).trans (eA_sA_eq hI289922.1 ka_233 (by omega) (by omega) (by omega)))).trans (congrArg Int32.toInt hv289975).symm), ((congrArg Int32.toInt (eA_sA_eq hI289976.1 ka_233 (by omega) (by omega) (by omega))).trans (congrArg Int32.toInt hv289983).symm)⟩) (fun e => ⟨(congrArg Int32.toInt (((eA_sA_ne (i := v279302.toInt + 98 + 2 * i) hI289976.1 ka_233 (by omega) (by omega) (by omega)).trans (eA_sA_ne (i := v279302.toInt + 98 + 2 * i) hI289922.1 ka_233 (by omega) (by omega) (by omega))))).trans (q289936 i i0 (by omega)).1, (congrArg Int32.toInt (((eA_sA_ne (i := v279302.toInt + 98 + 2 * i + 1) hI289976.1 ka_233 (by omega) (by omega) (by omega)).trans (eA_sA_ne (i := v279302.toInt + 98 + 2 * i + 1) hI289922.1 ka_233 (by omega) (by omega) (by omega))))).trans (q289936 i i0 (by omega)).2⟩))⟩ ⟨by omega, by omega⟩
            · have c289322_ : x289297.toInt < v289321.toInt := en_i_ge_f c289322
              refine At.enter rfl ?_
              refine r_aload_n e289305 ?_
              refine q_getR (Sh.ref hI289299.1 kx_231 rfl) ?_
              refine r_iload_n e289306 ?_
              refine r_iconst 2 rfl ?_
              refine q_iadd (v279302.toInt + 2) rfl (by omega) (fun v289988 hv289988 => ?_)
              refine r_iload_n e289307 ?_
              refine q_iadd (v289988.toInt + x289297.toInt) rfl (by omega) (fun v289989 hv289989 => ?_)
              refine r_aload_n e289305 ?_
              refine q_getR (Sh.ref hI289299.1 kx_231 rfl) ?_
              refine r_iload_n e289307 ?_
              obtain ⟨v289990, hv289990⟩ : ∃ v, eA g268540 237 x289297.toInt = v := ⟨_, rfl⟩
              refine q_iald (Sh.arr hI289299.1 ka_237) x289297.toInt rfl (by omega) v289990 ((eA_c (q289309.2.1 237 (by decide))).trans hv289990) ?_
              refine q_iast (Sh.arr hI289299.1 ka_233) ((900 * v214812.toInt + x289297.toInt + 112)) (by omega) (by omega) ?_
              have x289993 := HI.eqA hI289299 (p := 233) (j := 2) (((q289312 2 (by decide) (Or.inl (by omega))).trans ((eA_c (q268549.2.1 233 (by decide))).trans hv214812)))
              have hI289991 := HI.wfree hI289299 (j := (900 * v214812.toInt + x289297.toInt + 112)) (v := v289990) ⟨by omega, by omega⟩
              have hF289992 := Fr.wA (p := 233) (j := (900 * v214812.toInt + x289297.toInt + 112)) (v := v289990) hF289300 rfl
              refine q_iinc e289307 (x289297.toInt + 1) rfl (by omega) (fun v289994 hv289994 => ?_)
              refine r_goto ?_
              exact ih289303 (96 - v289994.toInt) _ _ ⟨v289994, by first | rfl | omega, hI289991, hF289992, ((gI_sW).trans e289304), (w_p1 (by decide) (Or.inr rfl) e289305), (w_p1 (by decide) (Or.inr rfl) e289306), (w_e1 _ _ _), by omega, (Fr.wA (p := 233) q289309 rfl), ((congrArg Int32.toInt ((eA_sA_ne (i := v279302.toInt + 1) hI289299.1 ka_233 (by omega) (by omega) (by omega)))).trans q289310), (fun i i0 i1 => (Decidable.em (i = x289297.toInt)).elim (fun e => by rw [e]; exact (congrArg Int32.toInt (eA_sA_eq hI289299.1 ka_233 (by omega) (by omega) (by omega))).trans (congrArg Int32.toInt hv289990).symm) (fun e => (congrArg Int32.toInt ((eA_sA_ne (i := v279302.toInt + 2 + i) hI289299.1 ka_233 (by omega) (by omega) (by omega)))).trans (q289311 i i0 (by omega)))), (fun i i0 i1 => ((eA_sA_ne (i := i) hI289299.1 ka_233 (by omega) (by omega) (by omega))).trans (q289312 i i0 i1))⟩ ⟨by omega, by omega⟩
          · have c279300_ : v268574.toInt ≠ 0 := en_k_eq_f c279300
            exfalso; omega
        · have c279297_ : v268572.toInt ≠ 0 := en_k_eq_f c279297
          refine At.enter rfl ?_
          refine r_aload_n e268547 ?_
          refine r_iconst 0 rfl ?_
          refine r_callV 97 rfl [.ref 231, .int 0] [] (Nat.le_of_ble_eq_true rfl) rfl (T_X11_must_231 _ hI268541 0 (by decide) (by refine ⟨?_, ?_, ?_, ?_⟩ <;> omega) q268554 q268556) ?_
          rintro _ _ ⟨g290000, rfl, hI290001, hF290002, rfl, hr290004⟩
          refine At.stn ?_
          have hF290005 := Fr.tr hF268542 hF290002 rfl rfl
          have x290012 := HI.eqI hI290001 (p := 231) (b := 8) ((((hF290002.1 231 8 mf_X11_must_231_231_8).trans (q268549.1 231 8 (by decide))).trans hv1))
          obtain ⟨v290013, hv290013⟩ : ∃ v, gI g290000 231 9 = v := ⟨_, rfl⟩
          have rv290013 := RgF.at hI290001.2.1 (p := 231) (b := 9) rfl
          rw [hv290013] at rv290013
          dsimp only at rv290013
          have tv290013 := congrArg Int32.toInt hv290013
          obtain ⟨v290015, hv290015⟩ : ∃ v, gI g290000 231 10 = v := ⟨_, rfl⟩
          have rv290015 := RgF.at hI290001.2.1 (p := 231) (b := 10) rfl
          rw [hv290015] at rv290015
          dsimp only at rv290015
          have tv290015 := congrArg Int32.toInt hv290015
          obtain ⟨v290017, hv290017⟩ : ∃ v, gI g290000 231 11 = v := ⟨_, rfl⟩
          have tv290017 := congrArg Int32.toInt hv290017
          obtain ⟨v290019, hv290019⟩ : ∃ v, gI g290000 231 14 = v := ⟨_, rfl⟩
          have tv290019 := congrArg Int32.toInt hv290019
          obtain ⟨c290021, c290022, c290023, c290024, c290025, c290026, c290027, c290028⟩ := hr290004
          obtain ⟨v290029, hv290029⟩ : ∃ v, gI g268540 231 13 = v := ⟨_, rfl⟩
          have tv290029 := congrArg Int32.toInt hv290029
          obtain ⟨v290032, hv290032⟩ : ∃ v, gI g290000 231 13 = v := ⟨_, rfl⟩
          have tv290032 := congrArg Int32.toInt hv290032
          have hK290034 := c290028.1
          refine At.enter rfl ?_
          refine r_aload_n e268547 ?_
          refine r_iconst 0 rfl ?_
          refine q_putI (Sh.int hI290001.1 kx_231 rfl) rfl ?_
          have hI290035 := HI.wI1 hI290001 kx_231 rfl (p := 231) (b := 8) (v := 0) rfl (by decide)
          have hF290036 := Fr.wI (p := 231) (b := 8) (v := 0) hF290005 rfl
          refine r_aload_n e268547 ?_
          refine q_getI (Sh.int hI290035.1 kx_231 rfl) v290019 ((gI_sI_ne (by decide)).trans hv290019) ?_
          refine r_ifs 109 rfl (fun c290037 => ?_) (fun c290037 => ?_)
          · have c290037_ : v290019.toInt = 0 := en_k_eq_t c290037
            obtain ⟨i290038, i290039, i290040⟩ := c290027 (by omega)
            obtain ⟨i290041, i290042⟩ := MUSTP.z c290028 (by omega) (by omega)
            refine At.enter rfl ?_
            refine r_bipush 110 rfl ?_
            refine r_sipush 900 rfl ?_
            refine r_aload_n e268547 ?_
            refine q_getR (Sh.ref hI290035.1 kx_231 rfl) ?_
            refine r_iconst 2 rfl ?_
            refine q_iald (Sh.arr hI290035.1 ka_233) 2 rfl (by decide) v214812 ((eA_c ((gA_sI).trans ((hF290002.2.1 233 ma_X11_must_231_233).trans (q268549.2.1 233 (by decide))))).trans hv214812) ?_
            refine q_imul (900 * v214812.toInt) rfl (by omega) (fun v290043 hv290043 => ?_)
            refine q_iadd (110 + v290043.toInt) rfl (by omega) (fun v290044 hv290044 => ?_)
            refine r_istore_n _ rfl ?_
            refine r_aload_n (w_p1 (by decide) (Or.inr rfl) e268547) ?_
            refine q_getR (Sh.ref hI290035.1 kx_231 rfl) ?_
            refine r_iload_n (w_e1 _ _ _) ?_
            refine r_iconst 1 rfl ?_
            refine q_iadd (v290044.toInt + 1) rfl (by omega) (fun v290045 hv290045 => ?_)
            refine r_aload_n (w_p1 (by decide) (Or.inr rfl) e268547) ?_
            refine q_getI (Sh.int hI290035.1 kx_231 rfl) v268576 (((gI_sI_ne (by decide)).trans (hF290002.1 231 15 mf_X11_must_231_231_15)).trans hv268576) ?_
            refine q_iast (Sh.arr hI290035.1 ka_233) ((900 * v214812.toInt + 111)) (by omega) (by omega) ?_
            have x290048 := HI.eqA hI290035 (p := 233) (j := 2) ((((eA_c gA_sI).trans ((eA_c (hF290002.2.1 233 ma_X11_must_231_233)).trans (eA_c (q268549.2.1 233 (by decide))))).trans hv214812))
            have hI290046 := HI.wfree hI290035 (j := (900 * v214812.toInt + 111)) (v := v268576) ⟨by omega, by omega⟩
            have hF290047 := Fr.wA (p := 233) (j := (900 * v214812.toInt + 111)) (v := v268576) hF290036 rfl
            refine r_iconst 0 rfl ?_
            refine r_istore_n _ rfl ?_
            refine Ar.fall 144 rfl ?_
            have x300056 := HI.eqI hI290001 (p := 231) (b := 15) (((hF290002.1 231 15 mf_X11_must_231_231_15).trans hv268576))
            have x300057 := HI.eqI hI290001 (p := 231) (b := 17) (((hF290002.1 231 17 mf_X11_must_231_231_17).trans hv268578))
            refine w_loopI (fun n_ l_ g_ => ∃ x300039 : Int32, n_ = 96 - x300039.toInt ∧ HI g_ ∧ Fr F_X11_law_231 A_X11_law_231 g0 g_ ∧ gI g_ 231 8 = 0 ∧ en_get 0 l_ = some (.ref 231) ∧ en_get 1 l_ = some (.int v290044) ∧ en_get 2 l_ = some (.int x300039) ∧ (0 ≤ x300039.toInt ∧ x300039.toInt ≤ 96) ∧ (Fr [(231, 8)] [233] g290000 g_) ∧ ((eA g_ 233 (v290044.toInt + 1)).toInt = (gI g290000 231 15).toInt) ∧ (∀ i : Int, 0 ≤ i → i < x300039.toInt → (eA g_ 233 (v290044.toInt + 2 + i)).toInt = (eA g290000 237 i).toInt) ∧ (∀ i : Int, 0 ≤ i → (i < v290044.toInt + 1 ∨ v290044.toInt + 900 ≤ i) → eA g_ 233 i = eA g290000 233 i)) ?_ (96 - 0) ⟨0, by first | rfl | omega, hI290046, hF290047, ((gI_sW).trans (gI_sI_eq hI290001.1 kx_231 rfl _)), (w_p1 (by decide) (Or.inr rfl) (w_p1 (by decide) (Or.inr rfl) e268547)), (w_p1 (by decide) (Or.inr rfl) (w_e1 _ _ _)), (w_e1 _ _ _), by decide, (Fr.wA (p := 233) (Fr.wI (p := 231) (b := 8) Fr.rf rfl) rfl), ((congrArg Int32.toInt (eA_sA_eq hI290035.1 ka_233 (by omega) (by omega) (by omega))).trans (by omega)), (fun i i0 i1 => absurd i1 (by omega)), (fun i i0 i1 => ((eA_sA_ne (i := i) hI290035.1 ka_233 (by omega) (by omega) (by omega)).trans (eA_c gA_sI)))⟩
            rintro n300044 l300043 g300040 ⟨x300039, hm300058, hI300041, hF300042, e300046, e300047, e300048, e300049, r300050, q300051, q300052, q300053, q300054⟩ ih300045
            have tv300059 := congrArg Int32.toInt e300046
            have t300062 := congrArg Int32.toInt ((q300054 2 (by decide) (Or.inl (by omega))).trans (((eA_c (hF290002.2.1 233 ma_X11_must_231_233)).trans (eA_c (q268549.2.1 233 (by decide)))).trans hv214812))
            refine At.enter rfl ?_
            refine r_iload_n e300049 ?_
            refine r_bipush 8 rfl ?_
            refine r_aload_n e300047 ?_
            refine q_getI (Sh.int hI300041.1 kx_231 rfl) v268576 (((q300051.1 231 15 (by decide)).trans (hF290002.1 231 15 mf_X11_must_231_231_15)).trans hv268576) ?_
            refine q_imul (8 * v268576.toInt) rfl (by omega) (fun v300063 hv300063 => ?_)
            have bv300065 := q_bnd x300039
            have bv300066 := q_bnd v300063
            refine r_ics 155 rfl (fun c300064 => ?_) (fun c300064 => ?_)
            · have c300064_ : x300039.toInt ≥ v300063.toInt := en_i_ge_t c300064
              refine At.enter rfl ?_
              refine r_iconst 0 rfl ?_
              refine r_istore_n _ rfl ?_
              refine Ar.fall 179 rfl ?_
              refine w_loopI (fun n_ l_ g_ => ∃ x300662 : Int32, n_ = 400 - x300662.toInt ∧ HI g_ ∧ Fr F_X11_law_231 A_X11_law_231 g0 g_ ∧ gI g_ 231 8 = 0 ∧ en_get 0 l_ = some (.ref 231) ∧ en_get 1 l_ = some (.int v290044) ∧ en_get 2 l_ = some (.int x300662) ∧ (0 ≤ x300662.toInt ∧ x300662.toInt ≤ 400) ∧ (Fr [(231, 8)] [233] g290000 g_) ∧ ((eA g_ 233 (v290044.toInt + 1)).toInt = (gI g290000 231 15).toInt) ∧ (∀ i : Int, 0 ≤ i → i < 8 * (gI g290000 231 15).toInt → (eA g_ 233 (v290044.toInt + 2 + i)).toInt = (eA g290000 237 i).toInt) ∧ (∀ i : Int, 0 ≤ i → (i < v290044.toInt + 1 ∨ v290044.toInt + 900 ≤ i) → eA g_ 233 i = eA g290000 233 i) ∧ (∀ i : Int, 0 ≤ i → i < x300662.toInt → (eA g_ 233 (v290044.toInt + 98 + 2 * i)).toInt = (eA g290000 238 i).toInt ∧ (eA g_ 233 (v290044.toInt + 98 + 2 * i + 1)).toInt = (eA g290000 239 i).toInt)) ?_ (400 - 0) ⟨0, by first | rfl | omega, hI300041, hF300042, e300046, (w_p1 (by decide) (Or.inr rfl) e300047), (w_p1 (by decide) (Or.inr rfl) e300048), (w_e1 _ _ _), by decide, (Fr.tr Fr.rf q300051 rfl rfl), ((congrArg Int32.toInt (rfl)).trans q300052), (fun i i0 i1 => q300053 i i0 (by omega)), (fun i i0 i1 => (rfl).trans (q300054 i i0 i1)), (fun i i0 i1 => absurd i1 (by omega))⟩
              rintro n300667 l300666 g300663 ⟨x300662, hm300682, hI300664, hF300665, e300669, e300670, e300671, e300672, r300673, q300674, q300675, q300676, q300677, q300678⟩ ih300668
              have tv300683 := congrArg Int32.toInt e300669
              have t300686 := congrArg Int32.toInt ((q300677 2 (by decide) (Or.inl (by omega))).trans (((eA_c (hF290002.2.1 233 ma_X11_must_231_233)).trans (eA_c (q268549.2.1 233 (by decide)))).trans hv214812))
              refine At.enter rfl ?_
              refine r_iload_n e300672 ?_
              refine r_aload_n e300670 ?_
              refine q_getI (Sh.int hI300664.1 kx_231 rfl) v268578 (((q300674.1 231 17 (by decide)).trans (hF290002.1 231 17 mf_X11_must_231_231_17)).trans hv268578) ?_
              have bv300688 := q_bnd x300662
              have bv300689 := q_bnd v268578
              refine r_ics 187 rfl (fun c300687 => ?_) (fun c300687 => ?_)
              · have c300687_ : x300662.toInt ≥ v268578.toInt := en_i_ge_t c300687
                refine At.enter rfl ?_
                refine r_aload_n e300670 ?_
                refine q_getR (Sh.ref hI300664.1 kx_231 rfl) ?_
                refine r_iconst 2 rfl ?_
                refine r_dup2 ⟨rfl, rfl⟩ ?_
                refine q_iald (Sh.arr hI300664.1 ka_233) 2 rfl (by decide) v214812 ((q300677 2 (by decide) (Or.inl (by omega))).trans (((eA_c (hF290002.2.1 233 ma_X11_must_231_233)).trans (eA_c (q268549.2.1 233 (by decide)))).trans hv214812)) ?_
                refine r_iconst 1 rfl ?_
                refine q_iadd (v214812.toInt + 1) rfl (by omega) (fun v300690 hv300690 => ?_)
                refine q_iast (Sh.arr hI300664.1 ka_233) (2) rfl (by decide) ?_
                have x300693 := HI.eqA hI300664 (p := 233) (j := 2) (((q300677 2 (by decide) (Or.inl (by omega))).trans (((eA_c (hF290002.2.1 233 ma_X11_must_231_233)).trans (eA_c (q268549.2.1 233 (by decide)))).trans hv214812)))
                have hI300691 := HI.wt2 hI300664 (v := v300690) (by omega) (by omega) (by rw [show 110 + 900 * (eA _ 233 2).toInt = v290044.toInt by omega]; exact LAW.mk (CLS.cong2 (q268555 (by omega)).2 hI290001 ((hF290002.2.1 238 ma_X11_must_231_238)) ((hF290002.2.1 239 ma_X11_must_231_239)) ((hF290002.2.1 237 ma_X11_must_231_237)) ((hF290002.1 231 15 mf_X11_must_231_231_15)) ((hF290002.1 231 17 mf_X11_must_231_231_17))) ⟨by omega, by omega⟩ (by omega) q300675 q300676 (fun i i0 i1 => q300678 i i0 (by omega)))
                have hF300692 := Fr.wA (p := 233) (j := 2) (v := v300690) hF300665 rfl
                refine r_aload_n e300670 ?_
                refine r_aload_n e300670 ?_
                refine q_getR (Sh.ref hI300691.1 kx_231 rfl) ?_
                refine r_iconst 2 rfl ?_
                refine q_iald (Sh.arr hI300691.1 ka_233) 2 rfl (by decide) v300690 (eA_sA_eq hI300664.1 ka_233 (by first | rfl | omega) (by first | decide | omega) (by first | decide | omega)) ?_
                refine r_iconst 1 rfl ?_
                refine q_isub (v300690.toInt - 1) rfl (by omega) (fun v300694 hv300694 => ?_)
                refine r_callV 255 rfl [.ref 231, .int v300694] [] (Nat.le_of_ble_eq_true rfl) rfl (T_X11_tell_231 _ hI300691 v300694 (by omega)) ?_
                rintro _ _ ⟨g300695, rfl, hI300696, hF300697, v300698, rfl, hr300699⟩
                refine At.sti ?_
                have hF300700 := Fr.tr hF300692 hF300697 rfl rfl
                refine At.enter rfl ?_
                refine r_ireti ?_
                have x300701 := HI.eqI hI300696 (p := 231) (b := 8) ((((hF300697.1 231 8 mf_X11_tell_231_231_8).trans (gI_sW)).trans e300669))
                have x300703 := HI.eqA hI0 (p := 233) (j := 2) (hv214812)
                have x300704 := HI.eqA hI300696 (p := 233) (j := 2) (((eA_c (hF300697.2.1 233 ma_X11_tell_231_233)).trans (eA_sA_eq hI300664.1 ka_233 (by first | rfl | omega) (by first | decide | omega) (by first | decide | omega))))
                have x300709 := HI.eqI hI300696 (p := 231) (b := 13) ((((hF300697.1 231 13 mf_X11_tell_231_231_13).trans ((gI_sW).trans (q300674.1 231 13 (by decide)))).trans hv290032))
                have ce := CDM.end_ q268556
                have y300710 : pI g268540 11 = (gI g268540 231 11).toInt := rfl
                have y300711 : (gI g290000 231 13).toInt = (gI g268540 231 9).toInt := (c290028.2.2.1 (show (gI g268540 231 14).toInt = 0 from by omega) (by omega)).2
                exact ⟨_, rfl, hI300696, hF300700, _, rfl, by omega, ⟨(fun i i0 i1 i2 => ((eA_c (hF300697.2.1 233 ma_X11_tell_231_233)).trans ((eA_sA_ne (i := i) hI300664.1 ka_233 (by omega) (by omega) (by omega)).trans ((q300677 i i0 (Or.inl (by omega))).trans (eA_c (((hF290002.2.1 233 ma_X11_must_231_233).trans (q268549.2.1 233 (by decide))))))))), by omega, Or.inr ⟨show (eA g0 233 2).toInt ≠ 6 from by omega, ⟨_, hskp0, Or.inl ⟨by omega, CLM.fin q268557 (show (gI g268540 231 14).toInt = 0 from by omega) (TKM.someC q268556 ((q268549.2.1 236 (by decide))) ((q268549.1 231 8 (by decide)))).choose_spec (by omega) (show (gI _ 231 13).toInt = (gI g268540 231 13).toInt from by omega)⟩⟩, Or.inr ⟨show _ = (eA g0 233 2).toInt from by omega, by omega, show (eA _ 233 2).toInt = (eA g0 233 2).toInt + 1 from by omega⟩⟩, (LWG_mk (at_ := v290044.toInt) hskp0 q268558 (show (gI g268540 231 14).toInt = 0 from by omega) (TKM.someC q268556 ((q268549.2.1 236 (by decide))) ((q268549.1 231 8 (by decide)))).choose_spec (by omega) (SMG_mk ((hF290002.2.1 238 ma_X11_must_231_238)) ((hF290002.2.1 239 ma_X11_must_231_239)) ((hF290002.1 231 17 mf_X11_must_231_231_17))) ((hF290002.2.1 237 ma_X11_must_231_237)) (pI.c ((hF290002.1 231 15 mf_X11_must_231_231_15))) ⟨show 0 ≤ (gI _ 231 15).toInt from by omega, show (gI _ 231 15).toInt ≤ 12 from by omega⟩ ⟨show 0 ≤ (gI _ 231 17).toInt from by omega, show (gI _ 231 17).toInt ≤ 400 from by omega⟩ (by omega) ((congrArg Int32.toInt (((eA_c (hF300697.2.1 233 ma_X11_tell_231_233)).trans (eA_sA_ne (i := v290044.toInt + 1) hI300664.1 ka_233 (by omega) (by omega) (by omega))))).trans q300675) (fun i i0 i1 => (congrArg Int32.toInt (((eA_c (hF300697.2.1 233 ma_X11_tell_231_233)).trans (eA_sA_ne (i := v290044.toInt + 2 + i) hI300664.1 ka_233 (by omega) (by omega) (by omega))))).trans (q300676 i i0 (by have i1 : i < 8 * (gI _ 231 15).toInt := i1; omega))) (fun i i0 i1 => (fun z => ⟨(congrArg Int32.toInt (((eA_c (hF300697.2.1 233 ma_X11_tell_231_233)).trans (eA_sA_ne (i := v290044.toInt + 98 + 2 * i) hI300664.1 ka_233 (by omega) (by omega) (by omega))))).trans z.1, (congrArg Int32.toInt (((eA_c (hF300697.2.1 233 ma_X11_tell_231_233)).trans (eA_sA_ne (i := v290044.toInt + 98 + 2 * i + 1) hI300664.1 ka_233 (by omega) (by omega) (by omega))))).trans z.2⟩) (q300678 i i0 (by have i1 : i < (gI _ 231 17).toInt := i1; omega)))), (show ROWE g0 _ from (fun i i0 i1 i2 => ((eA_c (hF300697.2.1 233 ma_X11_tell_231_233)).trans ((eA_sA_ne (i := i) hI300664.1 ka_233 (by omega) (by omega) (by omega)).trans ((q300677 i (by omega) (by omega)).trans (eA_c (((hF290002.2.1 233 ma_X11_must_231_233).trans (q268549.2.1 233 (by decide)))))))))), (fun hr => False.elim (by omega))⟩⟩
              · have c300687_ : x300662.toInt < v268578.toInt := en_i_ge_f c300687
                refine At.enter rfl ?_
                refine r_aload_n e300670 ?_
                refine q_getR (Sh.ref hI300664.1 kx_231 rfl) ?_
                refine r_iload_n e300671 ?_
                refine r_bipush 98 rfl ?_
                refine q_iadd (v290044.toInt + 98) rfl (by omega) (fun v300715 hv300715 => ?_)
                refine r_iconst 2 rfl ?_
                refine r_iload_n e300672 ?_
                refine q_imul (2 * x300662.toInt) rfl (by omega) (fun v300716 hv300716 => ?_)
                refine q_iadd (v300715.toInt + v300716.toInt) rfl (by omega) (fun v300717 hv300717 => ?_)
                refine r_aload_n e300670 ?_
                refine q_getR (Sh.ref hI300664.1 kx_231 rfl) ?_
                refine r_iload_n e300672 ?_
                obtain ⟨v300718, hv300718⟩ : ∃ v, eA g268540 238 x300662.toInt = v := ⟨_, rfl⟩
                refine q_iald (Sh.arr hI300664.1 ka_238) x300662.toInt rfl (by omega) v300718 ((eA_c ((q300674.2.1 238 (by decide)).trans (hF290002.2.1 238 ma_X11_must_231_238))).trans hv300718) ?_
                refine q_iast (Sh.arr hI300664.1 ka_233) ((900 * v214812.toInt + 2 * x300662.toInt + 208)) (by omega) (by omega) ?_
                have x300721 := HI.eqA hI300664 (p := 233) (j := 2) (((q300677 2 (by decide) (Or.inl (by omega))).trans (((eA_c (hF290002.2.1 233 ma_X11_must_231_233)).trans (eA_c (q268549.2.1 233 (by decide)))).trans hv214812)))
                have hI300719 := HI.wfree hI300664 (j := (900 * v214812.toInt + 2 * x300662.toInt + 208)) (v := v300718) ⟨by omega, by omega⟩
                have hF300720 := Fr.wA (p := 233) (j := (900 * v214812.toInt + 2 * x300662.toInt + 208)) (v := v300718) hF300665 rfl
                refine r_aload_n e300670 ?_
                refine q_getR (Sh.ref hI300719.1 kx_231 rfl) ?_
                refine r_iload_n e300671 ?_
                refine r_bipush 98 rfl ?_
                refine q_iadd (v290044.toInt + 98) rfl (by omega) (fun v300722 hv300722 => ?_)
                refine r_iconst 2 rfl ?_
                refine r_iload_n e300672 ?_
                refine q_imul (2 * x300662.toInt) rfl (by omega) (fun v300723 hv300723 => ?_)
                refine q_iadd (v300722.toInt + v300723.toInt) rfl (by omega) (fun v300724 hv300724 => ?_)
                refine r_iconst 1 rfl ?_
                refine q_iadd (v300724.toInt + 1) rfl (by omega) (fun v300725 hv300725 => ?_)
                refine r_aload_n e300670 ?_
                refine q_getR (Sh.ref hI300719.1 kx_231 rfl) ?_
                refine r_iload_n e300672 ?_
                obtain ⟨v300726, hv300726⟩ : ∃ v, eA g268540 239 x300662.toInt = v := ⟨_, rfl⟩
                refine q_iald (Sh.arr hI300719.1 ka_239) x300662.toInt rfl (by omega) v300726 ((eA_c ((gA_sA_ne (by decide)).trans ((q300674.2.1 239 (by decide)).trans (hF290002.2.1 239 ma_X11_must_231_239)))).trans hv300726) ?_
                refine q_iast (Sh.arr hI300719.1 ka_233) ((900 * v214812.toInt + 2 * x300662.toInt + 209)) (by omega) (by omega) ?_
                have x300729 := HI.eqA hI300719 (p := 233) (j := 2) (((eA_sA_ne hI300664.1 ka_233 (by first | decide | omega) (by first | decide | omega) (by first | decide | omega)).trans ((q300677 2 (by decide) (Or.inl (by omega))).trans (((eA_c (hF290002.2.1 233 ma_X11_must_231_233)).trans (eA_c (q268549.2.1 233 (by decide)))).trans hv214812))))
                have hI300727 := HI.wfree hI300719 (j := (900 * v214812.toInt + 2 * x300662.toInt + 209)) (v := v300726) ⟨by omega, by omega⟩
                have hF300728 := Fr.wA (p := 233) (j := (900 * v214812.toInt + 2 * x300662.toInt + 209)) (v := v300726) hF300720 rfl
                refine q_iinc e300672 (x300662.toInt + 1) rfl (by omega) (fun v300730 hv300730 => ?_)
                refine r_goto ?_
                exact ih300668 (400 - v300730.toInt) _ _ ⟨v300730, by first | rfl | omega, hI300727, hF300728, (((gI_sW).trans (gI_sW)).trans e300669), (w_p1 (by decide) (Or.inr rfl) e300670), (w_p1 (by decide) (Or.inr rfl) e300671), (w_e1 _ _ _), by omega, (Fr.wA (p := 233) (Fr.wA (p := 233) q300674 rfl) rfl), ((congrArg Int32.toInt (((eA_sA_ne (i := v290044.toInt + 1) hI300719.1 ka_233 (by omega) (by omega) (by omega)).trans (eA_sA_ne (i := v290044.toInt + 1) hI300664.1 ka_233 (by omega) (by omega) (by omega))))).trans q300675), (fun i i0 i1 => (congrArg Int32.toInt (((eA_sA_ne (i := v290044.toInt + 2 + i) hI300719.1 ka_233 (by omega) (by omega) (by omega)).trans (eA_sA_ne (i := v290044.toInt + 2 + i) hI300664.1 ka_233 (by omega) (by omega) (by omega))))).trans (q300676 i i0 i1)), (fun i i0 i1 => (((eA_sA_ne (i := i) hI300719.1 ka_233 (by omega) (by omega) (by omega)).trans (eA_sA_ne (i := i) hI300664.1 ka_233 (by omega) (by omega) (by omega)))).trans (q300677 i i0 i1)), (fun i i0 i1 => (Decidable.em (i = x300662.toInt)).elim (fun e => by rw [e]; exact ⟨((congrArg Int32.toInt ((eA_sA_ne (i := v290044.toInt + 98 + 2 * x300662.toInt) hI300719.1 ka_233 (by omega) (by omega) (by omega)).trans (eA_sA_eq hI300664.1 ka_233 (by omega) (by omega) (by omega)))).trans (congrArg Int32.toInt ((eA_c ((hF290002.2.1 238 ma_X11_must_231_238))).trans hv300718)).symm), ((congrArg Int32.toInt (eA_sA_eq hI300719.1 ka_233 (by omega) (by omega) (by omega))).trans (congrArg Int32.toInt ((eA_c ((hF290002.2.1 239 ma_X11_must_231_239))).trans hv300726)).symm)⟩) (fun e => ⟨(congrArg Int32.toInt (((eA_sA_ne (i := v290044.toInt + 98 + 2 * i) hI300719.1 ka_233 (by omega) (by omega) (by omega)).trans (eA_sA_ne (i := v290044.toInt + 98 + 2 * i) hI300664.1 ka_233 (by omega) (by omega) (by omega))))).trans (q300678 i i0 (by omega)).1, (congrArg Int32.toInt (((eA_sA_ne (i := v290044.toInt + 98 + 2 * i + 1) hI300719.1 ka_233 (by omega) (by omega) (by omega)).trans (eA_sA_ne (i := v290044.toInt + 98 + 2 * i + 1) hI300664.1 ka_233 (by omega) (by omega) (by omega))))).trans (q300678 i i0 (by omega)).2⟩))⟩ ⟨by omega, by omega⟩
            · have c300064_ : x300039.toInt < v300063.toInt := en_i_ge_f c300064
              refine At.enter rfl ?_
              refine r_aload_n e300047 ?_
              refine q_getR (Sh.ref hI300041.1 kx_231 rfl) ?_
              refine r_iload_n e300048 ?_
              refine r_iconst 2 rfl ?_
              refine q_iadd (v290044.toInt + 2) rfl (by omega) (fun v300731 hv300731 => ?_)
              refine r_iload_n e300049 ?_
              refine q_iadd (v300731.toInt + x300039.toInt) rfl (by omega) (fun v300732 hv300732 => ?_)
              refine r_aload_n e300047 ?_
              refine q_getR (Sh.ref hI300041.1 kx_231 rfl) ?_
              refine r_iload_n e300049 ?_
              obtain ⟨v300733, hv300733⟩ : ∃ v, eA g268540 237 x300039.toInt = v := ⟨_, rfl⟩
              refine q_iald (Sh.arr hI300041.1 ka_237) x300039.toInt rfl (by omega) v300733 ((eA_c ((q300051.2.1 237 (by decide)).trans (hF290002.2.1 237 ma_X11_must_231_237))).trans hv300733) ?_
              refine q_iast (Sh.arr hI300041.1 ka_233) ((900 * v214812.toInt + x300039.toInt + 112)) (by omega) (by omega) ?_
              have x300736 := HI.eqA hI300041 (p := 233) (j := 2) (((q300054 2 (by decide) (Or.inl (by omega))).trans (((eA_c (hF290002.2.1 233 ma_X11_must_231_233)).trans (eA_c (q268549.2.1 233 (by decide)))).trans hv214812)))
              have hI300734 := HI.wfree hI300041 (j := (900 * v214812.toInt + x300039.toInt + 112)) (v := v300733) ⟨by omega, by omega⟩
              have hF300735 := Fr.wA (p := 233) (j := (900 * v214812.toInt + x300039.toInt + 112)) (v := v300733) hF300042 rfl
              refine q_iinc e300049 (x300039.toInt + 1) rfl (by omega) (fun v300737 hv300737 => ?_)
              refine r_goto ?_
              exact ih300045 (96 - v300737.toInt) _ _ ⟨v300737, by first | rfl | omega, hI300734, hF300735, ((gI_sW).trans e300046), (w_p1 (by decide) (Or.inr rfl) e300047), (w_p1 (by decide) (Or.inr rfl) e300048), (w_e1 _ _ _), by omega, (Fr.wA (p := 233) q300051 rfl), ((congrArg Int32.toInt ((eA_sA_ne (i := v290044.toInt + 1) hI300041.1 ka_233 (by omega) (by omega) (by omega)))).trans q300052), (fun i i0 i1 => (Decidable.em (i = x300039.toInt)).elim (fun e => by rw [e]; exact (congrArg Int32.toInt (eA_sA_eq hI300041.1 ka_233 (by omega) (by omega) (by omega))).trans (congrArg Int32.toInt ((eA_c ((hF290002.2.1 237 ma_X11_must_231_237))).trans hv300733)).symm) (fun e => (congrArg Int32.toInt ((eA_sA_ne (i := v290044.toInt + 2 + i) hI300041.1 ka_233 (by omega) (by omega) (by omega)))).trans (q300053 i i0 (by omega)))), (fun i i0 i1 => ((eA_sA_ne (i := i) hI300041.1 ka_233 (by omega) (by omega) (by omega))).trans (q300054 i i0 i1))⟩ ⟨by omega, by omega⟩
          · have c290037_ : v290019.toInt ≠ 0 := en_k_eq_f c290037
            clear c290027
            have i300738 := MUSTP.w c290028 (by omega)
            refine At.enter rfl ?_
            refine r_aload_n e268547 ?_
            refine r_bipush (-6) rfl ?_
            refine r_callV 115 rfl [.ref 231, .int (-6)] [] (Nat.le_of_ble_eq_true rfl) rfl (T_X11_tell_231 _ hI290035 (-6) (by decide)) ?_
            rintro _ _ ⟨g300739, rfl, hI300740, hF300741, v300742, rfl, hr300743⟩
            refine At.sti ?_
            have hF300744 := Fr.tr hF290036 hF300741 rfl rfl
            have zv300745 : ((-6) : Int32).toInt = (-6) := rfl
            refine At.enter rfl ?_
            refine r_ireti ?_
            have x300746 := HI.eqI hI300740 (p := 231) (b := 8) (((hF300741.1 231 8 mf_X11_tell_231_231_8).trans (gI_sI_eq hI290001.1 kx_231 rfl _)))
            have x300748 := HI.eqA hI0 (p := 233) (j := 2) (hv214812)
            have x300749 := HI.eqA hI300740 (p := 233) (j := 2) ((((eA_c (hF300741.2.1 233 ma_X11_tell_231_233)).trans ((eA_c gA_sI).trans ((eA_c (hF290002.2.1 233 ma_X11_must_231_233)).trans (eA_c (q268549.2.1 233 (by decide)))))).trans hv214812))
            have x300754 := HI.eqI hI300740 (p := 231) (b := 13) ((((hF300741.1 231 13 mf_X11_tell_231_231_13).trans (gI_sI_ne (by decide))).trans hv290032))
            have ce := CDM.end_ q268556
            have y300755 : pI g268540 11 = (gI g268540 231 11).toInt := rfl
            have y300756 : (gI g290000 231 13).toInt = (gI g268540 231 9).toInt := (c290028.2.2.1 (show (gI g268540 231 14).toInt = 0 from by omega) (by omega)).2
            exact ⟨_, rfl, hI300740, hF300744, _, rfl, by omega, ⟨(fun i i0 i1 i2 => eA_c (((hF300741.2.1 233 ma_X11_tell_231_233).trans ((gA_sI).trans ((hF290002.2.1 233 ma_X11_must_231_233).trans (q268549.2.1 233 (by decide))))))), by omega, Or.inr ⟨show (eA g0 233 2).toInt ≠ 6 from by omega, ⟨_, hskp0, Or.inr ⟨by omega, CLM.faild q268557 (show (gI g268540 231 14).toInt = 0 from by omega) (TKM.someC q268556 ((q268549.2.1 236 (by decide))) ((q268549.1 231 8 (by decide)))).choose_spec (by omega) (by omega) (show (gI _ 231 13).toInt = (gI g268540 231 9).toInt from by omega)⟩⟩, Or.inl ⟨by omega, (show (eA _ 233 2).toInt = (eA g0 233 2).toInt from by omega)⟩⟩, (fun h1 => absurd (show _ = (-6 : Int) from by omega) h1), (show ROWE g0 _ from (fun i i0 i1 i2 => eA_c (((hF300741.2.1 233 ma_X11_tell_231_233).trans ((gA_sI).trans ((hF290002.2.1 233 ma_X11_must_231_233).trans (q268549.2.1 233 (by decide)))))))), (fun hr i i0 i1 => eA_c (((hF300741.2.1 233 ma_X11_tell_231_233).trans ((gA_sI).trans ((hF290002.2.1 233 ma_X11_must_231_233).trans (q268549.2.1 233 (by decide)))))))⟩⟩
    · have c268580_ : v268574.toInt = 0 := en_k_ne_f c268580
      refine At.enter rfl ?_
      refine r_aload_n e268547 ?_
      refine r_bipush 59 rfl ?_
      have zv300759 : (59 : Int32).toInt = 59 := rfl
      refine r_callV 64 rfl [.ref 231, .int 59] [] (Nat.le_of_ble_eq_true rfl) rfl (T_X11_isSign_231 _ hI268541 59 (by omega)) ?_
      rintro _ _ ⟨g300760, rfl, hI300761, hF300762, v300763, rfl, hr300764⟩
      refine At.sti ?_
      have hF300765 := Fr.tr hF268542 hF300762 rfl rfl
      have x300768 := HI.eqI hI300761 (p := 231) (b := 11) (((hF300762.1 231 11 mf_X11_isSign_231_231_11).trans hv268572))
      have hb300769 : BL (CDM g268540 = 14) v300763.toInt := ISM.sign (c := 14) hr300764.2.2 q268556 (isSC_d (by omega)) (by decide +kernel)
      refine At.enter rfl ?_
      refine r_ifs 67 rfl (fun c300770 => ?_) (fun c300770 => ?_)
      · have c300770_ : v300763.toInt = 0 := en_k_eq_t c300770
        have i300771 := BL.no hb300769 (by omega)
        refine At.enter rfl ?_
        refine r_aload_n e268547 ?_
        refine q_getI (Sh.int hI300761.1 kx_231 rfl) v268574 ((hF300762.1 231 14 mf_X11_isSign_231_231_14).trans hv268574) ?_
        refine r_ifs 85 rfl (fun c300772 => ?_) (fun c300772 => ?_)
        · have c300772_ : v268574.toInt ≠ 0 := en_k_ne_t c300772
          exfalso; omega
        · have c300772_ : v268574.toInt = 0 := en_k_ne_f c300772
          refine At.enter rfl ?_
          refine r_aload_n e268547 ?_
          refine q_getI (Sh.int hI300761.1 kx_231 rfl) v268572 ((hF300762.1 231 11 mf_X11_isSign_231_231_11).trans hv268572) ?_
          refine r_ifs 92 rfl (fun c300773 => ?_) (fun c300773 => ?_)
          · have c300773_ : v268572.toInt = 0 := en_k_eq_t c300773
            refine At.enter rfl ?_
            refine r_aload_n e268547 ?_
            refine r_iconst 0 rfl ?_
            refine q_putI (Sh.int hI300761.1 kx_231 rfl) rfl ?_
            have hI300774 := HI.wI1 hI300761 kx_231 rfl (p := 231) (b := 8) (v := 0) rfl (by decide)
            have hF300775 := Fr.wI (p := 231) (b := 8) (v := 0) hF300765 rfl
            refine r_aload_n e268547 ?_
            refine q_getI (Sh.int hI300774.1 kx_231 rfl) v268574 (((gI_sI_ne (by decide)).trans (hF300762.1 231 14 mf_X11_isSign_231_231_14)).trans hv268574) ?_
            refine r_ifs 109 rfl (fun c300776 => ?_) (fun c300776 => ?_)
            · have c300776_ : v268574.toInt = 0 := en_k_eq_t c300776
              refine At.enter rfl ?_
              refine r_bipush 110 rfl ?_
              refine r_sipush 900 rfl ?_
              refine r_aload_n e268547 ?_
              refine q_getR (Sh.ref hI300774.1 kx_231 rfl) ?_
              refine r_iconst 2 rfl ?_
              refine q_iald (Sh.arr hI300774.1 ka_233) 2 rfl (by decide) v214812 ((eA_c ((gA_sI).trans ((hF300762.2.1 233 ma_X11_isSign_231_233).trans (q268549.2.1 233 (by decide))))).trans hv214812) ?_
              refine q_imul (900 * v214812.toInt) rfl (by omega) (fun v300777 hv300777 => ?_)
              refine q_iadd (110 + v300777.toInt) rfl (by omega) (fun v300778 hv300778 => ?_)
              refine r_istore_n _ rfl ?_
              refine r_aload_n (w_p1 (by decide) (Or.inr rfl) e268547) ?_
              refine q_getR (Sh.ref hI300774.1 kx_231 rfl) ?_
              refine r_iload_n (w_e1 _ _ _) ?_
              refine r_iconst 1 rfl ?_
              refine q_iadd (v300778.toInt + 1) rfl (by omega) (fun v300779 hv300779 => ?_)
              refine r_aload_n (w_p1 (by decide) (Or.inr rfl) e268547) ?_
              refine q_getI (Sh.int hI300774.1 kx_231 rfl) v268576 (((gI_sI_ne (by decide)).trans (hF300762.1 231 15 mf_X11_isSign_231_231_15)).trans hv268576) ?_
              refine q_iast (Sh.arr hI300774.1 ka_233) ((900 * v214812.toInt + 111)) (by omega) (by omega) ?_
              have x300782 := HI.eqA hI300774 (p := 233) (j := 2) ((((eA_c gA_sI).trans ((eA_c (hF300762.2.1 233 ma_X11_isSign_231_233)).trans (eA_c (q268549.2.1 233 (by decide))))).trans hv214812))
              have hI300780 := HI.wfree hI300774 (j := (900 * v214812.toInt + 111)) (v := v268576) ⟨by omega, by omega⟩
              have hF300781 := Fr.wA (p := 233) (j := (900 * v214812.toInt + 111)) (v := v268576) hF300775 rfl
              refine r_iconst 0 rfl ?_
              refine r_istore_n _ rfl ?_
              refine Ar.fall 144 rfl ?_
              have x310790 := HI.eqI hI300761 (p := 231) (b := 15) (((hF300762.1 231 15 mf_X11_isSign_231_231_15).trans hv268576))
              have x310791 := HI.eqI hI300761 (p := 231) (b := 17) (((hF300762.1 231 17 mf_X11_isSign_231_231_17).trans hv268578))
              refine w_loopI (fun n_ l_ g_ => ∃ x310773 : Int32, n_ = 96 - x310773.toInt ∧ HI g_ ∧ Fr F_X11_law_231 A_X11_law_231 g0 g_ ∧ gI g_ 231 8 = 0 ∧ en_get 0 l_ = some (.ref 231) ∧ en_get 1 l_ = some (.int v300778) ∧ en_get 2 l_ = some (.int x310773) ∧ (0 ≤ x310773.toInt ∧ x310773.toInt ≤ 96) ∧ (Fr [(231, 8)] [233] g300760 g_) ∧ ((eA g_ 233 (v300778.toInt + 1)).toInt = (gI g300760 231 15).toInt) ∧ (∀ i : Int, 0 ≤ i → i < x310773.toInt → (eA g_ 233 (v300778.toInt + 2 + i)).toInt = (eA g300760 237 i).toInt) ∧ (∀ i : Int, 0 ≤ i → (i < v300778.toInt + 1 ∨ v300778.toInt + 900 ≤ i) → eA g_ 233 i = eA g300760 233 i)) ?_ (96 - 0) ⟨0, by first | rfl | omega, hI300780, hF300781, ((gI_sW).trans (gI_sI_eq hI300761.1 kx_231 rfl _)), (w_p1 (by decide) (Or.inr rfl) (w_p1 (by decide) (Or.inr rfl) e268547)), (w_p1 (by decide) (Or.inr rfl) (w_e1 _ _ _)), (w_e1 _ _ _), by decide, (Fr.wA (p := 233) (Fr.wI (p := 231) (b := 8) Fr.rf rfl) rfl), ((congrArg Int32.toInt (eA_sA_eq hI300774.1 ka_233 (by omega) (by omega) (by omega))).trans (by omega)), (fun i i0 i1 => absurd i1 (by omega)), (fun i i0 i1 => ((eA_sA_ne (i := i) hI300774.1 ka_233 (by omega) (by omega) (by omega)).trans (eA_c gA_sI)))⟩
              rintro n310778 l310777 g310774 ⟨x310773, hm310792, hI310775, hF310776, e310780, e310781, e310782, e310783, r310784, q310785, q310786, q310787, q310788⟩ ih310779
              have tv310793 := congrArg Int32.toInt e310780
              have t310796 := congrArg Int32.toInt ((q310788 2 (by decide) (Or.inl (by omega))).trans (((eA_c (hF300762.2.1 233 ma_X11_isSign_231_233)).trans (eA_c (q268549.2.1 233 (by decide)))).trans hv214812))
              refine At.enter rfl ?_
              refine r_iload_n e310783 ?_
              refine r_bipush 8 rfl ?_
              refine r_aload_n e310781 ?_
              refine q_getI (Sh.int hI310775.1 kx_231 rfl) v268576 (((q310785.1 231 15 (by decide)).trans (hF300762.1 231 15 mf_X11_isSign_231_231_15)).trans hv268576) ?_
              refine q_imul (8 * v268576.toInt) rfl (by omega) (fun v310797 hv310797 => ?_)
              have bv310799 := q_bnd x310773
              have bv310800 := q_bnd v310797
              refine r_ics 155 rfl (fun c310798 => ?_) (fun c310798 => ?_)
              · have c310798_ : x310773.toInt ≥ v310797.toInt := en_i_ge_t c310798
                refine At.enter rfl ?_
                refine r_iconst 0 rfl ?_
                refine r_istore_n _ rfl ?_
                refine Ar.fall 179 rfl ?_
                refine w_loopI (fun n_ l_ g_ => ∃ x311396 : Int32, n_ = 400 - x311396.toInt ∧ HI g_ ∧ Fr F_X11_law_231 A_X11_law_231 g0 g_ ∧ gI g_ 231 8 = 0 ∧ en_get 0 l_ = some (.ref 231) ∧ en_get 1 l_ = some (.int v300778) ∧ en_get 2 l_ = some (.int x311396) ∧ (0 ≤ x311396.toInt ∧ x311396.toInt ≤ 400) ∧ (Fr [(231, 8)] [233] g300760 g_) ∧ ((eA g_ 233 (v300778.toInt + 1)).toInt = (gI g300760 231 15).toInt) ∧ (∀ i : Int, 0 ≤ i → i < 8 * (gI g300760 231 15).toInt → (eA g_ 233 (v300778.toInt + 2 + i)).toInt = (eA g300760 237 i).toInt) ∧ (∀ i : Int, 0 ≤ i → (i < v300778.toInt + 1 ∨ v300778.toInt + 900 ≤ i) → eA g_ 233 i = eA g300760 233 i) ∧ (∀ i : Int, 0 ≤ i → i < x311396.toInt → (eA g_ 233 (v300778.toInt + 98 + 2 * i)).toInt = (eA g300760 238 i).toInt ∧ (eA g_ 233 (v300778.toInt + 98 + 2 * i + 1)).toInt = (eA g300760 239 i).toInt)) ?_ (400 - 0) ⟨0, by first | rfl | omega, hI310775, hF310776, e310780, (w_p1 (by decide) (Or.inr rfl) e310781), (w_p1 (by decide) (Or.inr rfl) e310782), (w_e1 _ _ _), by decide, (Fr.tr Fr.rf q310785 rfl rfl), ((congrArg Int32.toInt (rfl)).trans q310786), (fun i i0 i1 => q310787 i i0 (by omega)), (fun i i0 i1 => (rfl).trans (q310788 i i0 i1)), (fun i i0 i1 => absurd i1 (by omega))⟩
                rintro n311401 l311400 g311397 ⟨x311396, hm311416, hI311398, hF311399, e311403, e311404, e311405, e311406, r311407, q311408, q311409, q311410, q311411, q311412⟩ ih311402
                have tv311417 := congrArg Int32.toInt e311403
                have t311420 := congrArg Int32.toInt ((q311411 2 (by decide) (Or.inl (by omega))).trans (((eA_c (hF300762.2.1 233 ma_X11_isSign_231_233)).trans (eA_c (q268549.2.1 233 (by decide)))).trans hv214812))
                refine At.enter rfl ?_
                refine r_iload_n e311406 ?_
                refine r_aload_n e311404 ?_
                refine q_getI (Sh.int hI311398.1 kx_231 rfl) v268578 (((q311408.1 231 17 (by decide)).trans (hF300762.1 231 17 mf_X11_isSign_231_231_17)).trans hv268578) ?_
                have bv311422 := q_bnd x311396
                have bv311423 := q_bnd v268578
                refine r_ics 187 rfl (fun c311421 => ?_) (fun c311421 => ?_)
                · have c311421_ : x311396.toInt ≥ v268578.toInt := en_i_ge_t c311421
                  refine At.enter rfl ?_
                  refine r_aload_n e311404 ?_
                  refine q_getR (Sh.ref hI311398.1 kx_231 rfl) ?_
                  refine r_iconst 2 rfl ?_
                  refine r_dup2 ⟨rfl, rfl⟩ ?_
                  refine q_iald (Sh.arr hI311398.1 ka_233) 2 rfl (by decide) v214812 ((q311411 2 (by decide) (Or.inl (by omega))).trans (((eA_c (hF300762.2.1 233 ma_X11_isSign_231_233)).trans (eA_c (q268549.2.1 233 (by decide)))).trans hv214812)) ?_
                  refine r_iconst 1 rfl ?_
                  refine q_iadd (v214812.toInt + 1) rfl (by omega) (fun v311424 hv311424 => ?_)
                  refine q_iast (Sh.arr hI311398.1 ka_233) (2) rfl (by decide) ?_
                  have x311427 := HI.eqA hI311398 (p := 233) (j := 2) (((q311411 2 (by decide) (Or.inl (by omega))).trans (((eA_c (hF300762.2.1 233 ma_X11_isSign_231_233)).trans (eA_c (q268549.2.1 233 (by decide)))).trans hv214812)))
                  have hI311425 := HI.wt2 hI311398 (v := v311424) (by omega) (by omega) (by rw [show 110 + 900 * (eA _ 233 2).toInt = v300778.toInt by omega]; exact LAW.mk (CLS.cong2 (q268555 (by omega)).2 hI300761 ((hF300762.2.1 238 ma_X11_isSign_231_238)) ((hF300762.2.1 239 ma_X11_isSign_231_239)) ((hF300762.2.1 237 ma_X11_isSign_231_237)) ((hF300762.1 231 15 mf_X11_isSign_231_231_15)) ((hF300762.1 231 17 mf_X11_isSign_231_231_17))) ⟨by omega, by omega⟩ (by omega) q311409 q311410 (fun i i0 i1 => q311412 i i0 (by omega)))
                  have hF311426 := Fr.wA (p := 233) (j := 2) (v := v311424) hF311399 rfl
                  refine r_aload_n e311404 ?_
                  refine r_aload_n e311404 ?_
                  refine q_getR (Sh.ref hI311425.1 kx_231 rfl) ?_
                  refine r_iconst 2 rfl ?_
                  refine q_iald (Sh.arr hI311425.1 ka_233) 2 rfl (by decide) v311424 (eA_sA_eq hI311398.1 ka_233 (by first | rfl | omega) (by first | decide | omega) (by first | decide | omega)) ?_
                  refine r_iconst 1 rfl ?_
                  refine q_isub (v311424.toInt - 1) rfl (by omega) (fun v311428 hv311428 => ?_)
                  refine r_callV 255 rfl [.ref 231, .int v311428] [] (Nat.le_of_ble_eq_true rfl) rfl (T_X11_tell_231 _ hI311425 v311428 (by omega)) ?_
                  rintro _ _ ⟨g311429, rfl, hI311430, hF311431, v311432, rfl, hr311433⟩
                  refine At.sti ?_
                  have hF311434 := Fr.tr hF311426 hF311431 rfl rfl
                  refine At.enter rfl ?_
                  refine r_ireti ?_
                  have x311435 := HI.eqI hI311430 (p := 231) (b := 8) ((((hF311431.1 231 8 mf_X11_tell_231_231_8).trans (gI_sW)).trans e311403))
                  have x311437 := HI.eqA hI0 (p := 233) (j := 2) (hv214812)
                  have x311438 := HI.eqA hI311430 (p := 233) (j := 2) (((eA_c (hF311431.2.1 233 ma_X11_tell_231_233)).trans (eA_sA_eq hI311398.1 ka_233 (by first | rfl | omega) (by first | decide | omega) (by first | decide | omega))))
                  obtain ⟨v311441, hv311441⟩ : ∃ v, gI g268540 231 13 = v := ⟨_, rfl⟩
                  have tv311441 := congrArg Int32.toInt hv311441
                  have x311444 := HI.eqI hI311430 (p := 231) (b := 13) ((((hF311431.1 231 13 mf_X11_tell_231_231_13).trans ((gI_sW).trans ((q311408.1 231 13 (by decide)).trans (hF300762.1 231 13 mf_X11_isSign_231_231_13)))).trans hv311441))
                  have ce := CDM.end_ q268556
                  have y311445 : pI g268540 11 = (gI g268540 231 11).toInt := rfl
                  first | (clear x300768 x300782 x310790 x310791 hr300764 c300770_ zv214822 zv214864 zv300759; exact ⟨_, rfl, hI311430, hF311434, _, rfl, by omega, ⟨(fun i i0 i1 i2 => ((eA_c (hF311431.2.1 233 ma_X11_tell_231_233)).trans ((eA_sA_ne (i := i) hI311398.1 ka_233 (by omega) (by omega) (by omega)).trans ((q311411 i i0 (Or.inl (by omega))).trans (eA_c (((hF300762.2.1 233 ma_X11_isSign_231_233).trans (q268549.2.1 233 (by decide))))))))), by omega, Or.inr ⟨show (eA g0 233 2).toInt ≠ 6 from by omega, ⟨_, hskp0, Or.inl ⟨by omega, CLM.fin q268557 (show (gI g268540 231 14).toInt = 0 from by omega) (TKM.someC q268556 ((q268549.2.1 236 (by decide))) ((q268549.1 231 8 (by decide)))).choose_spec (by omega) (show (gI _ 231 13).toInt = (gI g268540 231 13).toInt from (by first | exact x311444.trans tv311441.symm | omega))⟩⟩, Or.inr ⟨show _ = (eA g0 233 2).toInt from by omega, by omega, show (eA _ 233 2).toInt = (eA g0 233 2).toInt + 1 from by omega⟩⟩, (LWG_mk (at_ := v300778.toInt) hskp0 q268558 (show (gI g268540 231 14).toInt = 0 from by omega) (TKM.someC q268556 ((q268549.2.1 236 (by decide))) ((q268549.1 231 8 (by decide)))).choose_spec (by omega) (SMG_mk ((hF300762.2.1 238 ma_X11_isSign_231_238)) ((hF300762.2.1 239 ma_X11_isSign_231_239)) ((hF300762.1 231 17 mf_X11_isSign_231_231_17))) ((hF300762.2.1 237 ma_X11_isSign_231_237)) (pI.c ((hF300762.1 231 15 mf_X11_isSign_231_231_15))) ⟨show 0 ≤ (gI _ 231 15).toInt from by omega, show (gI _ 231 15).toInt ≤ 12 from by omega⟩ ⟨show 0 ≤ (gI _ 231 17).toInt from by omega, show (gI _ 231 17).toInt ≤ 400 from by omega⟩ (by omega) ((congrArg Int32.toInt (((eA_c (hF311431.2.1 233 ma_X11_tell_231_233)).trans (eA_sA_ne (i := v300778.toInt + 1) hI311398.1 ka_233 (by omega) (by omega) (by omega))))).trans q311409) (fun i i0 i1 => (congrArg Int32.toInt (((eA_c (hF311431.2.1 233 ma_X11_tell_231_233)).trans (eA_sA_ne (i := v300778.toInt + 2 + i) hI311398.1 ka_233 (by omega) (by omega) (by omega))))).trans (q311410 i i0 (by have i1 : i < 8 * (gI _ 231 15).toInt := i1; omega))) (fun i i0 i1 => (fun z => ⟨(congrArg Int32.toInt (((eA_c (hF311431.2.1 233 ma_X11_tell_231_233)).trans (eA_sA_ne (i := v300778.toInt + 98 + 2 * i) hI311398.1 ka_233 (by omega) (by omega) (by omega))))).trans z.1, (congrArg Int32.toInt (((eA_c (hF311431.2.1 233 ma_X11_tell_231_233)).trans (eA_sA_ne (i := v300778.toInt + 98 + 2 * i + 1) hI311398.1 ka_233 (by omega) (by omega) (by omega))))).trans z.2⟩) (q311412 i i0 (by have i1 : i < (gI _ 231 17).toInt := i1; omega)))), (show ROWE g0 _ from (fun i i0 i1 i2 => ((eA_c (hF311431.2.1 233 ma_X11_tell_231_233)).trans ((eA_sA_ne (i := i) hI311398.1 ka_233 (by omega) (by omega) (by omega)).trans ((q311411 i (by omega) (by omega)).trans (eA_c (((hF300762.2.1 233 ma_X11_isSign_231_233).trans (q268549.2.1 233 (by decide)))))))))), (fun hr => False.elim (by omega))⟩⟩) | exact ⟨_, rfl, hI311430, hF311434, _, rfl, by omega, ⟨(fun i i0 i1 i2 => ((eA_c (hF311431.2.1 233 ma_X11_tell_231_233)).trans ((eA_sA_ne (i := i) hI311398.1 ka_233 (by omega) (by omega) (by omega)).trans ((q311411 i i0 (Or.inl (by omega))).trans (eA_c (((hF300762.2.1 233 ma_X11_isSign_231_233).trans (q268549.2.1 233 (by decide))))))))), by omega, Or.inr ⟨show (eA g0 233 2).toInt ≠ 6 from by omega, ⟨_, hskp0, Or.inl ⟨by omega, CLM.fin q268557 (show (gI g268540 231 14).toInt = 0 from by omega) (TKM.someC q268556 ((q268549.2.1 236 (by decide))) ((q268549.1 231 8 (by decide)))).choose_spec (by omega) (show (gI _ 231 13).toInt = (gI g268540 231 13).toInt from (by first | exact x311444.trans tv311441.symm | omega))⟩⟩, Or.inr ⟨show _ = (eA g0 233 2).toInt from by omega, by omega, show (eA _ 233 2).toInt = (eA g0 233 2).toInt + 1 from by omega⟩⟩, (LWG_mk (at_ := v300778.toInt) hskp0 q268558 (show (gI g268540 231 14).toInt = 0 from by omega) (TKM.someC q268556 ((q268549.2.1 236 (by decide))) ((q268549.1 231 8 (by decide)))).choose_spec (by omega) (SMG_mk ((hF300762.2.1 238 ma_X11_isSign_231_238)) ((hF300762.2.1 239 ma_X11_isSign_231_239)) ((hF300762.1 231 17 mf_X11_isSign_231_231_17))) ((hF300762.2.1 237 ma_X11_isSign_231_237)) (pI.c ((hF300762.1 231 15 mf_X11_isSign_231_231_15))) ⟨show 0 ≤ (gI _ 231 15).toInt from by omega, show (gI _ 231 15).toInt ≤ 12 from by omega⟩ ⟨show 0 ≤ (gI _ 231 17).toInt from by omega, show (gI _ 231 17).toInt ≤ 400 from by omega⟩ (by omega) ((congrArg Int32.toInt (((eA_c (hF311431.2.1 233 ma_X11_tell_231_233)).trans (eA_sA_ne (i := v300778.toInt + 1) hI311398.1 ka_233 (by omega) (by omega) (by omega))))).trans q311409) (fun i i0 i1 => (congrArg Int32.toInt (((eA_c (hF311431.2.1 233 ma_X11_tell_231_233)).trans (eA_sA_ne (i := v300778.toInt + 2 + i) hI311398.1 ka_233 (by omega) (by omega) (by omega))))).trans (q311410 i i0 (by have i1 : i < 8 * (gI _ 231 15).toInt := i1; omega))) (fun i i0 i1 => (fun z => ⟨(congrArg Int32.toInt (((eA_c (hF311431.2.1 233 ma_X11_tell_231_233)).trans (eA_sA_ne (i := v300778.toInt + 98 + 2 * i) hI311398.1 ka_233 (by omega) (by omega) (by omega))))).trans z.1, (congrArg Int32.toInt (((eA_c (hF311431.2.1 233 ma_X11_tell_231_233)).trans (eA_sA_ne (i := v300778.toInt + 98 + 2 * i + 1) hI311398.1 ka_233 (by omega) (by omega) (by omega))))).trans z.2⟩) (q311412 i i0 (by have i1 : i < (gI _ 231 17).toInt := i1; omega)))), (show ROWE g0 _ from (fun i i0 i1 i2 => ((eA_c (hF311431.2.1 233 ma_X11_tell_231_233)).trans ((eA_sA_ne (i := i) hI311398.1 ka_233 (by omega) (by omega) (by omega)).trans ((q311411 i (by omega) (by omega)).trans (eA_c (((hF300762.2.1 233 ma_X11_isSign_231_233).trans (q268549.2.1 233 (by decide)))))))))), (fun hr => False.elim (by omega))⟩⟩
                · have c311421_ : x311396.toInt < v268578.toInt := en_i_ge_f c311421
                  refine At.enter rfl ?_
                  refine r_aload_n e311404 ?_
                  refine q_getR (Sh.ref hI311398.1 kx_231 rfl) ?_
                  refine r_iload_n e311405 ?_
                  refine r_bipush 98 rfl ?_
                  refine q_iadd (v300778.toInt + 98) rfl (by omega) (fun v311448 hv311448 => ?_)
                  refine r_iconst 2 rfl ?_
                  refine r_iload_n e311406 ?_
                  refine q_imul (2 * x311396.toInt) rfl (by omega) (fun v311449 hv311449 => ?_)
                  refine q_iadd (v311448.toInt + v311449.toInt) rfl (by omega) (fun v311450 hv311450 => ?_)
                  refine r_aload_n e311404 ?_
                  refine q_getR (Sh.ref hI311398.1 kx_231 rfl) ?_
                  refine r_iload_n e311406 ?_
                  obtain ⟨v311451, hv311451⟩ : ∃ v, eA g268540 238 x311396.toInt = v := ⟨_, rfl⟩
                  refine q_iald (Sh.arr hI311398.1 ka_238) x311396.toInt rfl (by omega) v311451 ((eA_c ((q311408.2.1 238 (by decide)).trans (hF300762.2.1 238 ma_X11_isSign_231_238))).trans hv311451) ?_
                  refine q_iast (Sh.arr hI311398.1 ka_233) ((900 * v214812.toInt + 2 * x311396.toInt + 208)) (by omega) (by omega) ?_
                  have x311454 := HI.eqA hI311398 (p := 233) (j := 2) (((q311411 2 (by decide) (Or.inl (by omega))).trans (((eA_c (hF300762.2.1 233 ma_X11_isSign_231_233)).trans (eA_c (q268549.2.1 233 (by decide)))).trans hv214812)))
                  have hI311452 := HI.wfree hI311398 (j := (900 * v214812.toInt + 2 * x311396.toInt + 208)) (v := v311451) ⟨by omega, by omega⟩
                  have hF311453 := Fr.wA (p := 233) (j := (900 * v214812.toInt + 2 * x311396.toInt + 208)) (v := v311451) hF311399 rfl
                  refine r_aload_n e311404 ?_
                  refine q_getR (Sh.ref hI311452.1 kx_231 rfl) ?_
                  refine r_iload_n e311405 ?_
                  refine r_bipush 98 rfl ?_
                  refine q_iadd (v300778.toInt + 98) rfl (by omega) (fun v311455 hv311455 => ?_)
                  refine r_iconst 2 rfl ?_
                  refine r_iload_n e311406 ?_
                  refine q_imul (2 * x311396.toInt) rfl (by omega) (fun v311456 hv311456 => ?_)
                  refine q_iadd (v311455.toInt + v311456.toInt) rfl (by omega) (fun v311457 hv311457 => ?_)
                  refine r_iconst 1 rfl ?_
                  refine q_iadd (v311457.toInt + 1) rfl (by omega) (fun v311458 hv311458 => ?_)
                  refine r_aload_n e311404 ?_
                  refine q_getR (Sh.ref hI311452.1 kx_231 rfl) ?_
                  refine r_iload_n e311406 ?_
                  obtain ⟨v311459, hv311459⟩ : ∃ v, eA g268540 239 x311396.toInt = v := ⟨_, rfl⟩
                  refine q_iald (Sh.arr hI311452.1 ka_239) x311396.toInt rfl (by omega) v311459 ((eA_c ((gA_sA_ne (by decide)).trans ((q311408.2.1 239 (by decide)).trans (hF300762.2.1 239 ma_X11_isSign_231_239)))).trans hv311459) ?_
                  refine q_iast (Sh.arr hI311452.1 ka_233) ((900 * v214812.toInt + 2 * x311396.toInt + 209)) (by omega) (by omega) ?_
                  have x311462 := HI.eqA hI311452 (p := 233) (j := 2) (((eA_sA_ne hI311398.1 ka_233 (by first | decide | omega) (by first | decide | omega) (by first | decide | omega)).trans ((q311411 2 (by decide) (Or.inl (by omega))).trans (((eA_c (hF300762.2.1 233 ma_X11_isSign_231_233)).trans (eA_c (q268549.2.1 233 (by decide)))).trans hv214812))))
                  have hI311460 := HI.wfree hI311452 (j := (900 * v214812.toInt + 2 * x311396.toInt + 209)) (v := v311459) ⟨by omega, by omega⟩
                  have hF311461 := Fr.wA (p := 233) (j := (900 * v214812.toInt + 2 * x311396.toInt + 209)) (v := v311459) hF311453 rfl
                  refine q_iinc e311406 (x311396.toInt + 1) rfl (by omega) (fun v311463 hv311463 => ?_)
                  refine r_goto ?_
                  exact ih311402 (400 - v311463.toInt) _ _ ⟨v311463, by first | rfl | omega, hI311460, hF311461, (((gI_sW).trans (gI_sW)).trans e311403), (w_p1 (by decide) (Or.inr rfl) e311404), (w_p1 (by decide) (Or.inr rfl) e311405), (w_e1 _ _ _), by omega, (Fr.wA (p := 233) (Fr.wA (p := 233) q311408 rfl) rfl), ((congrArg Int32.toInt (((eA_sA_ne (i := v300778.toInt + 1) hI311452.1 ka_233 (by omega) (by omega) (by omega)).trans (eA_sA_ne (i := v300778.toInt + 1) hI311398.1 ka_233 (by omega) (by omega) (by omega))))).trans q311409), (fun i i0 i1 => (congrArg Int32.toInt (((eA_sA_ne (i := v300778.toInt + 2 + i) hI311452.1 ka_233 (by omega) (by omega) (by omega)).trans (eA_sA_ne (i := v300778.toInt + 2 + i) hI311398.1 ka_233 (by omega) (by omega) (by omega))))).trans (q311410 i i0 i1)), (fun i i0 i1 => (((eA_sA_ne (i := i) hI311452.1 ka_233 (by omega) (by omega) (by omega)).trans (eA_sA_ne (i := i) hI311398.1 ka_233 (by omega) (by omega) (by omega)))).trans (q311411 i i0 i1)), (fun i i0 i1 => (Decidable.em (i = x311396.toInt)).elim (fun e => by rw [e]; exact ⟨((congrArg Int32.toInt ((eA_sA_ne (i := v300778.toInt + 98 + 2 * x311396.toInt) hI311452.1 ka_233 (by omega) (by omega) (by omega)).trans (eA_sA_eq hI311398.1 ka_233 (by omega) (by omega) (by omega)))).trans (congrArg Int32.toInt ((eA_c ((hF300762.2.1 238 ma_X11_isSign_231_238))).trans hv311451)).symm), ((congrArg Int32.toInt (eA_sA_eq hI311452.1 ka_233 (by omega) (by omega) (by omega))).trans (congrArg Int32.toInt ((eA_c ((hF300762.2.1 239 ma_X11_isSign_231_239))).trans hv311459)).symm)⟩) (fun e => ⟨(congrArg Int32.toInt (((eA_sA_ne (i := v300778.toInt + 98 + 2 * i) hI311452.1 ka_233 (by omega) (by omega) (by omega)).trans (eA_sA_ne (i := v300778.toInt + 98 + 2 * i) hI311398.1 ka_233 (by omega) (by omega) (by omega))))).trans (q311412 i i0 (by omega)).1, (congrArg Int32.toInt (((eA_sA_ne (i := v300778.toInt + 98 + 2 * i + 1) hI311452.1 ka_233 (by omega) (by omega) (by omega)).trans (eA_sA_ne (i := v300778.toInt + 98 + 2 * i + 1) hI311398.1 ka_233 (by omega) (by omega) (by omega))))).trans (q311412 i i0 (by omega)).2⟩))⟩ ⟨by omega, by omega⟩
              · have c310798_ : x310773.toInt < v310797.toInt := en_i_ge_f c310798
                refine At.enter rfl ?_
                refine r_aload_n e310781 ?_
                refine q_getR (Sh.ref hI310775.1 kx_231 rfl) ?_
                refine r_iload_n e310782 ?_
                refine r_iconst 2 rfl ?_
                refine q_iadd (v300778.toInt + 2) rfl (by omega) (fun v311464 hv311464 => ?_)
                refine r_iload_n e310783 ?_
                refine q_iadd (v311464.toInt + x310773.toInt) rfl (by omega) (fun v311465 hv311465 => ?_)
                refine r_aload_n e310781 ?_
                refine q_getR (Sh.ref hI310775.1 kx_231 rfl) ?_
                refine r_iload_n e310783 ?_
                obtain ⟨v311466, hv311466⟩ : ∃ v, eA g268540 237 x310773.toInt = v := ⟨_, rfl⟩
                refine q_iald (Sh.arr hI310775.1 ka_237) x310773.toInt rfl (by omega) v311466 ((eA_c ((q310785.2.1 237 (by decide)).trans (hF300762.2.1 237 ma_X11_isSign_231_237))).trans hv311466) ?_
                refine q_iast (Sh.arr hI310775.1 ka_233) ((900 * v214812.toInt + x310773.toInt + 112)) (by omega) (by omega) ?_
                have x311469 := HI.eqA hI310775 (p := 233) (j := 2) (((q310788 2 (by decide) (Or.inl (by omega))).trans (((eA_c (hF300762.2.1 233 ma_X11_isSign_231_233)).trans (eA_c (q268549.2.1 233 (by decide)))).trans hv214812)))
                have hI311467 := HI.wfree hI310775 (j := (900 * v214812.toInt + x310773.toInt + 112)) (v := v311466) ⟨by omega, by omega⟩
                have hF311468 := Fr.wA (p := 233) (j := (900 * v214812.toInt + x310773.toInt + 112)) (v := v311466) hF310776 rfl
                refine q_iinc e310783 (x310773.toInt + 1) rfl (by omega) (fun v311470 hv311470 => ?_)
                refine r_goto ?_
                exact ih310779 (96 - v311470.toInt) _ _ ⟨v311470, by first | rfl | omega, hI311467, hF311468, ((gI_sW).trans e310780), (w_p1 (by decide) (Or.inr rfl) e310781), (w_p1 (by decide) (Or.inr rfl) e310782), (w_e1 _ _ _), by omega, (Fr.wA (p := 233) q310785 rfl), ((congrArg Int32.toInt ((eA_sA_ne (i := v300778.toInt + 1) hI310775.1 ka_233 (by omega) (by omega) (by omega)))).trans q310786), (fun i i0 i1 => (Decidable.em (i = x310773.toInt)).elim (fun e => by rw [e]; exact (congrArg Int32.toInt (eA_sA_eq hI310775.1 ka_233 (by omega) (by omega) (by omega))).trans (congrArg Int32.toInt ((eA_c ((hF300762.2.1 237 ma_X11_isSign_231_237))).trans hv311466)).symm) (fun e => (congrArg Int32.toInt ((eA_sA_ne (i := v300778.toInt + 2 + i) hI310775.1 ka_233 (by omega) (by omega) (by omega)))).trans (q310787 i i0 (by omega)))), (fun i i0 i1 => ((eA_sA_ne (i := i) hI310775.1 ka_233 (by omega) (by omega) (by omega))).trans (q310788 i i0 i1))⟩ ⟨by omega, by omega⟩
            · have c300776_ : v268574.toInt ≠ 0 := en_k_eq_f c300776
              exfalso; omega
          · have c300773_ : v268572.toInt ≠ 0 := en_k_eq_f c300773
            refine At.enter rfl ?_
            refine r_aload_n e268547 ?_
            refine r_iconst 0 rfl ?_
            have x311471 := HI.eqI hI300761 (p := 231) (b := 8) ((((hF300762.1 231 8 mf_X11_isSign_231_231_8).trans (q268549.1 231 8 (by decide))).trans hv1))
            have x311472 := HI.eqI hI300761 (p := 231) (b := 9) (((hF300762.1 231 9 mf_X11_isSign_231_231_9).trans e268546))
            have x311473 := HI.eqI hI300761 (p := 231) (b := 10) (((hF300762.1 231 10 mf_X11_isSign_231_231_10).trans hv268570))
            have w26311475 := W26.cong q268554 hI300761 ((hF300762.1 231 9 mf_X11_isSign_231_231_9)) ((hF300762.1 231 10 mf_X11_isSign_231_231_10)) ((hF300762.1 231 11 mf_X11_isSign_231_231_11)) ((hF300762.2.2 231 12 mf_X11_isSign_231_231_12))
            refine r_callV 97 rfl [.ref 231, .int 0] [] (Nat.le_of_ble_eq_true rfl) rfl (T_X11_must_231 _ hI300761 0 (by decide) (by refine ⟨?_, ?_, ?_, ?_⟩ <;> omega) w26311475 (TKM.c q268556 ((hF300762.2.1 236 ma_X11_isSign_231_236)) ((hF300762.1 231 8 mf_X11_isSign_231_231_8)) ((hF300762.1 231 9 mf_X11_isSign_231_231_9)) ((hF300762.1 231 10 mf_X11_isSign_231_231_10)) ((hF300762.1 231 11 mf_X11_isSign_231_231_11)) ((hF300762.2.2 231 12 mf_X11_isSign_231_231_12)))) ?_
            rintro _ _ ⟨g311477, rfl, hI311478, hF311479, rfl, hr311481⟩
            refine At.stn ?_
            have hF311482 := Fr.tr hF300765 hF311479 rfl rfl
            have x311488 := HI.eqI hI300761 (p := 231) (b := 14) (((hF300762.1 231 14 mf_X11_isSign_231_231_14).trans hv268574))
            have x311489 := HI.eqI hI311478 (p := 231) (b := 8) ((((hF311479.1 231 8 mf_X11_must_231_231_8).trans ((hF300762.1 231 8 mf_X11_isSign_231_231_8).trans (q268549.1 231 8 (by decide)))).trans hv1))
            obtain ⟨v311490, hv311490⟩ : ∃ v, gI g311477 231 9 = v := ⟨_, rfl⟩
            have rv311490 := RgF.at hI311478.2.1 (p := 231) (b := 9) rfl
            rw [hv311490] at rv311490
            dsimp only at rv311490
            have tv311490 := congrArg Int32.toInt hv311490
            obtain ⟨v311492, hv311492⟩ : ∃ v, gI g311477 231 10 = v := ⟨_, rfl⟩
            have rv311492 := RgF.at hI311478.2.1 (p := 231) (b := 10) rfl
            rw [hv311492] at rv311492
            dsimp only at rv311492
            have tv311492 := congrArg Int32.toInt hv311492
            obtain ⟨v311494, hv311494⟩ : ∃ v, gI g311477 231 11 = v := ⟨_, rfl⟩
            have tv311494 := congrArg Int32.toInt hv311494
            obtain ⟨v311496, hv311496⟩ : ∃ v, gI g311477 231 14 = v := ⟨_, rfl⟩
            have tv311496 := congrArg Int32.toInt hv311496
            obtain ⟨c311498, c311499, c311500, c311501, c311502, c311503, c311504, c311505⟩ := hr311481
            obtain ⟨v311506, hv311506⟩ : ∃ v, gI g268540 231 13 = v := ⟨_, rfl⟩
            have tv311506 := congrArg Int32.toInt hv311506
            have x311507 := HI.eqI hI300761 (p := 231) (b := 13) (((hF300762.1 231 13 mf_X11_isSign_231_231_13).trans hv311506))
            obtain ⟨v311509, hv311509⟩ : ∃ v, gI g311477 231 13 = v := ⟨_, rfl⟩
            have tv311509 := congrArg Int32.toInt hv311509
            unfold MUSTP at c311505
            rw [TM.c ((hF300762.2.1 236 ma_X11_isSign_231_236)), nM.c ((hF300762.1 231 8 mf_X11_isSign_231_231_8)), pI.c (b := 14) ((hF300762.1 231 14 mf_X11_isSign_231_231_14)), pI.c (b := 13) ((hF300762.1 231 13 mf_X11_isSign_231_231_13)), pI.c (b := 10) ((hF300762.1 231 10 mf_X11_isSign_231_231_10)), pI.c (b := 9) ((hF300762.1 231 9 mf_X11_isSign_231_231_9))] at c311505
            have mu311511 : MUSTP g268540 g311477 0 := c311505
            clear c311505
            have hK311512 := mu311511.1
            refine At.enter rfl ?_
            refine r_aload_n e268547 ?_
            refine r_iconst 0 rfl ?_
            refine q_putI (Sh.int hI311478.1 kx_231 rfl) rfl ?_
            have hI311513 := HI.wI1 hI311478 kx_231 rfl (p := 231) (b := 8) (v := 0) rfl (by decide)
            have hF311514 := Fr.wI (p := 231) (b := 8) (v := 0) hF311482 rfl
            refine r_aload_n e268547 ?_
            refine q_getI (Sh.int hI311513.1 kx_231 rfl) v311496 ((gI_sI_ne (by decide)).trans hv311496) ?_
            refine r_ifs 109 rfl (fun c311515 => ?_) (fun c311515 => ?_)
            · have c311515_ : v311496.toInt = 0 := en_k_eq_t c311515
              obtain ⟨i311516, i311517, i311518⟩ := c311504 (by omega)
              obtain ⟨i311519, i311520⟩ := MUSTP.z mu311511 (by omega) (by omega)
              refine At.enter rfl ?_
              refine r_bipush 110 rfl ?_
              refine r_sipush 900 rfl ?_
              refine r_aload_n e268547 ?_
              refine q_getR (Sh.ref hI311513.1 kx_231 rfl) ?_
              refine r_iconst 2 rfl ?_
              refine q_iald (Sh.arr hI311513.1 ka_233) 2 rfl (by decide) v214812 ((eA_c ((gA_sI).trans ((hF311479.2.1 233 ma_X11_must_231_233).trans ((hF300762.2.1 233 ma_X11_isSign_231_233).trans (q268549.2.1 233 (by decide)))))).trans hv214812) ?_
              refine q_imul (900 * v214812.toInt) rfl (by omega) (fun v311521 hv311521 => ?_)
              refine q_iadd (110 + v311521.toInt) rfl (by omega) (fun v311522 hv311522 => ?_)
              refine r_istore_n _ rfl ?_
              refine r_aload_n (w_p1 (by decide) (Or.inr rfl) e268547) ?_
              refine q_getR (Sh.ref hI311513.1 kx_231 rfl) ?_
              refine r_iload_n (w_e1 _ _ _) ?_
              refine r_iconst 1 rfl ?_
              refine q_iadd (v311522.toInt + 1) rfl (by omega) (fun v311523 hv311523 => ?_)
              refine r_aload_n (w_p1 (by decide) (Or.inr rfl) e268547) ?_
              refine q_getI (Sh.int hI311513.1 kx_231 rfl) v268576 (((gI_sI_ne (by decide)).trans ((hF311479.1 231 15 mf_X11_must_231_231_15).trans (hF300762.1 231 15 mf_X11_isSign_231_231_15))).trans hv268576) ?_
              refine q_iast (Sh.arr hI311513.1 ka_233) ((900 * v214812.toInt + 111)) (by omega) (by omega) ?_
              have x311526 := HI.eqA hI311513 (p := 233) (j := 2) ((((eA_c gA_sI).trans ((eA_c (hF311479.2.1 233 ma_X11_must_231_233)).trans ((eA_c (hF300762.2.1 233 ma_X11_isSign_231_233)).trans (eA_c (q268549.2.1 233 (by decide)))))).trans hv214812))
              have hI311524 := HI.wfree hI311513 (j := (900 * v214812.toInt + 111)) (v := v268576) ⟨by omega, by omega⟩
              have hF311525 := Fr.wA (p := 233) (j := (900 * v214812.toInt + 111)) (v := v268576) hF311514 rfl
              refine r_iconst 0 rfl ?_
              refine r_istore_n _ rfl ?_
              refine Ar.fall 144 rfl ?_
              have x321534 := HI.eqI hI311478 (p := 231) (b := 15) ((((hF311479.1 231 15 mf_X11_must_231_231_15).trans (hF300762.1 231 15 mf_X11_isSign_231_231_15)).trans hv268576))
              have x321535 := HI.eqI hI311478 (p := 231) (b := 17) ((((hF311479.1 231 17 mf_X11_must_231_231_17).trans (hF300762.1 231 17 mf_X11_isSign_231_231_17)).trans hv268578))
              refine w_loopI (fun n_ l_ g_ => ∃ x321517 : Int32, n_ = 96 - x321517.toInt ∧ HI g_ ∧ Fr F_X11_law_231 A_X11_law_231 g0 g_ ∧ gI g_ 231 8 = 0 ∧ en_get 0 l_ = some (.ref 231) ∧ en_get 1 l_ = some (.int v311522) ∧ en_get 2 l_ = some (.int x321517) ∧ (0 ≤ x321517.toInt ∧ x321517.toInt ≤ 96) ∧ (Fr [(231, 8)] [233] g311477 g_) ∧ ((eA g_ 233 (v311522.toInt + 1)).toInt = (gI g311477 231 15).toInt) ∧ (∀ i : Int, 0 ≤ i → i < x321517.toInt → (eA g_ 233 (v311522.toInt + 2 + i)).toInt = (eA g311477 237 i).toInt) ∧ (∀ i : Int, 0 ≤ i → (i < v311522.toInt + 1 ∨ v311522.toInt + 900 ≤ i) → eA g_ 233 i = eA g311477 233 i)) ?_ (96 - 0) ⟨0, by first | rfl | omega, hI311524, hF311525, ((gI_sW).trans (gI_sI_eq hI311478.1 kx_231 rfl _)), (w_p1 (by decide) (Or.inr rfl) (w_p1 (by decide) (Or.inr rfl) e268547)), (w_p1 (by decide) (Or.inr rfl) (w_e1 _ _ _)), (w_e1 _ _ _), by decide, (Fr.wA (p := 233) (Fr.wI (p := 231) (b := 8) Fr.rf rfl) rfl), ((congrArg Int32.toInt (eA_sA_eq hI311513.1 ka_233 (by omega) (by omega) (by omega))).trans (by omega)), (fun i i0 i1 => absurd i1 (by omega)), (fun i i0 i1 => ((eA_sA_ne (i := i) hI311513.1 ka_233 (by omega) (by omega) (by omega)).trans (eA_c gA_sI)))⟩
              rintro n321522 l321521 g321518 ⟨x321517, hm321536, hI321519, hF321520, e321524, e321525, e321526, e321527, r321528, q321529, q321530, q321531, q321532⟩ ih321523
              have tv321537 := congrArg Int32.toInt e321524
              have t321540 := congrArg Int32.toInt ((q321532 2 (by decide) (Or.inl (by omega))).trans (((eA_c (hF311479.2.1 233 ma_X11_must_231_233)).trans ((eA_c (hF300762.2.1 233 ma_X11_isSign_231_233)).trans (eA_c (q268549.2.1 233 (by decide))))).trans hv214812))
              refine At.enter rfl ?_
              refine r_iload_n e321527 ?_
              refine r_bipush 8 rfl ?_
              refine r_aload_n e321525 ?_
              refine q_getI (Sh.int hI321519.1 kx_231 rfl) v268576 (((q321529.1 231 15 (by decide)).trans ((hF311479.1 231 15 mf_X11_must_231_231_15).trans (hF300762.1 231 15 mf_X11_isSign_231_231_15))).trans hv268576) ?_
              refine q_imul (8 * v268576.toInt) rfl (by omega) (fun v321541 hv321541 => ?_)
              have bv321543 := q_bnd x321517
              have bv321544 := q_bnd v321541
              refine r_ics 155 rfl (fun c321542 => ?_) (fun c321542 => ?_)
              · have c321542_ : x321517.toInt ≥ v321541.toInt := en_i_ge_t c321542
                refine At.enter rfl ?_
                refine r_iconst 0 rfl ?_
                refine r_istore_n _ rfl ?_
                refine Ar.fall 179 rfl ?_
                refine w_loopI (fun n_ l_ g_ => ∃ x322140 : Int32, n_ = 400 - x322140.toInt ∧ HI g_ ∧ Fr F_X11_law_231 A_X11_law_231 g0 g_ ∧ gI g_ 231 8 = 0 ∧ en_get 0 l_ = some (.ref 231) ∧ en_get 1 l_ = some (.int v311522) ∧ en_get 2 l_ = some (.int x322140) ∧ (0 ≤ x322140.toInt ∧ x322140.toInt ≤ 400) ∧ (Fr [(231, 8)] [233] g311477 g_) ∧ ((eA g_ 233 (v311522.toInt + 1)).toInt = (gI g311477 231 15).toInt) ∧ (∀ i : Int, 0 ≤ i → i < 8 * (gI g311477 231 15).toInt → (eA g_ 233 (v311522.toInt + 2 + i)).toInt = (eA g311477 237 i).toInt) ∧ (∀ i : Int, 0 ≤ i → (i < v311522.toInt + 1 ∨ v311522.toInt + 900 ≤ i) → eA g_ 233 i = eA g311477 233 i) ∧ (∀ i : Int, 0 ≤ i → i < x322140.toInt → (eA g_ 233 (v311522.toInt + 98 + 2 * i)).toInt = (eA g311477 238 i).toInt ∧ (eA g_ 233 (v311522.toInt + 98 + 2 * i + 1)).toInt = (eA g311477 239 i).toInt)) ?_ (400 - 0) ⟨0, by first | rfl | omega, hI321519, hF321520, e321524, (w_p1 (by decide) (Or.inr rfl) e321525), (w_p1 (by decide) (Or.inr rfl) e321526), (w_e1 _ _ _), by decide, (Fr.tr Fr.rf q321529 rfl rfl), ((congrArg Int32.toInt (rfl)).trans q321530), (fun i i0 i1 => q321531 i i0 (by omega)), (fun i i0 i1 => (rfl).trans (q321532 i i0 i1)), (fun i i0 i1 => absurd i1 (by omega))⟩
                rintro n322145 l322144 g322141 ⟨x322140, hm322160, hI322142, hF322143, e322147, e322148, e322149, e322150, r322151, q322152, q322153, q322154, q322155, q322156⟩ ih322146
                have tv322161 := congrArg Int32.toInt e322147
                have t322164 := congrArg Int32.toInt ((q322155 2 (by decide) (Or.inl (by omega))).trans (((eA_c (hF311479.2.1 233 ma_X11_must_231_233)).trans ((eA_c (hF300762.2.1 233 ma_X11_isSign_231_233)).trans (eA_c (q268549.2.1 233 (by decide))))).trans hv214812))
                refine At.enter rfl ?_
                refine r_iload_n e322150 ?_
                refine r_aload_n e322148 ?_
                refine q_getI (Sh.int hI322142.1 kx_231 rfl) v268578 (((q322152.1 231 17 (by decide)).trans ((hF311479.1 231 17 mf_X11_must_231_231_17).trans (hF300762.1 231 17 mf_X11_isSign_231_231_17))).trans hv268578) ?_
                have bv322166 := q_bnd x322140
                have bv322167 := q_bnd v268578
                refine r_ics 187 rfl (fun c322165 => ?_) (fun c322165 => ?_)
                · have c322165_ : x322140.toInt ≥ v268578.toInt := en_i_ge_t c322165
                  refine At.enter rfl ?_
                  refine r_aload_n e322148 ?_
                  refine q_getR (Sh.ref hI322142.1 kx_231 rfl) ?_
                  refine r_iconst 2 rfl ?_
                  refine r_dup2 ⟨rfl, rfl⟩ ?_
                  refine q_iald (Sh.arr hI322142.1 ka_233) 2 rfl (by decide) v214812 ((q322155 2 (by decide) (Or.inl (by omega))).trans (((eA_c (hF311479.2.1 233 ma_X11_must_231_233)).trans ((eA_c (hF300762.2.1 233 ma_X11_isSign_231_233)).trans (eA_c (q268549.2.1 233 (by decide))))).trans hv214812)) ?_
                  refine r_iconst 1 rfl ?_
                  refine q_iadd (v214812.toInt + 1) rfl (by omega) (fun v322168 hv322168 => ?_)
                  refine q_iast (Sh.arr hI322142.1 ka_233) (2) rfl (by decide) ?_
                  have x322171 := HI.eqA hI322142 (p := 233) (j := 2) (((q322155 2 (by decide) (Or.inl (by omega))).trans (((eA_c (hF311479.2.1 233 ma_X11_must_231_233)).trans ((eA_c (hF300762.2.1 233 ma_X11_isSign_231_233)).trans (eA_c (q268549.2.1 233 (by decide))))).trans hv214812)))
                  have hI322169 := HI.wt2 hI322142 (v := v322168) (by omega) (by omega) (by rw [show 110 + 900 * (eA _ 233 2).toInt = v311522.toInt by omega]; exact LAW.mk (CLS.cong2 (q268555 (by omega)).2 hI311478 (((hF311479.2.1 238 ma_X11_must_231_238).trans (hF300762.2.1 238 ma_X11_isSign_231_238))) (((hF311479.2.1 239 ma_X11_must_231_239).trans (hF300762.2.1 239 ma_X11_isSign_231_239))) (((hF311479.2.1 237 ma_X11_must_231_237).trans (hF300762.2.1 237 ma_X11_isSign_231_237))) (((hF311479.1 231 15 mf_X11_must_231_231_15).trans (hF300762.1 231 15 mf_X11_isSign_231_231_15))) (((hF311479.1 231 17 mf_X11_must_231_231_17).trans (hF300762.1 231 17 mf_X11_isSign_231_231_17)))) ⟨by omega, by omega⟩ (by omega) q322153 q322154 (fun i i0 i1 => q322156 i i0 (by omega)))
                  have hF322170 := Fr.wA (p := 233) (j := 2) (v := v322168) hF322143 rfl
                  refine r_aload_n e322148 ?_
                  refine r_aload_n e322148 ?_
                  refine q_getR (Sh.ref hI322169.1 kx_231 rfl) ?_
                  refine r_iconst 2 rfl ?_
                  refine q_iald (Sh.arr hI322169.1 ka_233) 2 rfl (by decide) v322168 (eA_sA_eq hI322142.1 ka_233 (by first | rfl | omega) (by first | decide | omega) (by first | decide | omega)) ?_
                  refine r_iconst 1 rfl ?_
                  refine q_isub (v322168.toInt - 1) rfl (by omega) (fun v322172 hv322172 => ?_)
                  refine r_callV 255 rfl [.ref 231, .int v322172] [] (Nat.le_of_ble_eq_true rfl) rfl (T_X11_tell_231 _ hI322169 v322172 (by omega)) ?_
                  rintro _ _ ⟨g322173, rfl, hI322174, hF322175, v322176, rfl, hr322177⟩
                  refine At.sti ?_
                  have hF322178 := Fr.tr hF322170 hF322175 rfl rfl
                  refine At.enter rfl ?_
                  refine r_ireti ?_
                  have x322179 := HI.eqI hI322174 (p := 231) (b := 8) ((((hF322175.1 231 8 mf_X11_tell_231_231_8).trans (gI_sW)).trans e322147))
                  have x322181 := HI.eqA hI0 (p := 233) (j := 2) (hv214812)
                  have x322182 := HI.eqA hI322174 (p := 233) (j := 2) (((eA_c (hF322175.2.1 233 ma_X11_tell_231_233)).trans (eA_sA_eq hI322142.1 ka_233 (by first | rfl | omega) (by first | decide | omega) (by first | decide | omega))))
                  have x322187 := HI.eqI hI322174 (p := 231) (b := 13) ((((hF322175.1 231 13 mf_X11_tell_231_231_13).trans ((gI_sW).trans (q322152.1 231 13 (by decide)))).trans hv311509))
                  have ce := CDM.end_ q268556
                  have y322188 : pI g268540 11 = (gI g268540 231 11).toInt := rfl
                  have y322189 : (gI g311477 231 13).toInt = (gI g268540 231 9).toInt := (mu311511.2.2.1 (show (gI g268540 231 14).toInt = 0 from by omega) (by omega)).2
                  exact ⟨_, rfl, hI322174, hF322178, _, rfl, by omega, ⟨(fun i i0 i1 i2 => ((eA_c (hF322175.2.1 233 ma_X11_tell_231_233)).trans ((eA_sA_ne (i := i) hI322142.1 ka_233 (by omega) (by omega) (by omega)).trans ((q322155 i i0 (Or.inl (by omega))).trans (eA_c (((hF311479.2.1 233 ma_X11_must_231_233).trans ((hF300762.2.1 233 ma_X11_isSign_231_233).trans (q268549.2.1 233 (by decide)))))))))), by omega, Or.inr ⟨show (eA g0 233 2).toInt ≠ 6 from by omega, ⟨_, hskp0, Or.inl ⟨by omega, CLM.fin q268557 (show (gI g268540 231 14).toInt = 0 from by omega) (TKM.someC q268556 ((q268549.2.1 236 (by decide))) ((q268549.1 231 8 (by decide)))).choose_spec (by omega) (show (gI _ 231 13).toInt = (gI g268540 231 13).toInt from by omega)⟩⟩, Or.inr ⟨show _ = (eA g0 233 2).toInt from by omega, by omega, show (eA _ 233 2).toInt = (eA g0 233 2).toInt + 1 from by omega⟩⟩, (LWG_mk (at_ := v311522.toInt) hskp0 q268558 (show (gI g268540 231 14).toInt = 0 from by omega) (TKM.someC q268556 ((q268549.2.1 236 (by decide))) ((q268549.1 231 8 (by decide)))).choose_spec (by omega) (SMG_mk (((hF311479.2.1 238 ma_X11_must_231_238).trans (hF300762.2.1 238 ma_X11_isSign_231_238))) (((hF311479.2.1 239 ma_X11_must_231_239).trans (hF300762.2.1 239 ma_X11_isSign_231_239))) (((hF311479.1 231 17 mf_X11_must_231_231_17).trans (hF300762.1 231 17 mf_X11_isSign_231_231_17)))) (((hF311479.2.1 237 ma_X11_must_231_237).trans (hF300762.2.1 237 ma_X11_isSign_231_237))) (pI.c (((hF311479.1 231 15 mf_X11_must_231_231_15).trans (hF300762.1 231 15 mf_X11_isSign_231_231_15)))) ⟨show 0 ≤ (gI _ 231 15).toInt from by omega, show (gI _ 231 15).toInt ≤ 12 from by omega⟩ ⟨show 0 ≤ (gI _ 231 17).toInt from by omega, show (gI _ 231 17).toInt ≤ 400 from by omega⟩ (by omega) ((congrArg Int32.toInt (((eA_c (hF322175.2.1 233 ma_X11_tell_231_233)).trans (eA_sA_ne (i := v311522.toInt + 1) hI322142.1 ka_233 (by omega) (by omega) (by omega))))).trans q322153) (fun i i0 i1 => (congrArg Int32.toInt (((eA_c (hF322175.2.1 233 ma_X11_tell_231_233)).trans (eA_sA_ne (i := v311522.toInt + 2 + i) hI322142.1 ka_233 (by omega) (by omega) (by omega))))).trans (q322154 i i0 (by have i1 : i < 8 * (gI _ 231 15).toInt := i1; omega))) (fun i i0 i1 => (fun z => ⟨(congrArg Int32.toInt (((eA_c (hF322175.2.1 233 ma_X11_tell_231_233)).trans (eA_sA_ne (i := v311522.toInt + 98 + 2 * i) hI322142.1 ka_233 (by omega) (by omega) (by omega))))).trans z.1, (congrArg Int32.toInt (((eA_c (hF322175.2.1 233 ma_X11_tell_231_233)).trans (eA_sA_ne (i := v311522.toInt + 98 + 2 * i + 1) hI322142.1 ka_233 (by omega) (by omega) (by omega))))).trans z.2⟩) (q322156 i i0 (by have i1 : i < (gI _ 231 17).toInt := i1; omega)))), (show ROWE g0 _ from (fun i i0 i1 i2 => ((eA_c (hF322175.2.1 233 ma_X11_tell_231_233)).trans ((eA_sA_ne (i := i) hI322142.1 ka_233 (by omega) (by omega) (by omega)).trans ((q322155 i (by omega) (by omega)).trans (eA_c (((hF311479.2.1 233 ma_X11_must_231_233).trans ((hF300762.2.1 233 ma_X11_isSign_231_233).trans (q268549.2.1 233 (by decide))))))))))), (fun hr => False.elim (by omega))⟩⟩
                · have c322165_ : x322140.toInt < v268578.toInt := en_i_ge_f c322165
                  refine At.enter rfl ?_
                  refine r_aload_n e322148 ?_
                  refine q_getR (Sh.ref hI322142.1 kx_231 rfl) ?_
                  refine r_iload_n e322149 ?_
                  refine r_bipush 98 rfl ?_
                  refine q_iadd (v311522.toInt + 98) rfl (by omega) (fun v322193 hv322193 => ?_)
                  refine r_iconst 2 rfl ?_
                  refine r_iload_n e322150 ?_
                  refine q_imul (2 * x322140.toInt) rfl (by omega) (fun v322194 hv322194 => ?_)
                  refine q_iadd (v322193.toInt + v322194.toInt) rfl (by omega) (fun v322195 hv322195 => ?_)
                  refine r_aload_n e322148 ?_
                  refine q_getR (Sh.ref hI322142.1 kx_231 rfl) ?_
                  refine r_iload_n e322150 ?_
                  obtain ⟨v322196, hv322196⟩ : ∃ v, eA g268540 238 x322140.toInt = v := ⟨_, rfl⟩
                  refine q_iald (Sh.arr hI322142.1 ka_238) x322140.toInt rfl (by omega) v322196 ((eA_c ((q322152.2.1 238 (by decide)).trans ((hF311479.2.1 238 ma_X11_must_231_238).trans (hF300762.2.1 238 ma_X11_isSign_231_238)))).trans hv322196) ?_
                  refine q_iast (Sh.arr hI322142.1 ka_233) ((900 * v214812.toInt + 2 * x322140.toInt + 208)) (by omega) (by omega) ?_
                  have x322199 := HI.eqA hI322142 (p := 233) (j := 2) (((q322155 2 (by decide) (Or.inl (by omega))).trans (((eA_c (hF311479.2.1 233 ma_X11_must_231_233)).trans ((eA_c (hF300762.2.1 233 ma_X11_isSign_231_233)).trans (eA_c (q268549.2.1 233 (by decide))))).trans hv214812)))
                  have hI322197 := HI.wfree hI322142 (j := (900 * v214812.toInt + 2 * x322140.toInt + 208)) (v := v322196) ⟨by omega, by omega⟩
                  have hF322198 := Fr.wA (p := 233) (j := (900 * v214812.toInt + 2 * x322140.toInt + 208)) (v := v322196) hF322143 rfl
                  refine r_aload_n e322148 ?_
                  refine q_getR (Sh.ref hI322197.1 kx_231 rfl) ?_
                  refine r_iload_n e322149 ?_
                  refine r_bipush 98 rfl ?_
                  refine q_iadd (v311522.toInt + 98) rfl (by omega) (fun v322200 hv322200 => ?_)
                  refine r_iconst 2 rfl ?_
                  refine r_iload_n e322150 ?_
                  refine q_imul (2 * x322140.toInt) rfl (by omega) (fun v322201 hv322201 => ?_)
                  refine q_iadd (v322200.toInt + v322201.toInt) rfl (by omega) (fun v322202 hv322202 => ?_)
                  refine r_iconst 1 rfl ?_
                  refine q_iadd (v322202.toInt + 1) rfl (by omega) (fun v322203 hv322203 => ?_)
                  refine r_aload_n e322148 ?_
                  refine q_getR (Sh.ref hI322197.1 kx_231 rfl) ?_
                  refine r_iload_n e322150 ?_
                  obtain ⟨v322204, hv322204⟩ : ∃ v, eA g268540 239 x322140.toInt = v := ⟨_, rfl⟩
                  refine q_iald (Sh.arr hI322197.1 ka_239) x322140.toInt rfl (by omega) v322204 ((eA_c ((gA_sA_ne (by decide)).trans ((q322152.2.1 239 (by decide)).trans ((hF311479.2.1 239 ma_X11_must_231_239).trans (hF300762.2.1 239 ma_X11_isSign_231_239))))).trans hv322204) ?_
                  refine q_iast (Sh.arr hI322197.1 ka_233) ((900 * v214812.toInt + 2 * x322140.toInt + 209)) (by omega) (by omega) ?_
                  have x322207 := HI.eqA hI322197 (p := 233) (j := 2) (((eA_sA_ne hI322142.1 ka_233 (by first | decide | omega) (by first | decide | omega) (by first | decide | omega)).trans ((q322155 2 (by decide) (Or.inl (by omega))).trans (((eA_c (hF311479.2.1 233 ma_X11_must_231_233)).trans ((eA_c (hF300762.2.1 233 ma_X11_isSign_231_233)).trans (eA_c (q268549.2.1 233 (by decide))))).trans hv214812))))
                  have hI322205 := HI.wfree hI322197 (j := (900 * v214812.toInt + 2 * x322140.toInt + 209)) (v := v322204) ⟨by omega, by omega⟩
                  have hF322206 := Fr.wA (p := 233) (j := (900 * v214812.toInt + 2 * x322140.toInt + 209)) (v := v322204) hF322198 rfl
                  refine q_iinc e322150 (x322140.toInt + 1) rfl (by omega) (fun v322208 hv322208 => ?_)
                  refine r_goto ?_
                  exact ih322146 (400 - v322208.toInt) _ _ ⟨v322208, by first | rfl | omega, hI322205, hF322206, (((gI_sW).trans (gI_sW)).trans e322147), (w_p1 (by decide) (Or.inr rfl) e322148), (w_p1 (by decide) (Or.inr rfl) e322149), (w_e1 _ _ _), by omega, (Fr.wA (p := 233) (Fr.wA (p := 233) q322152 rfl) rfl), ((congrArg Int32.toInt (((eA_sA_ne (i := v311522.toInt + 1) hI322197.1 ka_233 (by omega) (by omega) (by omega)).trans (eA_sA_ne (i := v311522.toInt + 1) hI322142.1 ka_233 (by omega) (by omega) (by omega))))).trans q322153), (fun i i0 i1 => (congrArg Int32.toInt (((eA_sA_ne (i := v311522.toInt + 2 + i) hI322197.1 ka_233 (by omega) (by omega) (by omega)).trans (eA_sA_ne (i := v311522.toInt + 2 + i) hI322142.1 ka_233 (by omega) (by omega) (by omega))))).trans (q322154 i i0 i1)), (fun i i0 i1 => (((eA_sA_ne (i := i) hI322197.1 ka_233 (by omega) (by omega) (by omega)).trans (eA_sA_ne (i := i) hI322142.1 ka_233 (by omega) (by omega) (by omega)))).trans (q322155 i i0 i1)), (fun i i0 i1 => (Decidable.em (i = x322140.toInt)).elim (fun e => by rw [e]; exact ⟨((congrArg Int32.toInt ((eA_sA_ne (i := v311522.toInt + 98 + 2 * x322140.toInt) hI322197.1 ka_233 (by omega) (by omega) (by omega)).trans (eA_sA_eq hI322142.1 ka_233 (by omega) (by omega) (by omega)))).trans (congrArg Int32.toInt ((eA_c (((hF311479.2.1 238 ma_X11_must_231_238).trans (hF300762.2.1 238 ma_X11_isSign_231_238)))).trans hv322196)).symm), ((congrArg Int32.toInt (eA_sA_eq hI322197.1 ka_233 (by omega) (by omega) (by omega))).trans (congrArg Int32.toInt ((eA_c (((hF311479.2.1 239 ma_X11_must_231_239).trans (hF300762.2.1 239 ma_X11_isSign_231_239)))).trans hv322204)).symm)⟩) (fun e => ⟨(congrArg Int32.toInt (((eA_sA_ne (i := v311522.toInt + 98 + 2 * i) hI322197.1 ka_233 (by omega) (by omega) (by omega)).trans (eA_sA_ne (i := v311522.toInt + 98 + 2 * i) hI322142.1 ka_233 (by omega) (by omega) (by omega))))).trans (q322156 i i0 (by omega)).1, (congrArg Int32.toInt (((eA_sA_ne (i := v311522.toInt + 98 + 2 * i + 1) hI322197.1 ka_233 (by omega) (by omega) (by omega)).trans (eA_sA_ne (i := v311522.toInt + 98 + 2 * i + 1) hI322142.1 ka_233 (by omega) (by omega) (by omega))))).trans (q322156 i i0 (by omega)).2⟩))⟩ ⟨by omega, by omega⟩
              · have c321542_ : x321517.toInt < v321541.toInt := en_i_ge_f c321542
                refine At.enter rfl ?_
                refine r_aload_n e321525 ?_
                refine q_getR (Sh.ref hI321519.1 kx_231 rfl) ?_
                refine r_iload_n e321526 ?_
                refine r_iconst 2 rfl ?_
                refine q_iadd (v311522.toInt + 2) rfl (by omega) (fun v322209 hv322209 => ?_)
                refine r_iload_n e321527 ?_
                refine q_iadd (v322209.toInt + x321517.toInt) rfl (by omega) (fun v322210 hv322210 => ?_)
                refine r_aload_n e321525 ?_
                refine q_getR (Sh.ref hI321519.1 kx_231 rfl) ?_
                refine r_iload_n e321527 ?_
                obtain ⟨v322211, hv322211⟩ : ∃ v, eA g268540 237 x321517.toInt = v := ⟨_, rfl⟩
                refine q_iald (Sh.arr hI321519.1 ka_237) x321517.toInt rfl (by omega) v322211 ((eA_c ((q321529.2.1 237 (by decide)).trans ((hF311479.2.1 237 ma_X11_must_231_237).trans (hF300762.2.1 237 ma_X11_isSign_231_237)))).trans hv322211) ?_
                refine q_iast (Sh.arr hI321519.1 ka_233) ((900 * v214812.toInt + x321517.toInt + 112)) (by omega) (by omega) ?_
                have x322214 := HI.eqA hI321519 (p := 233) (j := 2) (((q321532 2 (by decide) (Or.inl (by omega))).trans (((eA_c (hF311479.2.1 233 ma_X11_must_231_233)).trans ((eA_c (hF300762.2.1 233 ma_X11_isSign_231_233)).trans (eA_c (q268549.2.1 233 (by decide))))).trans hv214812)))
                have hI322212 := HI.wfree hI321519 (j := (900 * v214812.toInt + x321517.toInt + 112)) (v := v322211) ⟨by omega, by omega⟩
                have hF322213 := Fr.wA (p := 233) (j := (900 * v214812.toInt + x321517.toInt + 112)) (v := v322211) hF321520 rfl
                refine q_iinc e321527 (x321517.toInt + 1) rfl (by omega) (fun v322215 hv322215 => ?_)
                refine r_goto ?_
                exact ih321523 (96 - v322215.toInt) _ _ ⟨v322215, by first | rfl | omega, hI322212, hF322213, ((gI_sW).trans e321524), (w_p1 (by decide) (Or.inr rfl) e321525), (w_p1 (by decide) (Or.inr rfl) e321526), (w_e1 _ _ _), by omega, (Fr.wA (p := 233) q321529 rfl), ((congrArg Int32.toInt ((eA_sA_ne (i := v311522.toInt + 1) hI321519.1 ka_233 (by omega) (by omega) (by omega)))).trans q321530), (fun i i0 i1 => (Decidable.em (i = x321517.toInt)).elim (fun e => by rw [e]; exact (congrArg Int32.toInt (eA_sA_eq hI321519.1 ka_233 (by omega) (by omega) (by omega))).trans (congrArg Int32.toInt ((eA_c (((hF311479.2.1 237 ma_X11_must_231_237).trans (hF300762.2.1 237 ma_X11_isSign_231_237)))).trans hv322211)).symm) (fun e => (congrArg Int32.toInt ((eA_sA_ne (i := v311522.toInt + 2 + i) hI321519.1 ka_233 (by omega) (by omega) (by omega)))).trans (q321531 i i0 (by omega)))), (fun i i0 i1 => ((eA_sA_ne (i := i) hI321519.1 ka_233 (by omega) (by omega) (by omega))).trans (q321532 i i0 i1))⟩ ⟨by omega, by omega⟩
            · have c311515_ : v311496.toInt ≠ 0 := en_k_eq_f c311515
              clear c311504
              have i322216 := MUSTP.w mu311511 (by omega)
              refine At.enter rfl ?_
              refine r_aload_n e268547 ?_
              refine r_bipush (-6) rfl ?_
              refine r_callV 115 rfl [.ref 231, .int (-6)] [] (Nat.le_of_ble_eq_true rfl) rfl (T_X11_tell_231 _ hI311513 (-6) (by decide)) ?_
              rintro _ _ ⟨g322217, rfl, hI322218, hF322219, v322220, rfl, hr322221⟩
              refine At.sti ?_
              have hF322222 := Fr.tr hF311514 hF322219 rfl rfl
              have zv322223 : ((-6) : Int32).toInt = (-6) := rfl
              refine At.enter rfl ?_
              refine r_ireti ?_
              have x322224 := HI.eqI hI322218 (p := 231) (b := 8) (((hF322219.1 231 8 mf_X11_tell_231_231_8).trans (gI_sI_eq hI311478.1 kx_231 rfl _)))
              have x322226 := HI.eqA hI0 (p := 233) (j := 2) (hv214812)
              have x322227 := HI.eqA hI322218 (p := 233) (j := 2) ((((eA_c (hF322219.2.1 233 ma_X11_tell_231_233)).trans ((eA_c gA_sI).trans ((eA_c (hF311479.2.1 233 ma_X11_must_231_233)).trans ((eA_c (hF300762.2.1 233 ma_X11_isSign_231_233)).trans (eA_c (q268549.2.1 233 (by decide))))))).trans hv214812))
              have x322232 := HI.eqI hI322218 (p := 231) (b := 13) ((((hF322219.1 231 13 mf_X11_tell_231_231_13).trans (gI_sI_ne (by decide))).trans hv311509))
              have ce := CDM.end_ q268556
              have y322233 : pI g268540 11 = (gI g268540 231 11).toInt := rfl
              have y322234 : (gI g311477 231 13).toInt = (gI g268540 231 9).toInt := (mu311511.2.2.1 (show (gI g268540 231 14).toInt = 0 from by omega) (by omega)).2
              exact ⟨_, rfl, hI322218, hF322222, _, rfl, by omega, ⟨(fun i i0 i1 i2 => eA_c (((hF322219.2.1 233 ma_X11_tell_231_233).trans ((gA_sI).trans ((hF311479.2.1 233 ma_X11_must_231_233).trans ((hF300762.2.1 233 ma_X11_isSign_231_233).trans (q268549.2.1 233 (by decide)))))))), by omega, Or.inr ⟨show (eA g0 233 2).toInt ≠ 6 from by omega, ⟨_, hskp0, Or.inr ⟨by omega, CLM.faild q268557 (show (gI g268540 231 14).toInt = 0 from by omega) (TKM.someC q268556 ((q268549.2.1 236 (by decide))) ((q268549.1 231 8 (by decide)))).choose_spec (by omega) (by omega) (show (gI _ 231 13).toInt = (gI g268540 231 9).toInt from by omega)⟩⟩, Or.inl ⟨by omega, (show (eA _ 233 2).toInt = (eA g0 233 2).toInt from by omega)⟩⟩, (fun h1 => absurd (show _ = (-6 : Int) from by omega) h1), (show ROWE g0 _ from (fun i i0 i1 i2 => eA_c (((hF322219.2.1 233 ma_X11_tell_231_233).trans ((gA_sI).trans ((hF311479.2.1 233 ma_X11_must_231_233).trans ((hF300762.2.1 233 ma_X11_isSign_231_233).trans (q268549.2.1 233 (by decide))))))))), (fun hr i i0 i1 => eA_c (((hF322219.2.1 233 ma_X11_tell_231_233).trans ((gA_sI).trans ((hF311479.2.1 233 ma_X11_must_231_233).trans ((hF300762.2.1 233 ma_X11_isSign_231_233).trans (q268549.2.1 233 (by decide))))))))⟩⟩
      · have c300770_ : v300763.toInt ≠ 0 := en_k_eq_f c300770
        have i322236 := BL.yes hb300769 (by omega)
        refine At.enter rfl ?_
        refine r_aload_n e268547 ?_
        have x322237 := HI.eqI hI300761 (p := 231) (b := 8) ((((hF300762.1 231 8 mf_X11_isSign_231_231_8).trans (q268549.1 231 8 (by decide))).trans hv1))
        have x322238 := HI.eqI hI300761 (p := 231) (b := 10) (((hF300762.1 231 10 mf_X11_isSign_231_231_10).trans hv268570))
        refine r_callV 71 rfl [.ref 231] [] (Nat.le_of_ble_eq_true rfl) rfl (T_X11_next_231 _ hI300761 (by omega)) ?_
        rintro _ _ ⟨g322239, rfl, hI322240, hF322241, rfl, hr322243⟩
        refine At.stn ?_
        have hF322244 := Fr.tr hF300765 hF322241 rfl rfl
        have x322247 := HI.eqI hI322240 (p := 231) (b := 8) ((((hF322241.1 231 8 mf_X11_next_231_231_8).trans ((hF300762.1 231 8 mf_X11_isSign_231_231_8).trans (q268549.1 231 8 (by decide)))).trans hv1))
        obtain ⟨v322248, hv322248⟩ : ∃ v, gI g322239 231 9 = v := ⟨_, rfl⟩
        have rv322248 := RgF.at hI322240.2.1 (p := 231) (b := 9) rfl
        rw [hv322248] at rv322248
        dsimp only at rv322248
        have tv322248 := congrArg Int32.toInt hv322248
        obtain ⟨v322250, hv322250⟩ : ∃ v, gI g322239 231 10 = v := ⟨_, rfl⟩
        have rv322250 := RgF.at hI322240.2.1 (p := 231) (b := 10) rfl
        rw [hv322250] at rv322250
        dsimp only at rv322250
        have tv322250 := congrArg Int32.toInt hv322250
        obtain ⟨v322252, hv322252⟩ : ∃ v, gI g322239 231 11 = v := ⟨_, rfl⟩
        have tv322252 := congrArg Int32.toInt hv322252
        obtain ⟨c322254, c322255, c322256, c322257, c322258, c322259, c322260⟩ := hr322243
        have tok322261_ := c322260.2
        rw [TM.c ((hF300762.2.1 236 ma_X11_isSign_231_236)), nM.c ((hF300762.1 231 8 mf_X11_isSign_231_231_8)), pI.c (b := 10) ((hF300762.1 231 10 mf_X11_isSign_231_231_10))] at tok322261_
        have tok322261 := TKM.tok q268556 tok322261_
        rw [TM.c ((q268549.2.1 236 (by decide))), nM.c ((q268549.1 231 8 (by decide)))] at tok322261
        have hK322262 := c322260.1
        refine At.enter rfl ?_
        refine r_aload_n e268547 ?_
        have x322267 := HI.eqI hI322240 (p := 231) (b := 14) ((((hF322241.1 231 14 mf_X11_next_231_231_14).trans (hF300762.1 231 14 mf_X11_isSign_231_231_14)).trans hv268574))
        have x322268 := HI.eqI hI322240 (p := 231) (b := 15) ((((hF322241.1 231 15 mf_X11_next_231_231_15).trans (hF300762.1 231 15 mf_X11_isSign_231_231_15)).trans hv268576))
        have x322269 := HI.eqI hI322240 (p := 231) (b := 17) ((((hF322241.1 231 17 mf_X11_next_231_231_17).trans (hF300762.1 231 17 mf_X11_isSign_231_231_17)).trans hv268578))
        obtain ⟨v322270, hv322270⟩ : ∃ v, gI g268540 231 13 = v := ⟨_, rfl⟩
        have tv322270 := congrArg Int32.toInt hv322270
        have x322271 := HI.eqI hI322240 (p := 231) (b := 13) ((((hF322241.1 231 13 mf_X11_next_231_231_13).trans (hF300762.1 231 13 mf_X11_isSign_231_231_13)).trans hv322270))
        obtain ⟨v322272, hv322272⟩ : ∃ v, gI g268540 231 20 = v := ⟨_, rfl⟩
        have tv322272 := congrArg Int32.toInt hv322272
        have x322273 := HI.eqI hI322240 (p := 231) (b := 20) ((((hF322241.1 231 20 mf_X11_next_231_231_20).trans (hF300762.1 231 20 mf_X11_isSign_231_231_20)).trans hv322272))
        have y322274 := (q268555 (by omega)).1
        refine r_callV 75 rfl [.ref 231] [] (Nat.le_of_ble_eq_true rfl) rfl (T_X11_readClause_231 _ hI322240 (by refine ⟨?_, ?_, ?_, ?_⟩ <;> omega) (by omega) (by omega) c322259 (CLS.cong2 (q268555 (by omega)).2 hI322240 (((hF322241.2.1 238 ma_X11_next_231_238).trans (hF300762.2.1 238 ma_X11_isSign_231_238))) (((hF322241.2.1 239 ma_X11_next_231_239).trans (hF300762.2.1 239 ma_X11_isSign_231_239))) (((hF322241.2.1 237 ma_X11_next_231_237).trans (hF300762.2.1 237 ma_X11_isSign_231_237))) (((hF322241.1 231 15 mf_X11_next_231_231_15).trans (hF300762.1 231 15 mf_X11_isSign_231_231_15))) (((hF322241.1 231 17 mf_X11_next_231_231_17).trans (hF300762.1 231 17 mf_X11_isSign_231_231_17)))) hK322262) ?_
        rintro _ _ ⟨g322275, rfl, hI322276, hF322277, rfl, hr322279⟩
        refine At.stn ?_
        have hF322280 := Fr.tr hF322244 hF322277 rfl rfl
        have x322282 := HI.eqI hI322276 (p := 231) (b := 8) ((((hF322277.1 231 8 mf_X11_readClause_231_231_8).trans ((hF322241.1 231 8 mf_X11_next_231_231_8).trans ((hF300762.1 231 8 mf_X11_isSign_231_231_8).trans (q268549.1 231 8 (by decide))))).trans hv1))
        obtain ⟨v322283, hv322283⟩ : ∃ v, gI g322275 231 9 = v := ⟨_, rfl⟩
        have rv322283 := RgF.at hI322276.2.1 (p := 231) (b := 9) rfl
        rw [hv322283] at rv322283
        dsimp only at rv322283
        have tv322283 := congrArg Int32.toInt hv322283
        obtain ⟨v322285, hv322285⟩ : ∃ v, gI g322275 231 10 = v := ⟨_, rfl⟩
        have rv322285 := RgF.at hI322276.2.1 (p := 231) (b := 10) rfl
        rw [hv322285] at rv322285
        dsimp only at rv322285
        have tv322285 := congrArg Int32.toInt hv322285
        obtain ⟨v322287, hv322287⟩ : ∃ v, gI g322275 231 11 = v := ⟨_, rfl⟩
        have tv322287 := congrArg Int32.toInt hv322287
        obtain ⟨v322289, hv322289⟩ : ∃ v, gI g322275 231 14 = v := ⟨_, rfl⟩
        have tv322289 := congrArg Int32.toInt hv322289
        obtain ⟨v322291, hv322291⟩ : ∃ v, gI g322275 231 15 = v := ⟨_, rfl⟩
        have rv322291 := RgF.at hI322276.2.1 (p := 231) (b := 15) rfl
        rw [hv322291] at rv322291
        dsimp only at rv322291
        have tv322291 := congrArg Int32.toInt hv322291
        obtain ⟨v322293, hv322293⟩ : ∃ v, gI g322275 231 17 = v := ⟨_, rfl⟩
        have rv322293 := RgF.at hI322276.2.1 (p := 231) (b := 17) rfl
        rw [hv322293] at rv322293
        dsimp only at rv322293
        have tv322293 := congrArg Int32.toInt hv322293
        obtain ⟨c322295, c322296, c322297, c322298, c322299, c322300, c322301, c322302⟩ := hr322279
        have hK322303 := c322302.1
        obtain ⟨v322304, hv322304⟩ : ∃ v, gI g322275 231 13 = v := ⟨_, rfl⟩
        have tv322304 := congrArg Int32.toInt hv322304
        refine At.enter rfl ?_
        refine r_goto ?_
        exact ih268545 (400 - v322283.toInt) _ _ ⟨v322283, by first | rfl | omega, hI322276, hF322280, hv322283, e268547, by omega, (Fr.tr (Fr.tr (Fr.tr q268549 hF300762 rfl rfl) hF322241 rfl rfl) hF322277 rfl rfl), by omega, by omega, by omega, by omega, c322299, c322301, hK322303, (CPM.at_ c322302.2.1 (((hF322241.2.1 236 ma_X11_next_231_236).trans ((hF300762.2.1 236 ma_X11_isSign_231_236).trans (q268549.2.1 236 (by decide))))) (((hF322241.1 231 8 mf_X11_next_231_231_8).trans ((hF300762.1 231 8 mf_X11_isSign_231_231_8).trans (q268549.1 231 8 (by decide))))) (CLM.semi q268557 (show (gI g268540 231 14).toInt = 0 from by omega) tok322261 (by omega) (pI.c (((hF322241.1 231 20 mf_X11_next_231_231_20).trans (hF300762.1 231 20 mf_X11_isSign_231_231_20)))) (pI.c (((hF322241.1 231 15 mf_X11_next_231_231_15).trans (hF300762.1 231 15 mf_X11_isSign_231_231_15)))) ((pI.c (((hF322241.1 231 14 mf_X11_next_231_231_14).trans (hF300762.1 231 14 mf_X11_isSign_231_231_14)))).trans (show (gI g268540 231 14).toInt = 0 from by omega)) (pI.c (((hF322241.1 231 13 mf_X11_next_231_231_13).trans (hF300762.1 231 13 mf_X11_isSign_231_231_13)))))), (fun h14 => CPG_at c322302.2.2 (((hF322241.2.1 236 ma_X11_next_231_236).trans ((hF300762.2.1 236 ma_X11_isSign_231_236).trans (q268549.2.1 236 (by decide))))) (((hF322241.1 231 8 mf_X11_next_231_231_8).trans ((hF300762.1 231 8 mf_X11_isSign_231_231_8).trans (q268549.1 231 8 (by decide))))) h14 (RGL_semi q268558 (show (gI g268540 231 14).toInt = 0 from by omega) tok322261 (by omega) (SMG_mk (((hF322241.2.1 238 ma_X11_next_231_238).trans (hF300762.2.1 238 ma_X11_isSign_231_238))) (((hF322241.2.1 239 ma_X11_next_231_239).trans (hF300762.2.1 239 ma_X11_isSign_231_239))) (((hF322241.1 231 17 mf_X11_next_231_231_17).trans (hF300762.1 231 17 mf_X11_isSign_231_231_17)))) (((hF322241.2.1 237 ma_X11_next_231_237).trans (hF300762.2.1 237 ma_X11_isSign_231_237))) (pI.c (((hF322241.1 231 15 mf_X11_next_231_231_15).trans (hF300762.1 231 15 mf_X11_isSign_231_231_15))))))⟩ ⟨by omega, by omega⟩
  · have c214813_ : v214812.toInt = 6 := en_i_ne_f c214813
    refine At.enter rfl ?_
    refine r_aload_n rfl ?_
    refine r_iconst 0 rfl ?_
    refine q_putI (Sh.int hI214810.1 kx_231 rfl) rfl ?_
    have hI322314 := HI.wI1 hI214810 kx_231 rfl (p := 231) (b := 8) (v := 0) rfl (by decide)
    have hF322315 := Fr.wI (p := 231) (b := 8) (v := 0) hF214811 rfl
    refine r_aload_n rfl ?_
    refine r_bipush (-5) rfl ?_
    refine r_callV 27 rfl [.ref 231, .int (-5)] [] (Nat.le_of_ble_eq_true rfl) rfl (T_X11_tell_231 _ hI322314 (-5) (by decide)) ?_
    rintro _ _ ⟨g322316, rfl, hI322317, hF322318, v322319, rfl, hr322320⟩
    refine At.sti ?_
    have hF322321 := Fr.tr hF322315 hF322318 rfl rfl
    have zv322322 : ((-5) : Int32).toInt = (-5) := rfl
    refine At.enter rfl ?_
    refine r_ireti ?_
    have x322323 := HI.eqI hI322317 (p := 231) (b := 8) (((hF322318.1 231 8 mf_X11_tell_231_231_8).trans (gI_sI_eq hI214810.1 kx_231 rfl _)))
    have zv322324 : (0 : Int32).toInt = 0 := rfl
    have x322325 := HI.eqA hI0 (p := 233) (j := 2) (hv214812)
    have x322326 := HI.eqA hI322317 (p := 233) (j := 2) ((((eA_c (hF322318.2.1 233 ma_X11_tell_231_233)).trans ((eA_c gA_sI).trans (eA_c gA_sI))).trans hv214812))
    exact ⟨_, rfl, hI322317, hF322321, _, rfl, by omega, ⟨(fun i i0 i1 i2 => eA_c (((hF322318.2.1 233 ma_X11_tell_231_233).trans ((gA_sI).trans (gA_sI))))), by omega, Or.inl ⟨show (eA g0 233 2).toInt = 6 from by omega, by omega, pI.c (((hF322318.1 231 13 mf_X11_tell_231_231_13).trans ((gI_sI_ne (by decide)).trans (gI_sI_ne (by decide))))), (show (eA _ 233 2).toInt = (eA g0 233 2).toInt from by omega)⟩, (fun h1 h2 => absurd (show (eA g0 233 2).toInt = 6 from by omega) h2), (show ROWE g0 _ from (fun i i0 i1 i2 => eA_c (((hF322318.2.1 233 ma_X11_tell_231_233).trans ((gA_sI).trans (gA_sI)))))), (fun hr i i0 i1 => eA_c (((hF322318.2.1 233 ma_X11_tell_231_233).trans ((gA_sI).trans (gA_sI)))))⟩⟩
