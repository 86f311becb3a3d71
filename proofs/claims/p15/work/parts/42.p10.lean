def F_X11_law_231 : List (Nat × Nat) := [(231, 0), (231, 1), (231, 8), (231, 9), (231, 10), (231, 11), (231, 12), (231, 13), (231, 14), (231, 15), (231, 17), (231, 20), (231, 23), (231, 24)]
def A_X11_law_231 : List Nat := [232, 233, 237, 238, 239, 240, 241]
theorem mf_X11_readClause_231_231_8 : memF F_X11_readClause_231 231 8 = false := by decide
theorem mf_X11_tell_231_231_13 : memF F_X11_tell_231 231 13 = false := by decide
theorem ma_X11_must_231_233 : memA A_X11_must_231 233 = false := by decide
theorem ma_X11_isSign_231_233 : memA A_X11_isSign_231 233 = false := by decide
theorem ma_X11_isSign_231_237 : memA A_X11_isSign_231 237 = false := by decide
set_option maxRecDepth 100000 in
set_option maxHeartbeats 4000000 in
theorem T_X11_law_231 (d : Nat) {N : Nat} {g0 : List en_E} (hI0 : HI g0) : Ev (d + 9) 210 [.ref 231] (g0, N) (fun w h' => ∃ g', h' = (g', N) ∧ HI g' ∧ Fr F_X11_law_231 A_X11_law_231 g0 g' ∧ ∃ r : Int32, w = some (.int r) ∧ ((-6) ≤ r.toInt ∧ r.toInt ≤ 5) ∧ ((∀ i : Int, 0 ≤ i → i < 110 → i ≠ 2 → eA g' 233 i = eA g0 233 i) ∧ (gI g' 231 8).toInt = 0 ∧ LWM g0 g' r.toInt)) := by
  have hF0 : Fr F_X11_law_231 A_X11_law_231 g0 g0 := Fr.rf
  obtain ⟨v1, hv1⟩ : ∃ v, gI g0 231 8 = v := ⟨_, rfl⟩
  have rv1 := RgF.at hI0.2.1 (p := 231) (b := 8) rfl
  rw [hv1] at rv1
  dsimp only at rv1
  have tv1 := congrArg Int32.toInt hv1
  refine Ev.mk rfl rfl ⟨Nat.le_of_ble_eq_true rfl, Or.inr (q_rc hI0.1 kx_231 rfl)⟩ ?_
  show At _ none _ _ (0, [(0, .ref 231)], [], (_, _)) _
  refine At.enter rfl ?_
  refine r_aload_n rfl ?_
  refine r_iconst 0 rfl ?_
  refine q_putI (Sh.int hI0.1 kx_231 rfl) rfl ?_
  have hI214808 := HI.wI0 hI0 kx_231 rfl (p := 231) (b := 0) (v := 0) rfl
  have hF214809 := Fr.wI (p := 231) (b := 0) (v := 0) hF0 rfl
  refine r_aload_n rfl ?_
  refine q_getR (Sh.ref hI214808.1 kx_231 rfl) ?_
  refine r_iconst 2 rfl ?_
  obtain ⟨v214810, hv214810⟩ : ∃ v, eA g0 233 2 = v := ⟨_, rfl⟩
  have tv214810 := congrArg Int32.toInt hv214810
  have wv214810 := HI.t2 hI0
  rw [hv214810] at wv214810
  refine q_iald (Sh.arr hI214808.1 ka_233) 2 rfl (by decide) v214810 ((eA_c (gA_sI)).trans hv214810) ?_
  refine r_bipush 6 rfl ?_
  refine r_ics 16 rfl (fun c214811 => ?_) (fun c214811 => ?_)
  · have c214811_ : v214810.toInt ≠ 6 := en_i_ne_t c214811
    refine At.enter rfl ?_
    refine r_aload_n rfl ?_
    refine q_inlV 32 rfl [.ref 231] [] (Nat.le_of_ble_eq_true rfl) rfl ?_
    refine Ev.mk rfl rfl ⟨Nat.le_of_ble_eq_true rfl, Or.inr (q_rc hI214808.1 kx_231 rfl)⟩ ?_
    show At _ none _ _ (0, [(0, .ref 231)], [], (_, _)) _
    refine At.enter rfl ?_
    refine r_aload_n rfl ?_
    refine r_iconst 0 rfl ?_
    refine q_putI (Sh.int hI214808.1 kx_231 rfl) rfl ?_
    have hI214812 := HI.wI1 hI214808 kx_231 rfl (p := 231) (b := 10) (v := 0) rfl (by decide)
    have hF214813 := Fr.wI (p := 231) (b := 10) (v := 0) hF214809 rfl
    refine r_aload_n rfl ?_
    refine r_iconst 0 rfl ?_
    refine q_putI (Sh.int hI214812.1 kx_231 rfl) rfl ?_
    have hI214814 := HI.wI0 hI214812 kx_231 rfl (p := 231) (b := 14) (v := 0) rfl
    have hF214815 := Fr.wI (p := 231) (b := 14) (v := 0) hF214813 rfl
    refine r_aload_n rfl ?_
    refine r_iconst (-1) rfl ?_
    refine q_putI (Sh.int hI214814.1 kx_231 rfl) rfl ?_
    have hI214816 := HI.wI0 hI214814 kx_231 rfl (p := 231) (b := 13) (v := (-1)) rfl
    have hF214817 := Fr.wI (p := 231) (b := 13) (v := (-1)) hF214815 rfl
    refine r_aload_n rfl ?_
    have x214818 := HI.eqI hI214816 (p := 231) (b := 8) ((((gI_sI_ne (by decide)).trans ((gI_sI_ne (by decide)).trans ((gI_sI_ne (by decide)).trans (gI_sI_ne (by decide))))).trans hv1))
    have x214819 := HI.eqI hI214816 (p := 231) (b := 10) (((gI_sI_ne (by decide)).trans ((gI_sI_ne (by decide)).trans (gI_sI_eq hI214808.1 kx_231 rfl _))))
    have zv214820 : (0 : Int32).toInt = 0 := rfl
    refine r_callV 19 rfl [.ref 231] [] (Nat.le_of_ble_eq_true rfl) rfl (T_X11_next_231 _ hI214816 (by omega)) ?_
    rintro _ _ ⟨g214821, rfl, hI214822, hF214823, rfl, hr214825⟩
    refine At.stn ?_
    have hF214826 := Fr.tr hF214817 hF214823 rfl rfl
    have x214830 := HI.eqI hI214822 (p := 231) (b := 8) ((((hF214823.1 231 8 mf_X11_next_231_231_8).trans ((gI_sI_ne (by decide)).trans ((gI_sI_ne (by decide)).trans ((gI_sI_ne (by decide)).trans (gI_sI_ne (by decide)))))).trans hv1))
    obtain ⟨v214831, hv214831⟩ : ∃ v, gI g214821 231 9 = v := ⟨_, rfl⟩
    have rv214831 := RgF.at hI214822.2.1 (p := 231) (b := 9) rfl
    rw [hv214831] at rv214831
    dsimp only at rv214831
    have tv214831 := congrArg Int32.toInt hv214831
    obtain ⟨v214833, hv214833⟩ : ∃ v, gI g214821 231 10 = v := ⟨_, rfl⟩
    have rv214833 := RgF.at hI214822.2.1 (p := 231) (b := 10) rfl
    rw [hv214833] at rv214833
    dsimp only at rv214833
    have tv214833 := congrArg Int32.toInt hv214833
    obtain ⟨v214835, hv214835⟩ : ∃ v, gI g214821 231 11 = v := ⟨_, rfl⟩
    have tv214835 := congrArg Int32.toInt hv214835
    obtain ⟨c214837, c214838, c214839, c214840, c214841, c214842, c214843⟩ := hr214825
    have hK214844 := c214843.1
    refine At.enter rfl ?_
    refine q_vret ?_
    refine At.enter rfl ?_
    refine r_aload_n rfl ?_
    refine r_iconst 0 rfl ?_
    refine q_putI (Sh.int hI214822.1 kx_231 rfl) rfl ?_
    have hI214845 := HI.wI1 hI214822 kx_231 rfl (p := 231) (b := 15) (v := 0) rfl (by decide)
    have hF214846 := Fr.wI (p := 231) (b := 15) (v := 0) hF214826 rfl
    refine r_aload_n rfl ?_
    refine r_iconst 0 rfl ?_
    refine q_putI (Sh.int hI214845.1 kx_231 rfl) rfl ?_
    have hI214847 := HI.wI1 hI214845 kx_231 rfl (p := 231) (b := 17) (v := 0) rfl (by decide)
    have hF214848 := Fr.wI (p := 231) (b := 17) (v := 0) hF214846 rfl
    refine r_aload_n rfl ?_
    refine r_iconst 0 rfl ?_
    refine q_putI (Sh.int hI214847.1 kx_231 rfl) rfl ?_
    have hI214849 := HI.wI0 hI214847 kx_231 rfl (p := 231) (b := 20) (v := 0) rfl
    have hF214850 := Fr.wI (p := 231) (b := 20) (v := 0) hF214848 rfl
    refine r_aload_n rfl ?_
    have x214851 := HI.eqI hI214849 (p := 231) (b := 8) ((((gI_sI_ne (by decide)).trans ((gI_sI_ne (by decide)).trans ((gI_sI_ne (by decide)).trans ((hF214823.1 231 8 mf_X11_next_231_231_8).trans ((gI_sI_ne (by decide)).trans ((gI_sI_ne (by decide)).trans ((gI_sI_ne (by decide)).trans (gI_sI_ne (by decide))))))))).trans hv1))
    have x214852 := HI.eqI hI214849 (p := 231) (b := 9) ((((gI_sI_ne (by decide)).trans ((gI_sI_ne (by decide)).trans (gI_sI_ne (by decide)))).trans hv214831))
    have x214853 := HI.eqI hI214849 (p := 231) (b := 10) ((((gI_sI_ne (by decide)).trans ((gI_sI_ne (by decide)).trans (gI_sI_ne (by decide)))).trans hv214833))
    have x214854 := HI.eqI hI214849 (p := 231) (b := 11) ((((gI_sI_ne (by decide)).trans ((gI_sI_ne (by decide)).trans (gI_sI_ne (by decide)))).trans hv214835))
    have x214855 := HI.eqI hI214849 (p := 231) (b := 14) (((gI_sI_ne (by decide)).trans ((gI_sI_ne (by decide)).trans ((gI_sI_ne (by decide)).trans ((hF214823.1 231 14 mf_X11_next_231_231_14).trans ((gI_sI_ne (by decide)).trans (gI_sI_eq hI214812.1 kx_231 rfl _)))))))
    have x214857 := HI.eqI hI214849 (p := 231) (b := 15) (((gI_sI_ne (by decide)).trans ((gI_sI_ne (by decide)).trans (gI_sI_eq hI214822.1 kx_231 rfl _))))
    have x214859 := HI.eqI hI214849 (p := 231) (b := 17) (((gI_sI_ne (by decide)).trans (gI_sI_eq hI214845.1 kx_231 rfl _)))
    have x214861 := HI.eqI hI214849 (p := 231) (b := 13) (((gI_sI_ne (by decide)).trans ((gI_sI_ne (by decide)).trans ((gI_sI_ne (by decide)).trans ((hF214823.1 231 13 mf_X11_next_231_231_13).trans (gI_sI_eq hI214814.1 kx_231 rfl _))))))
    have zv214862 : ((-1) : Int32).toInt = (-1) := rfl
    have x214863 := HI.eqI hI214849 (p := 231) (b := 20) ((gI_sI_eq hI214847.1 kx_231 rfl _))
    have w26214865 := W26.cong c214842 hI214849 (((gI_sI_ne (by decide)).trans ((gI_sI_ne (by decide)).trans (gI_sI_ne (by decide))))) (((gI_sI_ne (by decide)).trans ((gI_sI_ne (by decide)).trans (gI_sI_ne (by decide))))) (((gI_sI_ne (by decide)).trans ((gI_sI_ne (by decide)).trans (gI_sI_ne (by decide))))) (((gJ_sI_ne (by decide)).trans ((gJ_sI_ne (by decide)).trans (gJ_sI_ne (by decide)))))
    refine r_callV 51 rfl [.ref 231] [] (Nat.le_of_ble_eq_true rfl) rfl (T_X11_readClause_231 _ hI214849 (by refine ⟨?_, ?_, ?_, ?_⟩ <;> omega) (by omega) (by omega) w26214865 (CLS.zero0 (by omega)) (TKM.c hK214844 (((gA_sI).trans ((gA_sI).trans (gA_sI)))) (((gI_sI_ne (by decide)).trans ((gI_sI_ne (by decide)).trans (gI_sI_ne (by decide))))) (((gI_sI_ne (by decide)).trans ((gI_sI_ne (by decide)).trans (gI_sI_ne (by decide))))) (((gI_sI_ne (by decide)).trans ((gI_sI_ne (by decide)).trans (gI_sI_ne (by decide))))) (((gI_sI_ne (by decide)).trans ((gI_sI_ne (by decide)).trans (gI_sI_ne (by decide))))) (((gJ_sI_ne (by decide)).trans ((gJ_sI_ne (by decide)).trans (gJ_sI_ne (by decide))))))) ?_
    rintro _ _ ⟨g214866, rfl, hI214867, hF214868, rfl, hr214870⟩
    refine At.stn ?_
    have hF214871 := Fr.tr hF214850 hF214868 rfl rfl
    have x214873 := HI.eqI hI214867 (p := 231) (b := 8) ((((hF214868.1 231 8 mf_X11_readClause_231_231_8).trans ((gI_sI_ne (by decide)).trans ((gI_sI_ne (by decide)).trans ((gI_sI_ne (by decide)).trans ((hF214823.1 231 8 mf_X11_next_231_231_8).trans ((gI_sI_ne (by decide)).trans ((gI_sI_ne (by decide)).trans ((gI_sI_ne (by decide)).trans (gI_sI_ne (by decide)))))))))).trans hv1))
    obtain ⟨v214874, hv214874⟩ : ∃ v, gI g214866 231 9 = v := ⟨_, rfl⟩
    have rv214874 := RgF.at hI214867.2.1 (p := 231) (b := 9) rfl
    rw [hv214874] at rv214874
    dsimp only at rv214874
    have tv214874 := congrArg Int32.toInt hv214874
    obtain ⟨v214876, hv214876⟩ : ∃ v, gI g214866 231 10 = v := ⟨_, rfl⟩
    have rv214876 := RgF.at hI214867.2.1 (p := 231) (b := 10) rfl
    rw [hv214876] at rv214876
    dsimp only at rv214876
    have tv214876 := congrArg Int32.toInt hv214876
    obtain ⟨v214878, hv214878⟩ : ∃ v, gI g214866 231 11 = v := ⟨_, rfl⟩
    have tv214878 := congrArg Int32.toInt hv214878
    obtain ⟨v214880, hv214880⟩ : ∃ v, gI g214866 231 14 = v := ⟨_, rfl⟩
    have tv214880 := congrArg Int32.toInt hv214880
    obtain ⟨v214882, hv214882⟩ : ∃ v, gI g214866 231 15 = v := ⟨_, rfl⟩
    have rv214882 := RgF.at hI214867.2.1 (p := 231) (b := 15) rfl
    rw [hv214882] at rv214882
    dsimp only at rv214882
    have tv214882 := congrArg Int32.toInt hv214882
    obtain ⟨v214884, hv214884⟩ : ∃ v, gI g214866 231 17 = v := ⟨_, rfl⟩
    have rv214884 := RgF.at hI214867.2.1 (p := 231) (b := 17) rfl
    rw [hv214884] at rv214884
    dsimp only at rv214884
    have tv214884 := congrArg Int32.toInt hv214884
    obtain ⟨c214886, c214887, c214888, c214889, c214890, c214891, c214892, c214893⟩ := hr214870
    have hK214894 := c214893.1
    obtain ⟨v214895, hv214895⟩ : ∃ v, gI g214866 231 13 = v := ⟨_, rfl⟩
    have tv214895 := congrArg Int32.toInt hv214895
    have hskp0 : SKP (TM g0) (nM g0) 0 (pI g214821 9) := SKP.st0 c214843.2 (((gA_sI).trans ((gA_sI).trans ((gA_sI).trans (gA_sI))))) (((gI_sI_ne (by decide)).trans ((gI_sI_ne (by decide)).trans ((gI_sI_ne (by decide)).trans (gI_sI_ne (by decide)))))) (show (gI _ 231 10).toInt = 0 from by omega)
    refine w_loopI (fun n_ l_ g_ => ∃ x268537 : Int32, n_ = 400 - x268537.toInt ∧ HI g_ ∧ Fr F_X11_law_231 A_X11_law_231 g0 g_ ∧ gI g_ 231 9 = x268537 ∧ en_get 0 l_ = some (.ref 231) ∧ (0 ≤ x268537.toInt ∧ x268537.toInt ≤ 400) ∧ (Fr [(231, 0), (231, 9), (231, 10), (231, 11), (231, 12), (231, 13), (231, 14), (231, 15), (231, 17), (231, 20), (231, 23), (231, 24)] [237, 238, 239, 240, 241] g0 g_) ∧ ((gI g_ 231 9).toInt ≤ (gI g_ 231 10).toInt) ∧ ((gI g_ 231 10).toInt ≤ (gI g_ 231 8).toInt) ∧ (0 ≤ (gI g_ 231 11).toInt) ∧ ((gI g_ 231 11).toInt ≤ 3 * ((gI g_ 231 10).toInt - (gI g_ 231 9).toInt)) ∧ (W26 g_) ∧ (CLZ g_) ∧ (TKM g_) ∧ (CLM (TM g0) (nM g0) (6, [], 0, 0, pI g214821 9) g_ 8)) ?_ (400 - v214874.toInt) ⟨v214874, by first | rfl | omega, hI214867, hF214871, hv214874, rfl, by omega, (Fr.tr (Fr.wI (p := 231) (b := 20) (Fr.wI (p := 231) (b := 17) (Fr.wI (p := 231) (b := 15) (Fr.tr (Fr.wI (p := 231) (b := 13) (Fr.wI (p := 231) (b := 14) (Fr.wI (p := 231) (b := 10) (Fr.wI (p := 231) (b := 0) Fr.rf rfl) rfl) rfl) rfl) hF214823 rfl rfl) rfl) rfl) rfl) hF214868 rfl rfl), by omega, by omega, by omega, by omega, c214890, c214892, hK214894, (CPM.at_ c214893.2 (((gA_sI).trans ((gA_sI).trans ((gA_sI).trans ((hF214823.2.1 236 ma_X11_next_231_236).trans ((gA_sI).trans ((gA_sI).trans ((gA_sI).trans (gA_sI))))))))) (((gI_sI_ne (by decide)).trans ((gI_sI_ne (by decide)).trans ((gI_sI_ne (by decide)).trans ((hF214823.1 231 8 mf_X11_next_231_231_8).trans ((gI_sI_ne (by decide)).trans ((gI_sI_ne (by decide)).trans ((gI_sI_ne (by decide)).trans (gI_sI_ne (by decide)))))))))) (CLM.start (show (gI _ 231 14).toInt = 0 from by omega) (show (gI _ 231 13).toInt = -1 from by omega) (show (gI _ 231 20).toInt = 0 from by omega) (show (gI _ 231 15).toInt = 0 from by omega) (pI.c (((gI_sI_ne (by decide)).trans ((gI_sI_ne (by decide)).trans (gI_sI_ne (by decide))))))))⟩
    rintro n268542 l268541 g268538 ⟨x268537, hm268563, hI268539, hF268540, e268544, e268545, r268546, q268547, q268548, q268549, q268550, q268551, q268552, q268553, q268554, q268555⟩ ih268543
    have tv268564 := congrArg Int32.toInt e268544
    have x268565 := HI.eqI hI268539 (p := 231) (b := 8) (((q268547.1 231 8 (by decide)).trans hv1))
    have x268566 := HI.eqI hI268539 (p := 231) (b := 9) (e268544)
    obtain ⟨v268567, hv268567⟩ : ∃ v, gI g268538 231 10 = v := ⟨_, rfl⟩
    have rv268567 := RgF.at hI268539.2.1 (p := 231) (b := 10) rfl
    rw [hv268567] at rv268567
    dsimp only at rv268567
    have tv268567 := congrArg Int32.toInt hv268567
    obtain ⟨v268569, hv268569⟩ : ∃ v, gI g268538 231 11 = v := ⟨_, rfl⟩
    have tv268569 := congrArg Int32.toInt hv268569
    obtain ⟨v268571, hv268571⟩ : ∃ v, gI g268538 231 14 = v := ⟨_, rfl⟩
    have tv268571 := congrArg Int32.toInt hv268571
    obtain ⟨v268573, hv268573⟩ : ∃ v, gI g268538 231 15 = v := ⟨_, rfl⟩
    have rv268573 := RgF.at hI268539.2.1 (p := 231) (b := 15) rfl
    rw [hv268573] at rv268573
    dsimp only at rv268573
    have tv268573 := congrArg Int32.toInt hv268573
    obtain ⟨v268575, hv268575⟩ : ∃ v, gI g268538 231 17 = v := ⟨_, rfl⟩
    have rv268575 := RgF.at hI268539.2.1 (p := 231) (b := 17) rfl
    rw [hv268575] at rv268575
    dsimp only at rv268575
    have tv268575 := congrArg Int32.toInt hv268575
    refine At.enter rfl ?_
    refine r_aload_n e268545 ?_
    refine q_getI (Sh.int hI268539.1 kx_231 rfl) v268571 hv268571 ?_
    refine r_ifs 58 rfl (fun c268577 => ?_) (fun c268577 => ?_)
    · have c268577_ : v268571.toInt ≠ 0 := en_k_ne_t c268577
      refine At.enter rfl ?_
      refine r_aload_n e268545 ?_
      refine q_getI (Sh.int hI268539.1 kx_231 rfl) v268571 hv268571 ?_
      refine r_ifs 85 rfl (fun c268578 => ?_) (fun c268578 => ?_)
      · have c268578_ : v268571.toInt ≠ 0 := en_k_ne_t c268578
        refine At.enter rfl ?_
        refine r_aload_n e268545 ?_
        refine r_iconst 0 rfl ?_
        refine q_putI (Sh.int hI268539.1 kx_231 rfl) rfl ?_
        have hI268579 := HI.wI1 hI268539 kx_231 rfl (p := 231) (b := 8) (v := 0) rfl (by decide)
        have hF268580 := Fr.wI (p := 231) (b := 8) (v := 0) hF268540 rfl
        refine r_aload_n e268545 ?_
        refine q_getI (Sh.int hI268579.1 kx_231 rfl) v268571 ((gI_sI_ne (by decide)).trans hv268571) ?_
        refine r_ifs 109 rfl (fun c268581 => ?_) (fun c268581 => ?_)
        · have c268581_ : v268571.toInt = 0 := en_k_eq_t c268581
          refine At.enter rfl ?_
          refine r_bipush 110 rfl ?_
          refine r_sipush 900 rfl ?_
          refine r_aload_n e268545 ?_
          refine q_getR (Sh.ref hI268579.1 kx_231 rfl) ?_
          refine r_iconst 2 rfl ?_
          refine q_iald (Sh.arr hI268579.1 ka_233) 2 rfl (by decide) v214810 ((eA_c ((gA_sI).trans (q268547.2.1 233 (by decide)))).trans hv214810) ?_
          refine q_imul (900 * v214810.toInt) rfl (by omega) (fun v268582 hv268582 => ?_)
          refine q_iadd (110 + v268582.toInt) rfl (by omega) (fun v268583 hv268583 => ?_)
          refine r_istore_n _ rfl ?_
          refine r_aload_n (w_p1 (by decide) (Or.inr rfl) e268545) ?_
          refine q_getR (Sh.ref hI268579.1 kx_231 rfl) ?_
          refine r_iload_n (w_e1 _ _ _) ?_
          refine r_iconst 1 rfl ?_
          refine q_iadd (v268583.toInt + 1) rfl (by omega) (fun v268584 hv268584 => ?_)
          refine r_aload_n (w_p1 (by decide) (Or.inr rfl) e268545) ?_
          refine q_getI (Sh.int hI268579.1 kx_231 rfl) v268573 ((gI_sI_ne (by decide)).trans hv268573) ?_
          refine q_iast (Sh.arr hI268579.1 ka_233) ((900 * v214810.toInt + 111)) (by omega) (by omega) ?_
          have x268587 := HI.eqA hI268579 (p := 233) (j := 2) ((((eA_c gA_sI).trans (eA_c (q268547.2.1 233 (by decide)))).trans hv214810))
          have hI268585 := HI.wfree hI268579 (j := (900 * v214810.toInt + 111)) (v := v268573) ⟨by omega, by omega⟩
          have hF268586 := Fr.wA (p := 233) (j := (900 * v214810.toInt + 111)) (v := v268573) hF268580 rfl
          refine r_iconst 0 rfl ?_
          refine r_istore_n _ rfl ?_
          refine Ar.fall 144 rfl ?_
          refine w_loopI (fun n_ l_ g_ => ∃ x278578 : Int32, n_ = 96 - x278578.toInt ∧ HI g_ ∧ Fr F_X11_law_231 A_X11_law_231 g0 g_ ∧ gI g_ 231 8 = 0 ∧ en_get 0 l_ = some (.ref 231) ∧ en_get 1 l_ = some (.int v268583) ∧ en_get 2 l_ = some (.int x278578) ∧ (0 ≤ x278578.toInt ∧ x278578.toInt ≤ 96) ∧ (Fr [(231, 8)] [233] g268538 g_) ∧ ((eA g_ 233 (v268583.toInt + 1)).toInt = (gI g268538 231 15).toInt) ∧ (∀ i : Int, 0 ≤ i → i < x278578.toInt → (eA g_ 233 (v268583.toInt + 2 + i)).toInt = (eA g268538 237 i).toInt) ∧ (∀ i : Int, 0 ≤ i → i < 110 → eA g_ 233 i = eA g268538 233 i)) ?_ (96 - 0) ⟨0, by first | rfl | omega, hI268585, hF268586, ((gI_sW).trans (gI_sI_eq hI268539.1 kx_231 rfl _)), (w_p1 (by decide) (Or.inr rfl) (w_p1 (by decide) (Or.inr rfl) e268545)), (w_p1 (by decide) (Or.inr rfl) (w_e1 _ _ _)), (w_e1 _ _ _), by decide, (Fr.wA (p := 233) (Fr.wI (p := 231) (b := 8) Fr.rf rfl) rfl), ((congrArg Int32.toInt (eA_sA_eq hI268579.1 ka_233 (by omega) (by omega) (by omega))).trans (by omega)), (fun i i0 i1 => absurd i1 (by omega)), (fun i i0 i1 => ((eA_sA_ne (i := i) hI268579.1 ka_233 (by omega) (by omega) (by omega)).trans (eA_c gA_sI)))⟩
          rintro n278583 l278582 g278579 ⟨x278578, hm278597, hI278580, hF278581, e278585, e278586, e278587, e278588, r278589, q278590, q278591, q278592, q278593⟩ ih278584
          have tv278598 := congrArg Int32.toInt e278585
          have t278601 := congrArg Int32.toInt ((q278593 2 (by decide) (by decide)).trans ((eA_c (q268547.2.1 233 (by decide))).trans hv214810))
          refine At.enter rfl ?_
          refine r_iload_n e278588 ?_
          refine r_bipush 8 rfl ?_
          refine r_aload_n e278586 ?_
          refine q_getI (Sh.int hI278580.1 kx_231 rfl) v268573 ((q278590.1 231 15 (by decide)).trans hv268573) ?_
          refine q_imul (8 * v268573.toInt) rfl (by omega) (fun v278602 hv278602 => ?_)
          have bv278604 := q_bnd x278578
          have bv278605 := q_bnd v278602
          refine r_ics 155 rfl (fun c278603 => ?_) (fun c278603 => ?_)
          · have c278603_ : x278578.toInt ≥ v278602.toInt := en_i_ge_t c278603
            refine At.enter rfl ?_
            refine r_iconst 0 rfl ?_
            refine r_istore_n _ rfl ?_
            refine Ar.fall 179 rfl ?_
            refine w_loopI (fun n_ l_ g_ => ∃ x279201 : Int32, n_ = 400 - x279201.toInt ∧ HI g_ ∧ Fr F_X11_law_231 A_X11_law_231 g0 g_ ∧ gI g_ 231 8 = 0 ∧ en_get 0 l_ = some (.ref 231) ∧ en_get 1 l_ = some (.int v268583) ∧ en_get 2 l_ = some (.int x279201) ∧ (0 ≤ x279201.toInt ∧ x279201.toInt ≤ 400) ∧ (Fr [(231, 8)] [233] g268538 g_) ∧ ((eA g_ 233 (v268583.toInt + 1)).toInt = (gI g268538 231 15).toInt) ∧ (∀ i : Int, 0 ≤ i → i < 8 * (gI g268538 231 15).toInt → (eA g_ 233 (v268583.toInt + 2 + i)).toInt = (eA g268538 237 i).toInt) ∧ (∀ i : Int, 0 ≤ i → i < 110 → eA g_ 233 i = eA g268538 233 i) ∧ (∀ i : Int, 0 ≤ i → i < x279201.toInt → (eA g_ 233 (v268583.toInt + 98 + 2 * i)).toInt = (eA g268538 238 i).toInt ∧ (eA g_ 233 (v268583.toInt + 98 + 2 * i + 1)).toInt = (eA g268538 239 i).toInt)) ?_ (400 - 0) ⟨0, by first | rfl | omega, hI278580, hF278581, e278585, (w_p1 (by decide) (Or.inr rfl) e278586), (w_p1 (by decide) (Or.inr rfl) e278587), (w_e1 _ _ _), by decide, (Fr.tr Fr.rf q278590 rfl rfl), ((congrArg Int32.toInt (rfl)).trans q278591), (fun i i0 i1 => q278592 i i0 (by omega)), (fun i i0 i1 => (rfl).trans (q278593 i i0 i1)), (fun i i0 i1 => absurd i1 (by omega))⟩
            rintro n279206 l279205 g279202 ⟨x279201, hm279221, hI279203, hF279204, e279208, e279209, e279210, e279211, r279212, q279213, q279214, q279215, q279216, q279217⟩ ih279207
            have tv279222 := congrArg Int32.toInt e279208
            have t279225 := congrArg Int32.toInt ((q279216 2 (by decide) (by decide)).trans ((eA_c (q268547.2.1 233 (by decide))).trans hv214810))
            refine At.enter rfl ?_
            refine r_iload_n e279211 ?_
            refine r_aload_n e279209 ?_
            refine q_getI (Sh.int hI279203.1 kx_231 rfl) v268575 ((q279213.1 231 17 (by decide)).trans hv268575) ?_
            have bv279227 := q_bnd x279201
            have bv279228 := q_bnd v268575
            refine r_ics 187 rfl (fun c279226 => ?_) (fun c279226 => ?_)
            · have c279226_ : x279201.toInt ≥ v268575.toInt := en_i_ge_t c279226
              refine At.enter rfl ?_
              refine r_aload_n e279209 ?_
              refine q_getR (Sh.ref hI279203.1 kx_231 rfl) ?_
              refine r_iconst 2 rfl ?_
              refine r_dup2 ⟨rfl, rfl⟩ ?_
              refine q_iald (Sh.arr hI279203.1 ka_233) 2 rfl (by decide) v214810 ((q279216 2 (by decide) (by decide)).trans ((eA_c (q268547.2.1 233 (by decide))).trans hv214810)) ?_
              refine r_iconst 1 rfl ?_
              refine q_iadd (v214810.toInt + 1) rfl (by omega) (fun v279229 hv279229 => ?_)
              refine q_iast (Sh.arr hI279203.1 ka_233) (2) rfl (by decide) ?_
              have x279232 := HI.eqA hI279203 (p := 233) (j := 2) (((q279216 2 (by decide) (by decide)).trans ((eA_c (q268547.2.1 233 (by decide))).trans hv214810)))
              have hI279230 := HI.wt2 hI279203 (v := v279229) (by omega) (by omega) (by rw [show 110 + 900 * (eA _ 233 2).toInt = v268583.toInt by omega]; exact LAW.mk (q268553 (by omega)).2 ⟨by omega, by omega⟩ (by omega) q279214 q279215 (fun i i0 i1 => q279217 i i0 (by omega)))
              have hF279231 := Fr.wA (p := 233) (j := 2) (v := v279229) hF279204 rfl
              refine r_aload_n e279209 ?_
              refine r_aload_n e279209 ?_
              refine q_getR (Sh.ref hI279230.1 kx_231 rfl) ?_
              refine r_iconst 2 rfl ?_
              refine q_iald (Sh.arr hI279230.1 ka_233) 2 rfl (by decide) v279229 (eA_sA_eq hI279203.1 ka_233 (by first | rfl | omega) (by first | decide | omega) (by first | decide | omega)) ?_
              refine r_iconst 1 rfl ?_
              refine q_isub (v279229.toInt - 1) rfl (by omega) (fun v279233 hv279233 => ?_)
              refine r_callV 255 rfl [.ref 231, .int v279233] [] (Nat.le_of_ble_eq_true rfl) rfl (T_X11_tell_231 _ hI279230 v279233 (by omega)) ?_
              rintro _ _ ⟨g279234, rfl, hI279235, hF279236, v279237, rfl, hr279238⟩
              refine At.sti ?_
              have hF279239 := Fr.tr hF279231 hF279236 rfl rfl
              refine At.enter rfl ?_
              refine r_ireti ?_
              have x279240 := HI.eqI hI279235 (p := 231) (b := 8) ((((hF279236.1 231 8 mf_X11_tell_231_231_8).trans (gI_sW)).trans e279208))
              have x279242 := HI.eqA hI0 (p := 233) (j := 2) (hv214810)
              have x279243 := HI.eqA hI279235 (p := 233) (j := 2) (((eA_c (hF279236.2.1 233 ma_X11_tell_231_233)).trans (eA_sA_eq hI279203.1 ka_233 (by first | rfl | omega) (by first | decide | omega) (by first | decide | omega))))
              obtain ⟨v279246, hv279246⟩ : ∃ v, gI g268538 231 13 = v := ⟨_, rfl⟩
              have tv279246 := congrArg Int32.toInt hv279246
              have x279249 := HI.eqI hI279235 (p := 231) (b := 13) ((((hF279236.1 231 13 mf_X11_tell_231_231_13).trans ((gI_sW).trans (q279213.1 231 13 (by decide)))).trans hv279246))
              have ce := CDM.end_ q268554
              have y279250 : pI g268538 11 = (gI g268538 231 11).toInt := rfl
              exact ⟨_, rfl, hI279235, hF279239, _, rfl, by omega, ⟨(fun i i0 i1 i2 => ((eA_c (hF279236.2.1 233 ma_X11_tell_231_233)).trans ((eA_sA_ne (i := i) hI279203.1 ka_233 (by omega) (by omega) (by omega)).trans ((q279216 i i0 i1).trans (eA_c ((q268547.2.1 233 (by decide)))))))), by omega, Or.inr ⟨show (eA g0 233 2).toInt ≠ 6 from by omega, ⟨_, hskp0, Or.inl ⟨by omega, CLM.fin q268555 (show (gI g268538 231 14).toInt = 0 from by omega) (TKM.someC q268554 ((q268547.2.1 236 (by decide))) ((q268547.1 231 8 (by decide)))).choose_spec (by omega) (show (gI _ 231 13).toInt = (gI g268538 231 13).toInt from (by first | exact x279249.trans tv279246.symm | omega))⟩⟩, Or.inr ⟨show _ = (eA g0 233 2).toInt from by omega, by omega, show (eA _ 233 2).toInt = (eA g0 233 2).toInt + 1 from by omega⟩⟩⟩⟩
            · have c279226_ : x279201.toInt < v268575.toInt := en_i_ge_f c279226
              refine At.enter rfl ?_
              refine r_aload_n e279209 ?_
              refine q_getR (Sh.ref hI279203.1 kx_231 rfl) ?_
              refine r_iload_n e279210 ?_
              refine r_bipush 98 rfl ?_
              refine q_iadd (v268583.toInt + 98) rfl (by omega) (fun v279251 hv279251 => ?_)
              refine r_iconst 2 rfl ?_
              refine r_iload_n e279211 ?_
              refine q_imul (2 * x279201.toInt) rfl (by omega) (fun v279252 hv279252 => ?_)
              refine q_iadd (v279251.toInt + v279252.toInt) rfl (by omega) (fun v279253 hv279253 => ?_)
              refine r_aload_n e279209 ?_
              refine q_getR (Sh.ref hI279203.1 kx_231 rfl) ?_
              refine r_iload_n e279211 ?_
              obtain ⟨v279254, hv279254⟩ : ∃ v, eA g268538 238 x279201.toInt = v := ⟨_, rfl⟩
              refine q_iald (Sh.arr hI279203.1 ka_238) x279201.toInt rfl (by omega) v279254 ((eA_c (q279213.2.1 238 (by decide))).trans hv279254) ?_
              refine q_iast (Sh.arr hI279203.1 ka_233) ((900 * v214810.toInt + 2 * x279201.toInt + 208)) (by omega) (by omega) ?_
              have x279257 := HI.eqA hI279203 (p := 233) (j := 2) (((q279216 2 (by decide) (by decide)).trans ((eA_c (q268547.2.1 233 (by decide))).trans hv214810)))
              have hI279255 := HI.wfree hI279203 (j := (900 * v214810.toInt + 2 * x279201.toInt + 208)) (v := v279254) ⟨by omega, by omega⟩
              have hF279256 := Fr.wA (p := 233) (j := (900 * v214810.toInt + 2 * x279201.toInt + 208)) (v := v279254) hF279204 rfl
              refine r_aload_n e279209 ?_
              refine q_getR (Sh.ref hI279255.1 kx_231 rfl) ?_
              refine r_iload_n e279210 ?_
              refine r_bipush 98 rfl ?_
              refine q_iadd (v268583.toInt + 98) rfl (by omega) (fun v279258 hv279258 => ?_)
              refine r_iconst 2 rfl ?_
              refine r_iload_n e279211 ?_
              refine q_imul (2 * x279201.toInt) rfl (by omega) (fun v279259 hv279259 => ?_)
              refine q_iadd (v279258.toInt + v279259.toInt) rfl (by omega) (fun v279260 hv279260 => ?_)
              refine r_iconst 1 rfl ?_
              refine q_iadd (v279260.toInt + 1) rfl (by omega) (fun v279261 hv279261 => ?_)
              refine r_aload_n e279209 ?_
              refine q_getR (Sh.ref hI279255.1 kx_231 rfl) ?_
              refine r_iload_n e279211 ?_
              obtain ⟨v279262, hv279262⟩ : ∃ v, eA g268538 239 x279201.toInt = v := ⟨_, rfl⟩
              refine q_iald (Sh.arr hI279255.1 ka_239) x279201.toInt rfl (by omega) v279262 ((eA_c ((gA_sA_ne (by decide)).trans (q279213.2.1 239 (by decide)))).trans hv279262) ?_
              refine q_iast (Sh.arr hI279255.1 ka_233) ((900 * v214810.toInt + 2 * x279201.toInt + 209)) (by omega) (by omega) ?_
              have x279265 := HI.eqA hI279255 (p := 233) (j := 2) (((eA_sA_ne hI279203.1 ka_233 (by first | decide | omega) (by first | decide | omega) (by first | decide | omega)).trans ((q279216 2 (by decide) (by decide)).trans ((eA_c (q268547.2.1 233 (by decide))).trans hv214810))))
              have hI279263 := HI.wfree hI279255 (j := (900 * v214810.toInt + 2 * x279201.toInt + 209)) (v := v279262) ⟨by omega, by omega⟩
              have hF279264 := Fr.wA (p := 233) (j := (900 * v214810.toInt + 2 * x279201.toInt + 209)) (v := v279262) hF279256 rfl
              refine q_iinc e279211 (x279201.toInt + 1) rfl (by omega) (fun v279266 hv279266 => ?_)
              refine r_goto ?_
              exact ih279207 (400 - v279266.toInt) _ _ ⟨v279266, by first | rfl | omega, hI279263, hF279264, (((gI_sW).trans (gI_sW)).trans e279208), (w_p1 (by decide) (Or.inr rfl) e279209), (w_p1 (by decide) (Or.inr rfl) e279210), (w_e1 _ _ _), by omega, (Fr.wA (p := 233) (Fr.wA (p := 233) q279213 rfl) rfl), ((congrArg Int32.toInt (((eA_sA_ne (i := v268583.toInt + 1) hI279255.1 ka_233 (by omega) (by omega) (by omega)).trans (eA_sA_ne (i := v268583.toInt + 1) hI279203.1 ka_233 (by omega) (by omega) (by omega))))).trans q279214), (fun i i0 i1 => (congrArg Int32.toInt (((eA_sA_ne (i := v268583.toInt + 2 + i) hI279255.1 ka_233 (by omega) (by omega) (by omega)).trans (eA_sA_ne (i := v268583.toInt + 2 + i) hI279203.1 ka_233 (by omega) (by omega) (by omega))))).trans (q279215 i i0 i1)), (fun i i0 i1 => (((eA_sA_ne (i := i) hI279255.1 ka_233 (by omega) (by omega) (by omega)).trans (eA_sA_ne (i := i) hI279203.1 ka_233 (by omega) (by omega) (by omega)))).trans (q279216 i i0 i1)), (fun i i0 i1 => (Decidable.em (i = x279201.toInt)).elim (fun e => by rw [e]; exact ⟨((congrArg Int32.toInt ((eA_sA_ne (i := v268583.toInt + 98 + 2 * x279201.toInt) hI279255.1 ka_233 (by omega) (by omega) (by omega)).trans (eA_sA_eq hI279203.1 ka_233 (by omega) (by omega) (by omega)))).trans (congrArg Int32.toInt hv279254).symm), ((congrArg Int32.toInt (eA_sA_eq hI279255.1 ka_233 (by omega) (by omega) (by omega))).trans (congrArg Int32.toInt hv279262).symm)⟩) (fun e => ⟨(congrArg Int32.toInt (((eA_sA_ne (i := v268583.toInt + 98 + 2 * i) hI279255.1 ka_233 (by omega) (by omega) (by omega)).trans (eA_sA_ne (i := v268583.toInt + 98 + 2 * i) hI279203.1 ka_233 (by omega) (by omega) (by omega))))).trans (q279217 i i0 (by omega)).1, (congrArg Int32.toInt (((eA_sA_ne (i := v268583.toInt + 98 + 2 * i + 1) hI279255.1 ka_233 (by omega) (by omega) (by omega)).trans (eA_sA_ne (i := v268583.toInt + 98 + 2 * i + 1) hI279203.1 ka_233 (by omega) (by omega) (by omega))))).trans (q279217 i i0 (by omega)).2⟩))⟩ ⟨by omega, by omega⟩
          · have c278603_ : x278578.toInt < v278602.toInt := en_i_ge_f c278603
            refine At.enter rfl ?_
            refine r_aload_n e278586 ?_
            refine q_getR (Sh.ref hI278580.1 kx_231 rfl) ?_
            refine r_iload_n e278587 ?_
            refine r_iconst 2 rfl ?_
            refine q_iadd (v268583.toInt + 2) rfl (by omega) (fun v279267 hv279267 => ?_)
            refine r_iload_n e278588 ?_
            refine q_iadd (v279267.toInt + x278578.toInt) rfl (by omega) (fun v279268 hv279268 => ?_)
            refine r_aload_n e278586 ?_
            refine q_getR (Sh.ref hI278580.1 kx_231 rfl) ?_
            refine r_iload_n e278588 ?_
            obtain ⟨v279269, hv279269⟩ : ∃ v, eA g268538 237 x278578.toInt = v := ⟨_, rfl⟩
            refine q_iald (Sh.arr hI278580.1 ka_237) x278578.toInt rfl (by omega) v279269 ((eA_c (q278590.2.1 237 (by decide))).trans hv279269) ?_
            refine q_iast (Sh.arr hI278580.1 ka_233) ((900 * v214810.toInt + x278578.toInt + 112)) (by omega) (by omega) ?_
            have x279272 := HI.eqA hI278580 (p := 233) (j := 2) (((q278593 2 (by decide) (by decide)).trans ((eA_c (q268547.2.1 233 (by decide))).trans hv214810)))
            have hI279270 := HI.wfree hI278580 (j := (900 * v214810.toInt + x278578.toInt + 112)) (v := v279269) ⟨by omega, by omega⟩
            have hF279271 := Fr.wA (p := 233) (j := (900 * v214810.toInt + x278578.toInt + 112)) (v := v279269) hF278581 rfl
            refine q_iinc e278588 (x278578.toInt + 1) rfl (by omega) (fun v279273 hv279273 => ?_)
            refine r_goto ?_
            exact ih278584 (96 - v279273.toInt) _ _ ⟨v279273, by first | rfl | omega, hI279270, hF279271, ((gI_sW).trans e278585), (w_p1 (by decide) (Or.inr rfl) e278586), (w_p1 (by decide) (Or.inr rfl) e278587), (w_e1 _ _ _), by omega, (Fr.wA (p := 233) q278590 rfl), ((congrArg Int32.toInt ((eA_sA_ne (i := v268583.toInt + 1) hI278580.1 ka_233 (by omega) (by omega) (by omega)))).trans q278591), (fun i i0 i1 => (Decidable.em (i = x278578.toInt)).elim (fun e => by rw [e]; exact (congrArg Int32.toInt (eA_sA_eq hI278580.1 ka_233 (by omega) (by omega) (by omega))).trans (congrArg Int32.toInt hv279269).symm) (fun e => (congrArg Int32.toInt ((eA_sA_ne (i := v268583.toInt + 2 + i) hI278580.1 ka_233 (by omega) (by omega) (by omega)))).trans (q278592 i i0 (by omega)))), (fun i i0 i1 => ((eA_sA_ne (i := i) hI278580.1 ka_233 (by omega) (by omega) (by omega))).trans (q278593 i i0 i1))⟩ ⟨by omega, by omega⟩
        · have c268581_ : v268571.toInt ≠ 0 := en_k_eq_f c268581
          refine At.enter rfl ?_
          refine r_aload_n e268545 ?_
          refine r_bipush (-6) rfl ?_
          refine r_callV 115 rfl [.ref 231, .int (-6)] [] (Nat.le_of_ble_eq_true rfl) rfl (T_X11_tell_231 _ hI268579 (-6) (by decide)) ?_
          rintro _ _ ⟨g279274, rfl, hI279275, hF279276, v279277, rfl, hr279278⟩
          refine At.sti ?_
          have hF279279 := Fr.tr hF268580 hF279276 rfl rfl
          have zv279280 : ((-6) : Int32).toInt = (-6) := rfl
          refine At.enter rfl ?_
          refine r_ireti ?_
          have x279281 := HI.eqI hI279275 (p := 231) (b := 8) (((hF279276.1 231 8 mf_X11_tell_231_231_8).trans (gI_sI_eq hI268539.1 kx_231 rfl _)))
          have x279283 := HI.eqA hI0 (p := 233) (j := 2) (hv214810)
          have x279284 := HI.eqA hI279275 (p := 233) (j := 2) ((((eA_c (hF279276.2.1 233 ma_X11_tell_231_233)).trans ((eA_c gA_sI).trans (eA_c (q268547.2.1 233 (by decide))))).trans hv214810))
          obtain ⟨v279287, hv279287⟩ : ∃ v, gI g268538 231 13 = v := ⟨_, rfl⟩
          have tv279287 := congrArg Int32.toInt hv279287
          have x279290 := HI.eqI hI279275 (p := 231) (b := 13) ((((hF279276.1 231 13 mf_X11_tell_231_231_13).trans (gI_sI_ne (by decide))).trans hv279287))
          have ce := CDM.end_ q268554
          have y279291 : pI g268538 11 = (gI g268538 231 11).toInt := rfl
          exact ⟨_, rfl, hI279275, hF279279, _, rfl, by omega, ⟨(fun i i0 i1 i2 => eA_c (((hF279276.2.1 233 ma_X11_tell_231_233).trans ((gA_sI).trans (q268547.2.1 233 (by decide)))))), by omega, Or.inr ⟨show (eA g0 233 2).toInt ≠ 6 from by omega, ⟨_, hskp0, Or.inr ⟨by omega, CLM.badr q268555 (show (gI g268538 231 14).toInt ≠ 0 from by omega) (show (gI _ 231 13).toInt = (gI g268538 231 13).toInt from (by first | exact x279290.trans tv279287.symm | omega))⟩⟩, Or.inl ⟨by omega, (show (eA _ 233 2).toInt = (eA g0 233 2).toInt from by omega)⟩⟩⟩⟩
      · have c268578_ : v268571.toInt = 0 := en_k_ne_f c268578
        refine At.enter rfl ?_
        refine r_aload_n e268545 ?_
        refine q_getI (Sh.int hI268539.1 kx_231 rfl) v268569 hv268569 ?_
        refine r_ifs 92 rfl (fun c279292 => ?_) (fun c279292 => ?_)
        · have c279292_ : v268569.toInt = 0 := en_k_eq_t c279292
          refine At.enter rfl ?_
          refine r_aload_n e268545 ?_
          refine r_iconst 0 rfl ?_
          refine q_putI (Sh.int hI268539.1 kx_231 rfl) rfl ?_
          have hI279293 := HI.wI1 hI268539 kx_231 rfl (p := 231) (b := 8) (v := 0) rfl (by decide)
          have hF279294 := Fr.wI (p := 231) (b := 8) (v := 0) hF268540 rfl
          refine r_aload_n e268545 ?_
          refine q_getI (Sh.int hI279293.1 kx_231 rfl) v268571 ((gI_sI_ne (by decide)).trans hv268571) ?_
          refine r_ifs 109 rfl (fun c279295 => ?_) (fun c279295 => ?_)
          · have c279295_ : v268571.toInt = 0 := en_k_eq_t c279295
            refine At.enter rfl ?_
            refine r_bipush 110 rfl ?_
            refine r_sipush 900 rfl ?_
            refine r_aload_n e268545 ?_
            refine q_getR (Sh.ref hI279293.1 kx_231 rfl) ?_
            refine r_iconst 2 rfl ?_
            refine q_iald (Sh.arr hI279293.1 ka_233) 2 rfl (by decide) v214810 ((eA_c ((gA_sI).trans (q268547.2.1 233 (by decide)))).trans hv214810) ?_
            refine q_imul (900 * v214810.toInt) rfl (by omega) (fun v279296 hv279296 => ?_)
            refine q_iadd (110 + v279296.toInt) rfl (by omega) (fun v279297 hv279297 => ?_)
            refine r_istore_n _ rfl ?_
            refine r_aload_n (w_p1 (by decide) (Or.inr rfl) e268545) ?_
            refine q_getR (Sh.ref hI279293.1 kx_231 rfl) ?_
            refine r_iload_n (w_e1 _ _ _) ?_
            refine r_iconst 1 rfl ?_
            refine q_iadd (v279297.toInt + 1) rfl (by omega) (fun v279298 hv279298 => ?_)
            refine r_aload_n (w_p1 (by decide) (Or.inr rfl) e268545) ?_
            refine q_getI (Sh.int hI279293.1 kx_231 rfl) v268573 ((gI_sI_ne (by decide)).trans hv268573) ?_
            refine q_iast (Sh.arr hI279293.1 ka_233) ((900 * v214810.toInt + 111)) (by omega) (by omega) ?_
            have x279301 := HI.eqA hI279293 (p := 233) (j := 2) ((((eA_c gA_sI).trans (eA_c (q268547.2.1 233 (by decide)))).trans hv214810))
            have hI279299 := HI.wfree hI279293 (j := (900 * v214810.toInt + 111)) (v := v268573) ⟨by omega, by omega⟩
            have hF279300 := Fr.wA (p := 233) (j := (900 * v214810.toInt + 111)) (v := v268573) hF279294 rfl
            refine r_iconst 0 rfl ?_
            refine r_istore_n _ rfl ?_
            refine Ar.fall 144 rfl ?_
            refine w_loopI (fun n_ l_ g_ => ∃ x289292 : Int32, n_ = 96 - x289292.toInt ∧ HI g_ ∧ Fr F_X11_law_231 A_X11_law_231 g0 g_ ∧ gI g_ 231 8 = 0 ∧ en_get 0 l_ = some (.ref 231) ∧ en_get 1 l_ = some (.int v279297) ∧ en_get 2 l_ = some (.int x289292) ∧ (0 ≤ x289292.toInt ∧ x289292.toInt ≤ 96) ∧ (Fr [(231, 8)] [233] g268538 g_) ∧ ((eA g_ 233 (v279297.toInt + 1)).toInt = (gI g268538 231 15).toInt) ∧ (∀ i : Int, 0 ≤ i → i < x289292.toInt → (eA g_ 233 (v279297.toInt + 2 + i)).toInt = (eA g268538 237 i).toInt) ∧ (∀ i : Int, 0 ≤ i → i < 110 → eA g_ 233 i = eA g268538 233 i)) ?_ (96 - 0) ⟨0, by first | rfl | omega, hI279299, hF279300, ((gI_sW).trans (gI_sI_eq hI268539.1 kx_231 rfl _)), (w_p1 (by decide) (Or.inr rfl) (w_p1 (by decide) (Or.inr rfl) e268545)), (w_p1 (by decide) (Or.inr rfl) (w_e1 _ _ _)), (w_e1 _ _ _), by decide, (Fr.wA (p := 233) (Fr.wI (p := 231) (b := 8) Fr.rf rfl) rfl), ((congrArg Int32.toInt (eA_sA_eq hI279293.1 ka_233 (by omega) (by omega) (by omega))).trans (by omega)), (fun i i0 i1 => absurd i1 (by omega)), (fun i i0 i1 => ((eA_sA_ne (i := i) hI279293.1 ka_233 (by omega) (by omega) (by omega)).trans (eA_c gA_sI)))⟩
            rintro n289297 l289296 g289293 ⟨x289292, hm289311, hI289294, hF289295, e289299, e289300, e289301, e289302, r289303, q289304, q289305, q289306, q289307⟩ ih289298
            have tv289312 := congrArg Int32.toInt e289299
            have t289315 := congrArg Int32.toInt ((q289307 2 (by decide) (by decide)).trans ((eA_c (q268547.2.1 233 (by decide))).trans hv214810))
            refine At.enter rfl ?_
            refine r_iload_n e289302 ?_
            refine r_bipush 8 rfl ?_
            refine r_aload_n e289300 ?_
            refine q_getI (Sh.int hI289294.1 kx_231 rfl) v268573 ((q289304.1 231 15 (by decide)).trans hv268573) ?_
            refine q_imul (8 * v268573.toInt) rfl (by omega) (fun v289316 hv289316 => ?_)
            have bv289318 := q_bnd x289292
            have bv289319 := q_bnd v289316
            refine r_ics 155 rfl (fun c289317 => ?_) (fun c289317 => ?_)
            · have c289317_ : x289292.toInt ≥ v289316.toInt := en_i_ge_t c289317
              refine At.enter rfl ?_
              refine r_iconst 0 rfl ?_
              refine r_istore_n _ rfl ?_
              refine Ar.fall 179 rfl ?_
              refine w_loopI (fun n_ l_ g_ => ∃ x289915 : Int32, n_ = 400 - x289915.toInt ∧ HI g_ ∧ Fr F_X11_law_231 A_X11_law_231 g0 g_ ∧ gI g_ 231 8 = 0 ∧ en_get 0 l_ = some (.ref 231) ∧ en_get 1 l_ = some (.int v279297) ∧ en_get 2 l_ = some (.int x289915) ∧ (0 ≤ x289915.toInt ∧ x289915.toInt ≤ 400) ∧ (Fr [(231, 8)] [233] g268538 g_) ∧ ((eA g_ 233 (v279297.toInt + 1)).toInt = (gI g268538 231 15).toInt) ∧ (∀ i : Int, 0 ≤ i → i < 8 * (gI g268538 231 15).toInt → (eA g_ 233 (v279297.toInt + 2 + i)).toInt = (eA g268538 237 i).toInt) ∧ (∀ i : Int, 0 ≤ i → i < 110 → eA g_ 233 i = eA g268538 233 i) ∧ (∀ i : Int, 0 ≤ i → i < x289915.toInt → (eA g_ 233 (v279297.toInt + 98 + 2 * i)).toInt = (eA g268538 238 i).toInt ∧ (eA g_ 233 (v279297.toInt + 98 + 2 * i + 1)).toInt = (eA g268538 239 i).toInt)) ?_ (400 - 0) ⟨0, by first | rfl | omega, hI289294, hF289295, e289299, (w_p1 (by decide) (Or.inr rfl) e289300), (w_p1 (by decide) (Or.inr rfl) e289301), (w_e1 _ _ _), by decide, (Fr.tr Fr.rf q289304 rfl rfl), ((congrArg Int32.toInt (rfl)).trans q289305), (fun i i0 i1 => q289306 i i0 (by omega)), (fun i i0 i1 => (rfl).trans (q289307 i i0 i1)), (fun i i0 i1 => absurd i1 (by omega))⟩
              rintro n289920 l289919 g289916 ⟨x289915, hm289935, hI289917, hF289918, e289922, e289923, e289924, e289925, r289926, q289927, q289928, q289929, q289930, q289931⟩ ih289921
              have tv289936 := congrArg Int32.toInt e289922
              have t289939 := congrArg Int32.toInt ((q289930 2 (by decide) (by decide)).trans ((eA_c (q268547.2.1 233 (by decide))).trans hv214810))
              refine At.enter rfl ?_
              refine r_iload_n e289925 ?_
              refine r_aload_n e289923 ?_
              refine q_getI (Sh.int hI289917.1 kx_231 rfl) v268575 ((q289927.1 231 17 (by decide)).trans hv268575) ?_
              have bv289941 := q_bnd x289915
              have bv289942 := q_bnd v268575
              refine r_ics 187 rfl (fun c289940 => ?_) (fun c289940 => ?_)
              · have c289940_ : x289915.toInt ≥ v268575.toInt := en_i_ge_t c289940
                refine At.enter rfl ?_
                refine r_aload_n e289923 ?_
                refine q_getR (Sh.ref hI289917.1 kx_231 rfl) ?_
                refine r_iconst 2 rfl ?_
                refine r_dup2 ⟨rfl, rfl⟩ ?_
                refine q_iald (Sh.arr hI289917.1 ka_233) 2 rfl (by decide) v214810 ((q289930 2 (by decide) (by decide)).trans ((eA_c (q268547.2.1 233 (by decide))).trans hv214810)) ?_
                refine r_iconst 1 rfl ?_
                refine q_iadd (v214810.toInt + 1) rfl (by omega) (fun v289943 hv289943 => ?_)
                refine q_iast (Sh.arr hI289917.1 ka_233) (2) rfl (by decide) ?_
                have x289946 := HI.eqA hI289917 (p := 233) (j := 2) (((q289930 2 (by decide) (by decide)).trans ((eA_c (q268547.2.1 233 (by decide))).trans hv214810)))
                have hI289944 := HI.wt2 hI289917 (v := v289943) (by omega) (by omega) (by rw [show 110 + 900 * (eA _ 233 2).toInt = v279297.toInt by omega]; exact LAW.mk (q268553 (by omega)).2 ⟨by omega, by omega⟩ (by omega) q289928 q289929 (fun i i0 i1 => q289931 i i0 (by omega)))
                have hF289945 := Fr.wA (p := 233) (j := 2) (v := v289943) hF289918 rfl
                refine r_aload_n e289923 ?_
                refine r_aload_n e289923 ?_
                refine q_getR (Sh.ref hI289944.1 kx_231 rfl) ?_
                refine r_iconst 2 rfl ?_
                refine q_iald (Sh.arr hI289944.1 ka_233) 2 rfl (by decide) v289943 (eA_sA_eq hI289917.1 ka_233 (by first | rfl | omega) (by first | decide | omega) (by first | decide | omega)) ?_
                refine r_iconst 1 rfl ?_
                refine q_isub (v289943.toInt - 1) rfl (by omega) (fun v289947 hv289947 => ?_)
                refine r_callV 255 rfl [.ref 231, .int v289947] [] (Nat.le_of_ble_eq_true rfl) rfl (T_X11_tell_231 _ hI289944 v289947 (by omega)) ?_
                rintro _ _ ⟨g289948, rfl, hI289949, hF289950, v289951, rfl, hr289952⟩
                refine At.sti ?_
                have hF289953 := Fr.tr hF289945 hF289950 rfl rfl
                refine At.enter rfl ?_
                refine r_ireti ?_
                have x289954 := HI.eqI hI289949 (p := 231) (b := 8) ((((hF289950.1 231 8 mf_X11_tell_231_231_8).trans (gI_sW)).trans e289922))
                have x289956 := HI.eqA hI0 (p := 233) (j := 2) (hv214810)
                have x289957 := HI.eqA hI289949 (p := 233) (j := 2) (((eA_c (hF289950.2.1 233 ma_X11_tell_231_233)).trans (eA_sA_eq hI289917.1 ka_233 (by first | rfl | omega) (by first | decide | omega) (by first | decide | omega))))
                obtain ⟨v289960, hv289960⟩ : ∃ v, gI g268538 231 13 = v := ⟨_, rfl⟩
                have tv289960 := congrArg Int32.toInt hv289960
                have x289963 := HI.eqI hI289949 (p := 231) (b := 13) ((((hF289950.1 231 13 mf_X11_tell_231_231_13).trans ((gI_sW).trans (q289927.1 231 13 (by decide)))).trans hv289960))
                have ce := CDM.end_ q268554
                have y289964 : pI g268538 11 = (gI g268538 231 11).toInt := rfl
                exact ⟨_, rfl, hI289949, hF289953, _, rfl, by omega, ⟨(fun i i0 i1 i2 => ((eA_c (hF289950.2.1 233 ma_X11_tell_231_233)).trans ((eA_sA_ne (i := i) hI289917.1 ka_233 (by omega) (by omega) (by omega)).trans ((q289930 i i0 i1).trans (eA_c ((q268547.2.1 233 (by decide)))))))), by omega, Or.inr ⟨show (eA g0 233 2).toInt ≠ 6 from by omega, ⟨_, hskp0, Or.inl ⟨by omega, CLM.fin q268555 (show (gI g268538 231 14).toInt = 0 from by omega) (TKM.someC q268554 ((q268547.2.1 236 (by decide))) ((q268547.1 231 8 (by decide)))).choose_spec (by omega) (show (gI _ 231 13).toInt = (gI g268538 231 13).toInt from (by first | exact x289963.trans tv289960.symm | omega))⟩⟩, Or.inr ⟨show _ = (eA g0 233 2).toInt from by omega, by omega, show (eA _ 233 2).toInt = (eA g0 233 2).toInt + 1 from by omega⟩⟩⟩⟩
              · have c289940_ : x289915.toInt < v268575.toInt := en_i_ge_f c289940
                refine At.enter rfl ?_
                refine r_aload_n e289923 ?_
                refine q_getR (Sh.ref hI289917.1 kx_231 rfl) ?_
                refine r_iload_n e289924 ?_
                refine r_bipush 98 rfl ?_
                refine q_iadd (v279297.toInt + 98) rfl (by omega) (fun v289965 hv289965 => ?_)
                refine r_iconst 2 rfl ?_
                refine r_iload_n e289925 ?_
                refine q_imul (2 * x289915.toInt) rfl (by omega) (fun v289966 hv289966 => ?_)
                refine q_iadd (v289965.toInt + v289966.toInt) rfl (by omega) (fun v289967 hv289967 => ?_)
                refine r_aload_n e289923 ?_
                refine q_getR (Sh.ref hI289917.1 kx_231 rfl) ?_
                refine r_iload_n e289925 ?_
                obtain ⟨v289968, hv289968⟩ : ∃ v, eA g268538 238 x289915.toInt = v := ⟨_, rfl⟩
                refine q_iald (Sh.arr hI289917.1 ka_238) x289915.toInt rfl (by omega) v289968 ((eA_c (q289927.2.1 238 (by decide))).trans hv289968) ?_
                refine q_iast (Sh.arr hI289917.1 ka_233) ((900 * v214810.toInt + 2 * x289915.toInt + 208)) (by omega) (by omega) ?_
                have x289971 := HI.eqA hI289917 (p := 233) (j := 2) (((q289930 2 (by decide) (by decide)).trans ((eA_c (q268547.2.1 233 (by decide))).trans hv214810)))
                have hI289969 := HI.wfree hI289917 (j := (900 * v214810.toInt + 2 * x289915.toInt + 208)) (v := v289968) ⟨by omega, by omega⟩
                have hF289970 := Fr.wA (p := 233) (j := (900 * v214810.toInt + 2 * x289915.toInt + 208)) (v := v289968) hF289918 rfl
                refine r_aload_n e289923 ?_
                refine q_getR (Sh.ref hI289969.1 kx_231 rfl) ?_
                refine r_iload_n e289924 ?_
                refine r_bipush 98 rfl ?_
                refine q_iadd (v279297.toInt + 98) rfl (by omega) (fun v289972 hv289972 => ?_)
                refine r_iconst 2 rfl ?_
                refine r_iload_n e289925 ?_
                refine q_imul (2 * x289915.toInt) rfl (by omega) (fun v289973 hv289973 => ?_)
                refine q_iadd (v289972.toInt + v289973.toInt) rfl (by omega) (fun v289974 hv289974 => ?_)
                refine r_iconst 1 rfl ?_
                refine q_iadd (v289974.toInt + 1) rfl (by omega) (fun v289975 hv289975 => ?_)
                refine r_aload_n e289923 ?_
                refine q_getR (Sh.ref hI289969.1 kx_231 rfl) ?_
                refine r_iload_n e289925 ?_
                obtain ⟨v289976, hv289976⟩ : ∃ v, eA g268538 239 x289915.toInt = v := ⟨_, rfl⟩
                refine q_iald (Sh.arr hI289969.1 ka_239) x289915.toInt rfl (by omega) v289976 ((eA_c ((gA_sA_ne (by decide)).trans (q289927.2.1 239 (by decide)))).trans hv289976) ?_
                refine q_iast (Sh.arr hI289969.1 ka_233) ((900 * v214810.toInt + 2 * x289915.toInt + 209)) (by omega) (by omega) ?_
                have x289979 := HI.eqA hI289969 (p := 233) (j := 2) (((eA_sA_ne hI289917.1 ka_233 (by first | decide | omega) (by first | decide | omega) (by first | decide | omega)).trans ((q289930 2 (by decide) (by decide)).trans ((eA_c (q268547.2.1 233 (by decide))).trans hv214810))))
                have hI289977 := HI.wfree hI289969 (j := (900 * v214810.toInt + 2 * x289915.toInt + 209)) (v := v289976) ⟨by omega, by omega⟩
                have hF289978 := Fr.wA (p := 233) (j := (900 * v214810.toInt + 2 * x289915.toInt + 209)) (v := v289976) hF289970 rfl
                refine q_iinc e289925 (x289915.toInt + 1) rfl (by omega) (fun v289980 hv289980 => ?_)
                refine r_goto ?_
                exact ih289921 (400 - v289980.toInt) _ _ ⟨v289980, by first | rfl | omega, hI289977, hF289978, (((gI_sW).trans (gI_sW)).trans e289922), (w_p1 (by decide) (Or.inr rfl) e289923), (w_p1 (by decide) (Or.inr rfl) e289924), (w_e1 _ _ _), by omega, (Fr.wA (p := 233) (Fr.wA (p := 233) q289927 rfl) rfl), ((congrArg Int32.toInt (((eA_sA_ne (i := v279297.toInt + 1) hI289969.1 ka_233 (by omega) (by omega) (by omega)).trans (eA_sA_ne (i := v279297.toInt + 1) hI289917.1 ka_233 (by omega) (by omega) (by omega))))).trans q289928), (fun i i0 i1 => (congrArg Int32.toInt (((eA_sA_ne (i := v279297.toInt + 2 + i) hI289969.1 ka_233 (by omega) (by omega) (by omega)).trans (eA_sA_ne (i := v279297.toInt + 2 + i) hI289917.1 ka_233 (by omega) (by omega) (by omega))))).trans (q289929 i i0 i1)), (fun i i0 i1 => (((eA_sA_ne (i := i) hI289969.1 ka_233 (by omega) (by omega) (by omega)).trans (eA_sA_ne (i := i) hI289917.1 ka_233 (by omega) (by omega) (by omega)))).trans (q289930 i i0 i1)), (fun i i0 i1 => (Decidable.em (i = x289915.toInt)).elim (fun e => by rw [e]; exact ⟨((congrArg Int32.toInt ((eA_sA_ne (i := v279297.toInt + 98 + 2 * x289915.toInt) hI289969.1 ka_233 (by omega) (by omega) (by omega)).trans (eA_sA_eq hI289917.1 ka_233 (by omega) (by omega) (by omega)))).trans (congrArg Int32.toInt hv289968).symm), ((congrArg Int32.toInt (eA_sA_eq hI289969.1 ka_233 (by omega) (by omega) (by omega))).trans (congrArg Int32.toInt hv289976).symm)⟩) (fun e => ⟨(congrArg Int32.toInt (((eA_sA_ne (i := v279297.toInt + 98 + 2 * i) hI289969.1 ka_233 (by omega) (by omega) (by omega)).trans (eA_sA_ne (i := v279297.toInt + 98 + 2 * i) hI289917.1 ka_233 (by omega) (by omega) (by omega))))).trans (q289931 i i0 (by omega)).1, (congrArg Int32.toInt (((eA_sA_ne (i := v279297.toInt + 98 + 2 * i + 1) hI289969.1 ka_233 (by omega) (by omega) (by omega)).trans (eA_sA_ne (i := v279297.toInt + 98 + 2 * i + 1) hI289917.1 ka_233 (by omega) (by omega) (by omega))))).trans (q289931 i i0 (by omega)).2⟩))⟩ ⟨by omega, by omega⟩
            · have c289317_ : x289292.toInt < v289316.toInt := en_i_ge_f c289317
              refine At.enter rfl ?_
              refine r_aload_n e289300 ?_
              refine q_getR (Sh.ref hI289294.1 kx_231 rfl) ?_
              refine r_iload_n e289301 ?_
              refine r_iconst 2 rfl ?_
              refine q_iadd (v279297.toInt + 2) rfl (by omega) (fun v289981 hv289981 => ?_)
              refine r_iload_n e289302 ?_
              refine q_iadd (v289981.toInt + x289292.toInt) rfl (by omega) (fun v289982 hv289982 => ?_)
              refine r_aload_n e289300 ?_
              refine q_getR (Sh.ref hI289294.1 kx_231 rfl) ?_
              refine r_iload_n e289302 ?_
              obtain ⟨v289983, hv289983⟩ : ∃ v, eA g268538 237 x289292.toInt = v := ⟨_, rfl⟩
              refine q_iald (Sh.arr hI289294.1 ka_237) x289292.toInt rfl (by omega) v289983 ((eA_c (q289304.2.1 237 (by decide))).trans hv289983) ?_
              refine q_iast (Sh.arr hI289294.1 ka_233) ((900 * v214810.toInt + x289292.toInt + 112)) (by omega) (by omega) ?_
              have x289986 := HI.eqA hI289294 (p := 233) (j := 2) (((q289307 2 (by decide) (by decide)).trans ((eA_c (q268547.2.1 233 (by decide))).trans hv214810)))
              have hI289984 := HI.wfree hI289294 (j := (900 * v214810.toInt + x289292.toInt + 112)) (v := v289983) ⟨by omega, by omega⟩
              have hF289985 := Fr.wA (p := 233) (j := (900 * v214810.toInt + x289292.toInt + 112)) (v := v289983) hF289295 rfl
              refine q_iinc e289302 (x289292.toInt + 1) rfl (by omega) (fun v289987 hv289987 => ?_)
              refine r_goto ?_
              exact ih289298 (96 - v289987.toInt) _ _ ⟨v289987, by first | rfl | omega, hI289984, hF289985, ((gI_sW).trans e289299), (w_p1 (by decide) (Or.inr rfl) e289300), (w_p1 (by decide) (Or.inr rfl) e289301), (w_e1 _ _ _), by omega, (Fr.wA (p := 233) q289304 rfl), ((congrArg Int32.toInt ((eA_sA_ne (i := v279297.toInt + 1) hI289294.1 ka_233 (by omega) (by omega) (by omega)))).trans q289305), (fun i i0 i1 => (Decidable.em (i = x289292.toInt)).elim (fun e => by rw [e]; exact (congrArg Int32.toInt (eA_sA_eq hI289294.1 ka_233 (by omega) (by omega) (by omega))).trans (congrArg Int32.toInt hv289983).symm) (fun e => (congrArg Int32.toInt ((eA_sA_ne (i := v279297.toInt + 2 + i) hI289294.1 ka_233 (by omega) (by omega) (by omega)))).trans (q289306 i i0 (by omega)))), (fun i i0 i1 => ((eA_sA_ne (i := i) hI289294.1 ka_233 (by omega) (by omega) (by omega))).trans (q289307 i i0 i1))⟩ ⟨by omega, by omega⟩
          · have c279295_ : v268571.toInt ≠ 0 := en_k_eq_f c279295
            exfalso; omega
        · have c279292_ : v268569.toInt ≠ 0 := en_k_eq_f c279292
          refine At.enter rfl ?_
          refine r_aload_n e268545 ?_
          refine r_iconst 0 rfl ?_
          refine r_callV 97 rfl [.ref 231, .int 0] [] (Nat.le_of_ble_eq_true rfl) rfl (T_X11_must_231 _ hI268539 0 (by decide) (by refine ⟨?_, ?_, ?_, ?_⟩ <;> omega) q268552 q268554) ?_
          rintro _ _ ⟨g289993, rfl, hI289994, hF289995, rfl, hr289997⟩
          refine At.stn ?_
          have hF289998 := Fr.tr hF268540 hF289995 rfl rfl
          have x290005 := HI.eqI hI289994 (p := 231) (b := 8) ((((hF289995.1 231 8 mf_X11_must_231_231_8).trans (q268547.1 231 8 (by decide))).trans hv1))
          obtain ⟨v290006, hv290006⟩ : ∃ v, gI g289993 231 9 = v := ⟨_, rfl⟩
          have rv290006 := RgF.at hI289994.2.1 (p := 231) (b := 9) rfl
          rw [hv290006] at rv290006
          dsimp only at rv290006
          have tv290006 := congrArg Int32.toInt hv290006
          obtain ⟨v290008, hv290008⟩ : ∃ v, gI g289993 231 10 = v := ⟨_, rfl⟩
          have rv290008 := RgF.at hI289994.2.1 (p := 231) (b := 10) rfl
          rw [hv290008] at rv290008
          dsimp only at rv290008
          have tv290008 := congrArg Int32.toInt hv290008
          obtain ⟨v290010, hv290010⟩ : ∃ v, gI g289993 231 11 = v := ⟨_, rfl⟩
          have tv290010 := congrArg Int32.toInt hv290010
          obtain ⟨v290012, hv290012⟩ : ∃ v, gI g289993 231 14 = v := ⟨_, rfl⟩
          have tv290012 := congrArg Int32.toInt hv290012
          obtain ⟨c290014, c290015, c290016, c290017, c290018, c290019, c290020, c290021⟩ := hr289997
          obtain ⟨v290022, hv290022⟩ : ∃ v, gI g268538 231 13 = v := ⟨_, rfl⟩
          have tv290022 := congrArg Int32.toInt hv290022
          obtain ⟨v290025, hv290025⟩ : ∃ v, gI g289993 231 13 = v := ⟨_, rfl⟩
          have tv290025 := congrArg Int32.toInt hv290025
          have hK290027 := c290021.1
          refine At.enter rfl ?_
          refine r_aload_n e268545 ?_
          refine r_iconst 0 rfl ?_
          refine q_putI (Sh.int hI289994.1 kx_231 rfl) rfl ?_
          have hI290028 := HI.wI1 hI289994 kx_231 rfl (p := 231) (b := 8) (v := 0) rfl (by decide)
          have hF290029 := Fr.wI (p := 231) (b := 8) (v := 0) hF289998 rfl
          refine r_aload_n e268545 ?_
          refine q_getI (Sh.int hI290028.1 kx_231 rfl) v290012 ((gI_sI_ne (by decide)).trans hv290012) ?_
          refine r_ifs 109 rfl (fun c290030 => ?_) (fun c290030 => ?_)
          · have c290030_ : v290012.toInt = 0 := en_k_eq_t c290030
            obtain ⟨i290031, i290032, i290033⟩ := c290020 (by omega)
            obtain ⟨i290034, i290035⟩ := MUSTP.z c290021 (by omega) (by omega)
            refine At.enter rfl ?_
            refine r_bipush 110 rfl ?_
            refine r_sipush 900 rfl ?_
            refine r_aload_n e268545 ?_
            refine q_getR (Sh.ref hI290028.1 kx_231 rfl) ?_
            refine r_iconst 2 rfl ?_
            refine q_iald (Sh.arr hI290028.1 ka_233) 2 rfl (by decide) v214810 ((eA_c ((gA_sI).trans ((hF289995.2.1 233 ma_X11_must_231_233).trans (q268547.2.1 233 (by decide))))).trans hv214810) ?_
            refine q_imul (900 * v214810.toInt) rfl (by omega) (fun v290036 hv290036 => ?_)
            refine q_iadd (110 + v290036.toInt) rfl (by omega) (fun v290037 hv290037 => ?_)
            refine r_istore_n _ rfl ?_
            refine r_aload_n (w_p1 (by decide) (Or.inr rfl) e268545) ?_
            refine q_getR (Sh.ref hI290028.1 kx_231 rfl) ?_
            refine r_iload_n (w_e1 _ _ _) ?_
            refine r_iconst 1 rfl ?_
            refine q_iadd (v290037.toInt + 1) rfl (by omega) (fun v290038 hv290038 => ?_)
            refine r_aload_n (w_p1 (by decide) (Or.inr rfl) e268545) ?_
            refine q_getI (Sh.int hI290028.1 kx_231 rfl) v268573 (((gI_sI_ne (by decide)).trans (hF289995.1 231 15 mf_X11_must_231_231_15)).trans hv268573) ?_
            refine q_iast (Sh.arr hI290028.1 ka_233) ((900 * v214810.toInt + 111)) (by omega) (by omega) ?_
            have x290041 := HI.eqA hI290028 (p := 233) (j := 2) ((((eA_c gA_sI).trans ((eA_c (hF289995.2.1 233 ma_X11_must_231_233)).trans (eA_c (q268547.2.1 233 (by decide))))).trans hv214810))
            have hI290039 := HI.wfree hI290028 (j := (900 * v214810.toInt + 111)) (v := v268573) ⟨by omega, by omega⟩
            have hF290040 := Fr.wA (p := 233) (j := (900 * v214810.toInt + 111)) (v := v268573) hF290029 rfl
            refine r_iconst 0 rfl ?_
            refine r_istore_n _ rfl ?_
            refine Ar.fall 144 rfl ?_
            have x300049 := HI.eqI hI289994 (p := 231) (b := 15) (((hF289995.1 231 15 mf_X11_must_231_231_15).trans hv268573))
            have x300050 := HI.eqI hI289994 (p := 231) (b := 17) (((hF289995.1 231 17 mf_X11_must_231_231_17).trans hv268575))
            refine w_loopI (fun n_ l_ g_ => ∃ x300032 : Int32, n_ = 96 - x300032.toInt ∧ HI g_ ∧ Fr F_X11_law_231 A_X11_law_231 g0 g_ ∧ gI g_ 231 8 = 0 ∧ en_get 0 l_ = some (.ref 231) ∧ en_get 1 l_ = some (.int v290037) ∧ en_get 2 l_ = some (.int x300032) ∧ (0 ≤ x300032.toInt ∧ x300032.toInt ≤ 96) ∧ (Fr [(231, 8)] [233] g289993 g_) ∧ ((eA g_ 233 (v290037.toInt + 1)).toInt = (gI g289993 231 15).toInt) ∧ (∀ i : Int, 0 ≤ i → i < x300032.toInt → (eA g_ 233 (v290037.toInt + 2 + i)).toInt = (eA g289993 237 i).toInt) ∧ (∀ i : Int, 0 ≤ i → i < 110 → eA g_ 233 i = eA g289993 233 i)) ?_ (96 - 0) ⟨0, by first | rfl | omega, hI290039, hF290040, ((gI_sW).trans (gI_sI_eq hI289994.1 kx_231 rfl _)), (w_p1 (by decide) (Or.inr rfl) (w_p1 (by decide) (Or.inr rfl) e268545)), (w_p1 (by decide) (Or.inr rfl) (w_e1 _ _ _)), (w_e1 _ _ _), by decide, (Fr.wA (p := 233) (Fr.wI (p := 231) (b := 8) Fr.rf rfl) rfl), ((congrArg Int32.toInt (eA_sA_eq hI290028.1 ka_233 (by omega) (by omega) (by omega))).trans (by omega)), (fun i i0 i1 => absurd i1 (by omega)), (fun i i0 i1 => ((eA_sA_ne (i := i) hI290028.1 ka_233 (by omega) (by omega) (by omega)).trans (eA_c gA_sI)))⟩
            rintro n300037 l300036 g300033 ⟨x300032, hm300051, hI300034, hF300035, e300039, e300040, e300041, e300042, r300043, q300044, q300045, q300046, q300047⟩ ih300038
            have tv300052 := congrArg Int32.toInt e300039
            have t300055 := congrArg Int32.toInt ((q300047 2 (by decide) (by decide)).trans (((eA_c (hF289995.2.1 233 ma_X11_must_231_233)).trans (eA_c (q268547.2.1 233 (by decide)))).trans hv214810))
            refine At.enter rfl ?_
            refine r_iload_n e300042 ?_
            refine r_bipush 8 rfl ?_
            refine r_aload_n e300040 ?_
            refine q_getI (Sh.int hI300034.1 kx_231 rfl) v268573 (((q300044.1 231 15 (by decide)).trans (hF289995.1 231 15 mf_X11_must_231_231_15)).trans hv268573) ?_
            refine q_imul (8 * v268573.toInt) rfl (by omega) (fun v300056 hv300056 => ?_)
            have bv300058 := q_bnd x300032
            have bv300059 := q_bnd v300056
            refine r_ics 155 rfl (fun c300057 => ?_) (fun c300057 => ?_)
            · have c300057_ : x300032.toInt ≥ v300056.toInt := en_i_ge_t c300057
              refine At.enter rfl ?_
              refine r_iconst 0 rfl ?_
              refine r_istore_n _ rfl ?_
              refine Ar.fall 179 rfl ?_
              refine w_loopI (fun n_ l_ g_ => ∃ x300655 : Int32, n_ = 400 - x300655.toInt ∧ HI g_ ∧ Fr F_X11_law_231 A_X11_law_231 g0 g_ ∧ gI g_ 231 8 = 0 ∧ en_get 0 l_ = some (.ref 231) ∧ en_get 1 l_ = some (.int v290037) ∧ en_get 2 l_ = some (.int x300655) ∧ (0 ≤ x300655.toInt ∧ x300655.toInt ≤ 400) ∧ (Fr [(231, 8)] [233] g289993 g_) ∧ ((eA g_ 233 (v290037.toInt + 1)).toInt = (gI g289993 231 15).toInt) ∧ (∀ i : Int, 0 ≤ i → i < 8 * (gI g289993 231 15).toInt → (eA g_ 233 (v290037.toInt + 2 + i)).toInt = (eA g289993 237 i).toInt) ∧ (∀ i : Int, 0 ≤ i → i < 110 → eA g_ 233 i = eA g289993 233 i) ∧ (∀ i : Int, 0 ≤ i → i < x300655.toInt → (eA g_ 233 (v290037.toInt + 98 + 2 * i)).toInt = (eA g289993 238 i).toInt ∧ (eA g_ 233 (v290037.toInt + 98 + 2 * i + 1)).toInt = (eA g289993 239 i).toInt)) ?_ (400 - 0) ⟨0, by first | rfl | omega, hI300034, hF300035, e300039, (w_p1 (by decide) (Or.inr rfl) e300040), (w_p1 (by decide) (Or.inr rfl) e300041), (w_e1 _ _ _), by decide, (Fr.tr Fr.rf q300044 rfl rfl), ((congrArg Int32.toInt (rfl)).trans q300045), (fun i i0 i1 => q300046 i i0 (by omega)), (fun i i0 i1 => (rfl).trans (q300047 i i0 i1)), (fun i i0 i1 => absurd i1 (by omega))⟩
              rintro n300660 l300659 g300656 ⟨x300655, hm300675, hI300657, hF300658, e300662, e300663, e300664, e300665, r300666, q300667, q300668, q300669, q300670, q300671⟩ ih300661
              have tv300676 := congrArg Int32.toInt e300662
              have t300679 := congrArg Int32.toInt ((q300670 2 (by decide) (by decide)).trans (((eA_c (hF289995.2.1 233 ma_X11_must_231_233)).trans (eA_c (q268547.2.1 233 (by decide)))).trans hv214810))
              refine At.enter rfl ?_
              refine r_iload_n e300665 ?_
              refine r_aload_n e300663 ?_
              refine q_getI (Sh.int hI300657.1 kx_231 rfl) v268575 (((q300667.1 231 17 (by decide)).trans (hF289995.1 231 17 mf_X11_must_231_231_17)).trans hv268575) ?_
              have bv300681 := q_bnd x300655
              have bv300682 := q_bnd v268575
              refine r_ics 187 rfl (fun c300680 => ?_) (fun c300680 => ?_)
              · have c300680_ : x300655.toInt ≥ v268575.toInt := en_i_ge_t c300680
                refine At.enter rfl ?_
                refine r_aload_n e300663 ?_
                refine q_getR (Sh.ref hI300657.1 kx_231 rfl) ?_
                refine r_iconst 2 rfl ?_
                refine r_dup2 ⟨rfl, rfl⟩ ?_
                refine q_iald (Sh.arr hI300657.1 ka_233) 2 rfl (by decide) v214810 ((q300670 2 (by decide) (by decide)).trans (((eA_c (hF289995.2.1 233 ma_X11_must_231_233)).trans (eA_c (q268547.2.1 233 (by decide)))).trans hv214810)) ?_
                refine r_iconst 1 rfl ?_
                refine q_iadd (v214810.toInt + 1) rfl (by omega) (fun v300683 hv300683 => ?_)
                refine q_iast (Sh.arr hI300657.1 ka_233) (2) rfl (by decide) ?_
                have x300686 := HI.eqA hI300657 (p := 233) (j := 2) (((q300670 2 (by decide) (by decide)).trans (((eA_c (hF289995.2.1 233 ma_X11_must_231_233)).trans (eA_c (q268547.2.1 233 (by decide)))).trans hv214810)))
                have hI300684 := HI.wt2 hI300657 (v := v300683) (by omega) (by omega) (by rw [show 110 + 900 * (eA _ 233 2).toInt = v290037.toInt by omega]; exact LAW.mk (CLS.cong2 (q268553 (by omega)).2 hI289994 ((hF289995.2.1 238 ma_X11_must_231_238)) ((hF289995.2.1 239 ma_X11_must_231_239)) ((hF289995.2.1 237 ma_X11_must_231_237)) ((hF289995.1 231 15 mf_X11_must_231_231_15)) ((hF289995.1 231 17 mf_X11_must_231_231_17))) ⟨by omega, by omega⟩ (by omega) q300668 q300669 (fun i i0 i1 => q300671 i i0 (by omega)))
                have hF300685 := Fr.wA (p := 233) (j := 2) (v := v300683) hF300658 rfl
                refine r_aload_n e300663 ?_
                refine r_aload_n e300663 ?_
                refine q_getR (Sh.ref hI300684.1 kx_231 rfl) ?_
                refine r_iconst 2 rfl ?_
                refine q_iald (Sh.arr hI300684.1 ka_233) 2 rfl (by decide) v300683 (eA_sA_eq hI300657.1 ka_233 (by first | rfl | omega) (by first | decide | omega) (by first | decide | omega)) ?_
                refine r_iconst 1 rfl ?_
                refine q_isub (v300683.toInt - 1) rfl (by omega) (fun v300687 hv300687 => ?_)
                refine r_callV 255 rfl [.ref 231, .int v300687] [] (Nat.le_of_ble_eq_true rfl) rfl (T_X11_tell_231 _ hI300684 v300687 (by omega)) ?_
                rintro _ _ ⟨g300688, rfl, hI300689, hF300690, v300691, rfl, hr300692⟩
                refine At.sti ?_
                have hF300693 := Fr.tr hF300685 hF300690 rfl rfl
                refine At.enter rfl ?_
                refine r_ireti ?_
                have x300694 := HI.eqI hI300689 (p := 231) (b := 8) ((((hF300690.1 231 8 mf_X11_tell_231_231_8).trans (gI_sW)).trans e300662))
                have x300696 := HI.eqA hI0 (p := 233) (j := 2) (hv214810)
                have x300697 := HI.eqA hI300689 (p := 233) (j := 2) (((eA_c (hF300690.2.1 233 ma_X11_tell_231_233)).trans (eA_sA_eq hI300657.1 ka_233 (by first | rfl | omega) (by first | decide | omega) (by first | decide | omega))))
                have x300702 := HI.eqI hI300689 (p := 231) (b := 13) ((((hF300690.1 231 13 mf_X11_tell_231_231_13).trans ((gI_sW).trans (q300667.1 231 13 (by decide)))).trans hv290025))
                have ce := CDM.end_ q268554
                have y300703 : pI g268538 11 = (gI g268538 231 11).toInt := rfl
                have y300704 : (gI g289993 231 13).toInt = (gI g268538 231 9).toInt := (c290021.2.2.1 (show (gI g268538 231 14).toInt = 0 from by omega) (by omega)).2
                exact ⟨_, rfl, hI300689, hF300693, _, rfl, by omega, ⟨(fun i i0 i1 i2 => ((eA_c (hF300690.2.1 233 ma_X11_tell_231_233)).trans ((eA_sA_ne (i := i) hI300657.1 ka_233 (by omega) (by omega) (by omega)).trans ((q300670 i i0 i1).trans (eA_c (((hF289995.2.1 233 ma_X11_must_231_233).trans (q268547.2.1 233 (by decide))))))))), by omega, Or.inr ⟨show (eA g0 233 2).toInt ≠ 6 from by omega, ⟨_, hskp0, Or.inl ⟨by omega, CLM.fin q268555 (show (gI g268538 231 14).toInt = 0 from by omega) (TKM.someC q268554 ((q268547.2.1 236 (by decide))) ((q268547.1 231 8 (by decide)))).choose_spec (by omega) (show (gI _ 231 13).toInt = (gI g268538 231 13).toInt from by omega)⟩⟩, Or.inr ⟨show _ = (eA g0 233 2).toInt from by omega, by omega, show (eA _ 233 2).toInt = (eA g0 233 2).toInt + 1 from by omega⟩⟩⟩⟩
              · have c300680_ : x300655.toInt < v268575.toInt := en_i_ge_f c300680
                refine At.enter rfl ?_
                refine r_aload_n e300663 ?_
                refine q_getR (Sh.ref hI300657.1 kx_231 rfl) ?_
                refine r_iload_n e300664 ?_
                refine r_bipush 98 rfl ?_
                refine q_iadd (v290037.toInt + 98) rfl (by omega) (fun v300706 hv300706 => ?_)
                refine r_iconst 2 rfl ?_
                refine r_iload_n e300665 ?_
                refine q_imul (2 * x300655.toInt) rfl (by omega) (fun v300707 hv300707 => ?_)
                refine q_iadd (v300706.toInt + v300707.toInt) rfl (by omega) (fun v300708 hv300708 => ?_)
                refine r_aload_n e300663 ?_
                refine q_getR (Sh.ref hI300657.1 kx_231 rfl) ?_
                refine r_iload_n e300665 ?_
                obtain ⟨v300709, hv300709⟩ : ∃ v, eA g268538 238 x300655.toInt = v := ⟨_, rfl⟩
                refine q_iald (Sh.arr hI300657.1 ka_238) x300655.toInt rfl (by omega) v300709 ((eA_c ((q300667.2.1 238 (by decide)).trans (hF289995.2.1 238 ma_X11_must_231_238))).trans hv300709) ?_
                refine q_iast (Sh.arr hI300657.1 ka_233) ((900 * v214810.toInt + 2 * x300655.toInt + 208)) (by omega) (by omega) ?_
                have x300712 := HI.eqA hI300657 (p := 233) (j := 2) (((q300670 2 (by decide) (by decide)).trans (((eA_c (hF289995.2.1 233 ma_X11_must_231_233)).trans (eA_c (q268547.2.1 233 (by decide)))).trans hv214810)))
                have hI300710 := HI.wfree hI300657 (j := (900 * v214810.toInt + 2 * x300655.toInt + 208)) (v := v300709) ⟨by omega, by omega⟩
                have hF300711 := Fr.wA (p := 233) (j := (900 * v214810.toInt + 2 * x300655.toInt + 208)) (v := v300709) hF300658 rfl
                refine r_aload_n e300663 ?_
                refine q_getR (Sh.ref hI300710.1 kx_231 rfl) ?_
                refine r_iload_n e300664 ?_
                refine r_bipush 98 rfl ?_
                refine q_iadd (v290037.toInt + 98) rfl (by omega) (fun v300713 hv300713 => ?_)
                refine r_iconst 2 rfl ?_
                refine r_iload_n e300665 ?_
                refine q_imul (2 * x300655.toInt) rfl (by omega) (fun v300714 hv300714 => ?_)
                refine q_iadd (v300713.toInt + v300714.toInt) rfl (by omega) (fun v300715 hv300715 => ?_)
                refine r_iconst 1 rfl ?_
                refine q_iadd (v300715.toInt + 1) rfl (by omega) (fun v300716 hv300716 => ?_)
                refine r_aload_n e300663 ?_
                refine q_getR (Sh.ref hI300710.1 kx_231 rfl) ?_
                refine r_iload_n e300665 ?_
                obtain ⟨v300717, hv300717⟩ : ∃ v, eA g268538 239 x300655.toInt = v := ⟨_, rfl⟩
                refine q_iald (Sh.arr hI300710.1 ka_239) x300655.toInt rfl (by omega) v300717 ((eA_c ((gA_sA_ne (by decide)).trans ((q300667.2.1 239 (by decide)).trans (hF289995.2.1 239 ma_X11_must_231_239)))).trans hv300717) ?_
                refine q_iast (Sh.arr hI300710.1 ka_233) ((900 * v214810.toInt + 2 * x300655.toInt + 209)) (by omega) (by omega) ?_
                have x300720 := HI.eqA hI300710 (p := 233) (j := 2) (((eA_sA_ne hI300657.1 ka_233 (by first | decide | omega) (by first | decide | omega) (by first | decide | omega)).trans ((q300670 2 (by decide) (by decide)).trans (((eA_c (hF289995.2.1 233 ma_X11_must_231_233)).trans (eA_c (q268547.2.1 233 (by decide)))).trans hv214810))))
                have hI300718 := HI.wfree hI300710 (j := (900 * v214810.toInt + 2 * x300655.toInt + 209)) (v := v300717) ⟨by omega, by omega⟩
                have hF300719 := Fr.wA (p := 233) (j := (900 * v214810.toInt + 2 * x300655.toInt + 209)) (v := v300717) hF300711 rfl
                refine q_iinc e300665 (x300655.toInt + 1) rfl (by omega) (fun v300721 hv300721 => ?_)
                refine r_goto ?_
                exact ih300661 (400 - v300721.toInt) _ _ ⟨v300721, by first | rfl | omega, hI300718, hF300719, (((gI_sW).trans (gI_sW)).trans e300662), (w_p1 (by decide) (Or.inr rfl) e300663), (w_p1 (by decide) (Or.inr rfl) e300664), (w_e1 _ _ _), by omega, (Fr.wA (p := 233) (Fr.wA (p := 233) q300667 rfl) rfl), ((congrArg Int32.toInt (((eA_sA_ne (i := v290037.toInt + 1) hI300710.1 ka_233 (by omega) (by omega) (by omega)).trans (eA_sA_ne (i := v290037.toInt + 1) hI300657.1 ka_233 (by omega) (by omega) (by omega))))).trans q300668), (fun i i0 i1 => (congrArg Int32.toInt (((eA_sA_ne (i := v290037.toInt + 2 + i) hI300710.1 ka_233 (by omega) (by omega) (by omega)).trans (eA_sA_ne (i := v290037.toInt + 2 + i) hI300657.1 ka_233 (by omega) (by omega) (by omega))))).trans (q300669 i i0 i1)), (fun i i0 i1 => (((eA_sA_ne (i := i) hI300710.1 ka_233 (by omega) (by omega) (by omega)).trans (eA_sA_ne (i := i) hI300657.1 ka_233 (by omega) (by omega) (by omega)))).trans (q300670 i i0 i1)), (fun i i0 i1 => (Decidable.em (i = x300655.toInt)).elim (fun e => by rw [e]; exact ⟨((congrArg Int32.toInt ((eA_sA_ne (i := v290037.toInt + 98 + 2 * x300655.toInt) hI300710.1 ka_233 (by omega) (by omega) (by omega)).trans (eA_sA_eq hI300657.1 ka_233 (by omega) (by omega) (by omega)))).trans (congrArg Int32.toInt ((eA_c ((hF289995.2.1 238 ma_X11_must_231_238))).trans hv300709)).symm), ((congrArg Int32.toInt (eA_sA_eq hI300710.1 ka_233 (by omega) (by omega) (by omega))).trans (congrArg Int32.toInt ((eA_c ((hF289995.2.1 239 ma_X11_must_231_239))).trans hv300717)).symm)⟩) (fun e => ⟨(congrArg Int32.toInt (((eA_sA_ne (i := v290037.toInt + 98 + 2 * i) hI300710.1 ka_233 (by omega) (by omega) (by omega)).trans (eA_sA_ne (i := v290037.toInt + 98 + 2 * i) hI300657.1 ka_233 (by omega) (by omega) (by omega))))).trans (q300671 i i0 (by omega)).1, (congrArg Int32.toInt (((eA_sA_ne (i := v290037.toInt + 98 + 2 * i + 1) hI300710.1 ka_233 (by omega) (by omega) (by omega)).trans (eA_sA_ne (i := v290037.toInt + 98 + 2 * i + 1) hI300657.1 ka_233 (by omega) (by omega) (by omega))))).trans (q300671 i i0 (by omega)).2⟩))⟩ ⟨by omega, by omega⟩
            · have c300057_ : x300032.toInt < v300056.toInt := en_i_ge_f c300057
              refine At.enter rfl ?_
              refine r_aload_n e300040 ?_
              refine q_getR (Sh.ref hI300034.1 kx_231 rfl) ?_
              refine r_iload_n e300041 ?_
              refine r_iconst 2 rfl ?_
              refine q_iadd (v290037.toInt + 2) rfl (by omega) (fun v300722 hv300722 => ?_)
              refine r_iload_n e300042 ?_
              refine q_iadd (v300722.toInt + x300032.toInt) rfl (by omega) (fun v300723 hv300723 => ?_)
              refine r_aload_n e300040 ?_
              refine q_getR (Sh.ref hI300034.1 kx_231 rfl) ?_
              refine r_iload_n e300042 ?_
              obtain ⟨v300724, hv300724⟩ : ∃ v, eA g268538 237 x300032.toInt = v := ⟨_, rfl⟩
              refine q_iald (Sh.arr hI300034.1 ka_237) x300032.toInt rfl (by omega) v300724 ((eA_c ((q300044.2.1 237 (by decide)).trans (hF289995.2.1 237 ma_X11_must_231_237))).trans hv300724) ?_
              refine q_iast (Sh.arr hI300034.1 ka_233) ((900 * v214810.toInt + x300032.toInt + 112)) (by omega) (by omega) ?_
              have x300727 := HI.eqA hI300034 (p := 233) (j := 2) (((q300047 2 (by decide) (by decide)).trans (((eA_c (hF289995.2.1 233 ma_X11_must_231_233)).trans (eA_c (q268547.2.1 233 (by decide)))).trans hv214810)))
              have hI300725 := HI.wfree hI300034 (j := (900 * v214810.toInt + x300032.toInt + 112)) (v := v300724) ⟨by omega, by omega⟩
              have hF300726 := Fr.wA (p := 233) (j := (900 * v214810.toInt + x300032.toInt + 112)) (v := v300724) hF300035 rfl
              refine q_iinc e300042 (x300032.toInt + 1) rfl (by omega) (fun v300728 hv300728 => ?_)
              refine r_goto ?_
              exact ih300038 (96 - v300728.toInt) _ _ ⟨v300728, by first | rfl | omega, hI300725, hF300726, ((gI_sW).trans e300039), (w_p1 (by decide) (Or.inr rfl) e300040), (w_p1 (by decide) (Or.inr rfl) e300041), (w_e1 _ _ _), by omega, (Fr.wA (p := 233) q300044 rfl), ((congrArg Int32.toInt ((eA_sA_ne (i := v290037.toInt + 1) hI300034.1 ka_233 (by omega) (by omega) (by omega)))).trans q300045), (fun i i0 i1 => (Decidable.em (i = x300032.toInt)).elim (fun e => by rw [e]; exact (congrArg Int32.toInt (eA_sA_eq hI300034.1 ka_233 (by omega) (by omega) (by omega))).trans (congrArg Int32.toInt ((eA_c ((hF289995.2.1 237 ma_X11_must_231_237))).trans hv300724)).symm) (fun e => (congrArg Int32.toInt ((eA_sA_ne (i := v290037.toInt + 2 + i) hI300034.1 ka_233 (by omega) (by omega) (by omega)))).trans (q300046 i i0 (by omega)))), (fun i i0 i1 => ((eA_sA_ne (i := i) hI300034.1 ka_233 (by omega) (by omega) (by omega))).trans (q300047 i i0 i1))⟩ ⟨by omega, by omega⟩
          · have c290030_ : v290012.toInt ≠ 0 := en_k_eq_f c290030
            clear c290020
            have i300729 := MUSTP.w c290021 (by omega)
            refine At.enter rfl ?_
            refine r_aload_n e268545 ?_
            refine r_bipush (-6) rfl ?_
            refine r_callV 115 rfl [.ref 231, .int (-6)] [] (Nat.le_of_ble_eq_true rfl) rfl (T_X11_tell_231 _ hI290028 (-6) (by decide)) ?_
            rintro _ _ ⟨g300730, rfl, hI300731, hF300732, v300733, rfl, hr300734⟩
            refine At.sti ?_
            have hF300735 := Fr.tr hF290029 hF300732 rfl rfl
            have zv300736 : ((-6) : Int32).toInt = (-6) := rfl
            refine At.enter rfl ?_
            refine r_ireti ?_
            have x300737 := HI.eqI hI300731 (p := 231) (b := 8) (((hF300732.1 231 8 mf_X11_tell_231_231_8).trans (gI_sI_eq hI289994.1 kx_231 rfl _)))
            have x300739 := HI.eqA hI0 (p := 233) (j := 2) (hv214810)
            have x300740 := HI.eqA hI300731 (p := 233) (j := 2) ((((eA_c (hF300732.2.1 233 ma_X11_tell_231_233)).trans ((eA_c gA_sI).trans ((eA_c (hF289995.2.1 233 ma_X11_must_231_233)).trans (eA_c (q268547.2.1 233 (by decide)))))).trans hv214810))
            have x300745 := HI.eqI hI300731 (p := 231) (b := 13) ((((hF300732.1 231 13 mf_X11_tell_231_231_13).trans (gI_sI_ne (by decide))).trans hv290025))
            have ce := CDM.end_ q268554
            have y300746 : pI g268538 11 = (gI g268538 231 11).toInt := rfl
            have y300747 : (gI g289993 231 13).toInt = (gI g268538 231 9).toInt := (c290021.2.2.1 (show (gI g268538 231 14).toInt = 0 from by omega) (by omega)).2
            exact ⟨_, rfl, hI300731, hF300735, _, rfl, by omega, ⟨(fun i i0 i1 i2 => eA_c (((hF300732.2.1 233 ma_X11_tell_231_233).trans ((gA_sI).trans ((hF289995.2.1 233 ma_X11_must_231_233).trans (q268547.2.1 233 (by decide))))))), by omega, Or.inr ⟨show (eA g0 233 2).toInt ≠ 6 from by omega, ⟨_, hskp0, Or.inr ⟨by omega, CLM.faild q268555 (show (gI g268538 231 14).toInt = 0 from by omega) (TKM.someC q268554 ((q268547.2.1 236 (by decide))) ((q268547.1 231 8 (by decide)))).choose_spec (by omega) (by omega) (show (gI _ 231 13).toInt = (gI g268538 231 9).toInt from by omega)⟩⟩, Or.inl ⟨by omega, (show (eA _ 233 2).toInt = (eA g0 233 2).toInt from by omega)⟩⟩⟩⟩
    · have c268577_ : v268571.toInt = 0 := en_k_ne_f c268577
      refine At.enter rfl ?_
      refine r_aload_n e268545 ?_
      refine r_bipush 59 rfl ?_
      have zv300750 : (59 : Int32).toInt = 59 := rfl
      refine r_callV 64 rfl [.ref 231, .int 59] [] (Nat.le_of_ble_eq_true rfl) rfl (T_X11_isSign_231 _ hI268539 59 (by omega)) ?_
      rintro _ _ ⟨g300751, rfl, hI300752, hF300753, v300754, rfl, hr300755⟩
      refine At.sti ?_
      have hF300756 := Fr.tr hF268540 hF300753 rfl rfl
      have x300759 := HI.eqI hI300752 (p := 231) (b := 11) (((hF300753.1 231 11 mf_X11_isSign_231_231_11).trans hv268569))
      have hb300760 : BL (CDM g268538 = 14) v300754.toInt := ISM.sign (c := 14) hr300755.2.2 q268554 (isSC_d (by omega)) (by decide +kernel)
      refine At.enter rfl ?_
      refine r_ifs 67 rfl (fun c300761 => ?_) (fun c300761 => ?_)
      · have c300761_ : v300754.toInt = 0 := en_k_eq_t c300761
        have i300762 := BL.no hb300760 (by omega)
        refine At.enter rfl ?_
        refine r_aload_n e268545 ?_
        refine q_getI (Sh.int hI300752.1 kx_231 rfl) v268571 ((hF300753.1 231 14 mf_X11_isSign_231_231_14).trans hv268571) ?_
        refine r_ifs 85 rfl (fun c300763 => ?_) (fun c300763 => ?_)
        · have c300763_ : v268571.toInt ≠ 0 := en_k_ne_t c300763
          exfalso; omega
        · have c300763_ : v268571.toInt = 0 := en_k_ne_f c300763
          refine At.enter rfl ?_
          refine r_aload_n e268545 ?_
          refine q_getI (Sh.int hI300752.1 kx_231 rfl) v268569 ((hF300753.1 231 11 mf_X11_isSign_231_231_11).trans hv268569) ?_
          refine r_ifs 92 rfl (fun c300764 => ?_) (fun c300764 => ?_)
          · have c300764_ : v268569.toInt = 0 := en_k_eq_t c300764
            refine At.enter rfl ?_
            refine r_aload_n e268545 ?_
            refine r_iconst 0 rfl ?_
            refine q_putI (Sh.int hI300752.1 kx_231 rfl) rfl ?_
            have hI300765 := HI.wI1 hI300752 kx_231 rfl (p := 231) (b := 8) (v := 0) rfl (by decide)
            have hF300766 := Fr.wI (p := 231) (b := 8) (v := 0) hF300756 rfl
            refine r_aload_n e268545 ?_
            refine q_getI (Sh.int hI300765.1 kx_231 rfl) v268571 (((gI_sI_ne (by decide)).trans (hF300753.1 231 14 mf_X11_isSign_231_231_14)).trans hv268571) ?_
            refine r_ifs 109 rfl (fun c300767 => ?_) (fun c300767 => ?_)
            · have c300767_ : v268571.toInt = 0 := en_k_eq_t c300767
              refine At.enter rfl ?_
              refine r_bipush 110 rfl ?_
              refine r_sipush 900 rfl ?_
              refine r_aload_n e268545 ?_
              refine q_getR (Sh.ref hI300765.1 kx_231 rfl) ?_
              refine r_iconst 2 rfl ?_
              refine q_iald (Sh.arr hI300765.1 ka_233) 2 rfl (by decide) v214810 ((eA_c ((gA_sI).trans ((hF300753.2.1 233 ma_X11_isSign_231_233).trans (q268547.2.1 233 (by decide))))).trans hv214810) ?_
              refine q_imul (900 * v214810.toInt) rfl (by omega) (fun v300768 hv300768 => ?_)
              refine q_iadd (110 + v300768.toInt) rfl (by omega) (fun v300769 hv300769 => ?_)
              refine r_istore_n _ rfl ?_
              refine r_aload_n (w_p1 (by decide) (Or.inr rfl) e268545) ?_
              refine q_getR (Sh.ref hI300765.1 kx_231 rfl) ?_
              refine r_iload_n (w_e1 _ _ _) ?_
              refine r_iconst 1 rfl ?_
              refine q_iadd (v300769.toInt + 1) rfl (by omega) (fun v300770 hv300770 => ?_)
              refine r_aload_n (w_p1 (by decide) (Or.inr rfl) e268545) ?_
              refine q_getI (Sh.int hI300765.1 kx_231 rfl) v268573 (((gI_sI_ne (by decide)).trans (hF300753.1 231 15 mf_X11_isSign_231_231_15)).trans hv268573) ?_
              refine q_iast (Sh.arr hI300765.1 ka_233) ((900 * v214810.toInt + 111)) (by omega) (by omega) ?_
              have x300773 := HI.eqA hI300765 (p := 233) (j := 2) ((((eA_c gA_sI).trans ((eA_c (hF300753.2.1 233 ma_X11_isSign_231_233)).trans (eA_c (q268547.2.1 233 (by decide))))).trans hv214810))
              have hI300771 := HI.wfree hI300765 (j := (900 * v214810.toInt + 111)) (v := v268573) ⟨by omega, by omega⟩
              have hF300772 := Fr.wA (p := 233) (j := (900 * v214810.toInt + 111)) (v := v268573) hF300766 rfl
              refine r_iconst 0 rfl ?_
              refine r_istore_n _ rfl ?_
              refine Ar.fall 144 rfl ?_
              have x310781 := HI.eqI hI300752 (p := 231) (b := 15) (((hF300753.1 231 15 mf_X11_isSign_231_231_15).trans hv268573))
              have x310782 := HI.eqI hI300752 (p := 231) (b := 17) (((hF300753.1 231 17 mf_X11_isSign_231_231_17).trans hv268575))
              refine w_loopI (fun n_ l_ g_ => ∃ x310764 : Int32, n_ = 96 - x310764.toInt ∧ HI g_ ∧ Fr F_X11_law_231 A_X11_law_231 g0 g_ ∧ gI g_ 231 8 = 0 ∧ en_get 0 l_ = some (.ref 231) ∧ en_get 1 l_ = some (.int v300769) ∧ en_get 2 l_ = some (.int x310764) ∧ (0 ≤ x310764.toInt ∧ x310764.toInt ≤ 96) ∧ (Fr [(231, 8)] [233] g300751 g_) ∧ ((eA g_ 233 (v300769.toInt + 1)).toInt = (gI g300751 231 15).toInt) ∧ (∀ i : Int, 0 ≤ i → i < x310764.toInt → (eA g_ 233 (v300769.toInt + 2 + i)).toInt = (eA g300751 237 i).toInt) ∧ (∀ i : Int, 0 ≤ i → i < 110 → eA g_ 233 i = eA g300751 233 i)) ?_ (96 - 0) ⟨0, by first | rfl | omega, hI300771, hF300772, ((gI_sW).trans (gI_sI_eq hI300752.1 kx_231 rfl _)), (w_p1 (by decide) (Or.inr rfl) (w_p1 (by decide) (Or.inr rfl) e268545)), (w_p1 (by decide) (Or.inr rfl) (w_e1 _ _ _)), (w_e1 _ _ _), by decide, (Fr.wA (p := 233) (Fr.wI (p := 231) (b := 8) Fr.rf rfl) rfl), ((congrArg Int32.toInt (eA_sA_eq hI300765.1 ka_233 (by omega) (by omega) (by omega))).trans (by omega)), (fun i i0 i1 => absurd i1 (by omega)), (fun i i0 i1 => ((eA_sA_ne (i := i) hI300765.1 ka_233 (by omega) (by omega) (by omega)).trans (eA_c gA_sI)))⟩
              rintro n310769 l310768 g310765 ⟨x310764, hm310783, hI310766, hF310767, e310771, e310772, e310773, e310774, r310775, q310776, q310777, q310778, q310779⟩ ih310770
              have tv310784 := congrArg Int32.toInt e310771
              have t310787 := congrArg Int32.toInt ((q310779 2 (by decide) (by decide)).trans (((eA_c (hF300753.2.1 233 ma_X11_isSign_231_233)).trans (eA_c (q268547.2.1 233 (by decide)))).trans hv214810))
              refine At.enter rfl ?_
              refine r_iload_n e310774 ?_
              refine r_bipush 8 rfl ?_
              refine r_aload_n e310772 ?_
              refine q_getI (Sh.int hI310766.1 kx_231 rfl) v268573 (((q310776.1 231 15 (by decide)).trans (hF300753.1 231 15 mf_X11_isSign_231_231_15)).trans hv268573) ?_
              refine q_imul (8 * v268573.toInt) rfl (by omega) (fun v310788 hv310788 => ?_)
              have bv310790 := q_bnd x310764
              have bv310791 := q_bnd v310788
              refine r_ics 155 rfl (fun c310789 => ?_) (fun c310789 => ?_)
              · have c310789_ : x310764.toInt ≥ v310788.toInt := en_i_ge_t c310789
                refine At.enter rfl ?_
                refine r_iconst 0 rfl ?_
                refine r_istore_n _ rfl ?_
                refine Ar.fall 179 rfl ?_
                refine w_loopI (fun n_ l_ g_ => ∃ x311387 : Int32, n_ = 400 - x311387.toInt ∧ HI g_ ∧ Fr F_X11_law_231 A_X11_law_231 g0 g_ ∧ gI g_ 231 8 = 0 ∧ en_get 0 l_ = some (.ref 231) ∧ en_get 1 l_ = some (.int v300769) ∧ en_get 2 l_ = some (.int x311387) ∧ (0 ≤ x311387.toInt ∧ x311387.toInt ≤ 400) ∧ (Fr [(231, 8)] [233] g300751 g_) ∧ ((eA g_ 233 (v300769.toInt + 1)).toInt = (gI g300751 231 15).toInt) ∧ (∀ i : Int, 0 ≤ i → i < 8 * (gI g300751 231 15).toInt → (eA g_ 233 (v300769.toInt + 2 + i)).toInt = (eA g300751 237 i).toInt) ∧ (∀ i : Int, 0 ≤ i → i < 110 → eA g_ 233 i = eA g300751 233 i) ∧ (∀ i : Int, 0 ≤ i → i < x311387.toInt → (eA g_ 233 (v300769.toInt + 98 + 2 * i)).toInt = (eA g300751 238 i).toInt ∧ (eA g_ 233 (v300769.toInt + 98 + 2 * i + 1)).toInt = (eA g300751 239 i).toInt)) ?_ (400 - 0) ⟨0, by first | rfl | omega, hI310766, hF310767, e310771, (w_p1 (by decide) (Or.inr rfl) e310772), (w_p1 (by decide) (Or.inr rfl) e310773), (w_e1 _ _ _), by decide, (Fr.tr Fr.rf q310776 rfl rfl), ((congrArg Int32.toInt (rfl)).trans q310777), (fun i i0 i1 => q310778 i i0 (by omega)), (fun i i0 i1 => (rfl).trans (q310779 i i0 i1)), (fun i i0 i1 => absurd i1 (by omega))⟩
                rintro n311392 l311391 g311388 ⟨x311387, hm311407, hI311389, hF311390, e311394, e311395, e311396, e311397, r311398, q311399, q311400, q311401, q311402, q311403⟩ ih311393
                have tv311408 := congrArg Int32.toInt e311394
                have t311411 := congrArg Int32.toInt ((q311402 2 (by decide) (by decide)).trans (((eA_c (hF300753.2.1 233 ma_X11_isSign_231_233)).trans (eA_c (q268547.2.1 233 (by decide)))).trans hv214810))
                refine At.enter rfl ?_
                refine r_iload_n e311397 ?_
                refine r_aload_n e311395 ?_
                refine q_getI (Sh.int hI311389.1 kx_231 rfl) v268575 (((q311399.1 231 17 (by decide)).trans (hF300753.1 231 17 mf_X11_isSign_231_231_17)).trans hv268575) ?_
                have bv311413 := q_bnd x311387
                have bv311414 := q_bnd v268575
                refine r_ics 187 rfl (fun c311412 => ?_) (fun c311412 => ?_)
                · have c311412_ : x311387.toInt ≥ v268575.toInt := en_i_ge_t c311412
                  refine At.enter rfl ?_
                  refine r_aload_n e311395 ?_
                  refine q_getR (Sh.ref hI311389.1 kx_231 rfl) ?_
                  refine r_iconst 2 rfl ?_
                  refine r_dup2 ⟨rfl, rfl⟩ ?_
                  refine q_iald (Sh.arr hI311389.1 ka_233) 2 rfl (by decide) v214810 ((q311402 2 (by decide) (by decide)).trans (((eA_c (hF300753.2.1 233 ma_X11_isSign_231_233)).trans (eA_c (q268547.2.1 233 (by decide)))).trans hv214810)) ?_
                  refine r_iconst 1 rfl ?_
                  refine q_iadd (v214810.toInt + 1) rfl (by omega) (fun v311415 hv311415 => ?_)
                  refine q_iast (Sh.arr hI311389.1 ka_233) (2) rfl (by decide) ?_
                  have x311418 := HI.eqA hI311389 (p := 233) (j := 2) (((q311402 2 (by decide) (by decide)).trans (((eA_c (hF300753.2.1 233 ma_X11_isSign_231_233)).trans (eA_c (q268547.2.1 233 (by decide)))).trans hv214810)))
                  have hI311416 := HI.wt2 hI311389 (v := v311415) (by omega) (by omega) (by rw [show 110 + 900 * (eA _ 233 2).toInt = v300769.toInt by omega]; exact LAW.mk (CLS.cong2 (q268553 (by omega)).2 hI300752 ((hF300753.2.1 238 ma_X11_isSign_231_238)) ((hF300753.2.1 239 ma_X11_isSign_231_239)) ((hF300753.2.1 237 ma_X11_isSign_231_237)) ((hF300753.1 231 15 mf_X11_isSign_231_231_15)) ((hF300753.1 231 17 mf_X11_isSign_231_231_17))) ⟨by omega, by omega⟩ (by omega) q311400 q311401 (fun i i0 i1 => q311403 i i0 (by omega)))
                  have hF311417 := Fr.wA (p := 233) (j := 2) (v := v311415) hF311390 rfl
                  refine r_aload_n e311395 ?_
                  refine r_aload_n e311395 ?_
                  refine q_getR (Sh.ref hI311416.1 kx_231 rfl) ?_
                  refine r_iconst 2 rfl ?_
                  refine q_iald (Sh.arr hI311416.1 ka_233) 2 rfl (by decide) v311415 (eA_sA_eq hI311389.1 ka_233 (by first | rfl | omega) (by first | decide | omega) (by first | decide | omega)) ?_
                  refine r_iconst 1 rfl ?_
                  refine q_isub (v311415.toInt - 1) rfl (by omega) (fun v311419 hv311419 => ?_)
                  refine r_callV 255 rfl [.ref 231, .int v311419] [] (Nat.le_of_ble_eq_true rfl) rfl (T_X11_tell_231 _ hI311416 v311419 (by omega)) ?_
                  rintro _ _ ⟨g311420, rfl, hI311421, hF311422, v311423, rfl, hr311424⟩
                  refine At.sti ?_
                  have hF311425 := Fr.tr hF311417 hF311422 rfl rfl
                  refine At.enter rfl ?_
                  refine r_ireti ?_
                  have x311426 := HI.eqI hI311421 (p := 231) (b := 8) ((((hF311422.1 231 8 mf_X11_tell_231_231_8).trans (gI_sW)).trans e311394))
                  have x311428 := HI.eqA hI0 (p := 233) (j := 2) (hv214810)
                  have x311429 := HI.eqA hI311421 (p := 233) (j := 2) (((eA_c (hF311422.2.1 233 ma_X11_tell_231_233)).trans (eA_sA_eq hI311389.1 ka_233 (by first | rfl | omega) (by first | decide | omega) (by first | decide | omega))))
                  obtain ⟨v311432, hv311432⟩ : ∃ v, gI g268538 231 13 = v := ⟨_, rfl⟩
                  have tv311432 := congrArg Int32.toInt hv311432
                  have x311435 := HI.eqI hI311421 (p := 231) (b := 13) ((((hF311422.1 231 13 mf_X11_tell_231_231_13).trans ((gI_sW).trans ((q311399.1 231 13 (by decide)).trans (hF300753.1 231 13 mf_X11_isSign_231_231_13)))).trans hv311432))
                  have ce := CDM.end_ q268554
                  have y311436 : pI g268538 11 = (gI g268538 231 11).toInt := rfl
                  first | (clear x300759 x300773 x310781 x310782 hr300755 c300761_ zv214820 zv214862 zv300750; exact ⟨_, rfl, hI311421, hF311425, _, rfl, by omega, ⟨(fun i i0 i1 i2 => ((eA_c (hF311422.2.1 233 ma_X11_tell_231_233)).trans ((eA_sA_ne (i := i) hI311389.1 ka_233 (by omega) (by omega) (by omega)).trans ((q311402 i i0 i1).trans (eA_c (((hF300753.2.1 233 ma_X11_isSign_231_233).trans (q268547.2.1 233 (by decide))))))))), by omega, Or.inr ⟨show (eA g0 233 2).toInt ≠ 6 from by omega, ⟨_, hskp0, Or.inl ⟨by omega, CLM.fin q268555 (show (gI g268538 231 14).toInt = 0 from by omega) (TKM.someC q268554 ((q268547.2.1 236 (by decide))) ((q268547.1 231 8 (by decide)))).choose_spec (by omega) (show (gI _ 231 13).toInt = (gI g268538 231 13).toInt from (by first | exact x311435.trans tv311432.symm | omega))⟩⟩, Or.inr ⟨show _ = (eA g0 233 2).toInt from by omega, by omega, show (eA _ 233 2).toInt = (eA g0 233 2).toInt + 1 from by omega⟩⟩⟩⟩) | exact ⟨_, rfl, hI311421, hF311425, _, rfl, by omega, ⟨(fun i i0 i1 i2 => ((eA_c (hF311422.2.1 233 ma_X11_tell_231_233)).trans ((eA_sA_ne (i := i) hI311389.1 ka_233 (by omega) (by omega) (by omega)).trans ((q311402 i i0 i1).trans (eA_c (((hF300753.2.1 233 ma_X11_isSign_231_233).trans (q268547.2.1 233 (by decide))))))))), by omega, Or.inr ⟨show (eA g0 233 2).toInt ≠ 6 from by omega, ⟨_, hskp0, Or.inl ⟨by omega, CLM.fin q268555 (show (gI g268538 231 14).toInt = 0 from by omega) (TKM.someC q268554 ((q268547.2.1 236 (by decide))) ((q268547.1 231 8 (by decide)))).choose_spec (by omega) (show (gI _ 231 13).toInt = (gI g268538 231 13).toInt from (by first | exact x311435.trans tv311432.symm | omega))⟩⟩, Or.inr ⟨show _ = (eA g0 233 2).toInt from by omega, by omega, show (eA _ 233 2).toInt = (eA g0 233 2).toInt + 1 from by omega⟩⟩⟩⟩
                · have c311412_ : x311387.toInt < v268575.toInt := en_i_ge_f c311412
                  refine At.enter rfl ?_
                  refine r_aload_n e311395 ?_
                  refine q_getR (Sh.ref hI311389.1 kx_231 rfl) ?_
                  refine r_iload_n e311396 ?_
                  refine r_bipush 98 rfl ?_
                  refine q_iadd (v300769.toInt + 98) rfl (by omega) (fun v311437 hv311437 => ?_)
                  refine r_iconst 2 rfl ?_
                  refine r_iload_n e311397 ?_
                  refine q_imul (2 * x311387.toInt) rfl (by omega) (fun v311438 hv311438 => ?_)
                  refine q_iadd (v311437.toInt + v311438.toInt) rfl (by omega) (fun v311439 hv311439 => ?_)
                  refine r_aload_n e311395 ?_
                  refine q_getR (Sh.ref hI311389.1 kx_231 rfl) ?_
                  refine r_iload_n e311397 ?_
                  obtain ⟨v311440, hv311440⟩ : ∃ v, eA g268538 238 x311387.toInt = v := ⟨_, rfl⟩
                  refine q_iald (Sh.arr hI311389.1 ka_238) x311387.toInt rfl (by omega) v311440 ((eA_c ((q311399.2.1 238 (by decide)).trans (hF300753.2.1 238 ma_X11_isSign_231_238))).trans hv311440) ?_
                  refine q_iast (Sh.arr hI311389.1 ka_233) ((900 * v214810.toInt + 2 * x311387.toInt + 208)) (by omega) (by omega) ?_
                  have x311443 := HI.eqA hI311389 (p := 233) (j := 2) (((q311402 2 (by decide) (by decide)).trans (((eA_c (hF300753.2.1 233 ma_X11_isSign_231_233)).trans (eA_c (q268547.2.1 233 (by decide)))).trans hv214810)))
                  have hI311441 := HI.wfree hI311389 (j := (900 * v214810.toInt + 2 * x311387.toInt + 208)) (v := v311440) ⟨by omega, by omega⟩
                  have hF311442 := Fr.wA (p := 233) (j := (900 * v214810.toInt + 2 * x311387.toInt + 208)) (v := v311440) hF311390 rfl
                  refine r_aload_n e311395 ?_
                  refine q_getR (Sh.ref hI311441.1 kx_231 rfl) ?_
                  refine r_iload_n e311396 ?_
                  refine r_bipush 98 rfl ?_
                  refine q_iadd (v300769.toInt + 98) rfl (by omega) (fun v311444 hv311444 => ?_)
                  refine r_iconst 2 rfl ?_
                  refine r_iload_n e311397 ?_
                  refine q_imul (2 * x311387.toInt) rfl (by omega) (fun v311445 hv311445 => ?_)
                  refine q_iadd (v311444.toInt + v311445.toInt) rfl (by omega) (fun v311446 hv311446 => ?_)
                  refine r_iconst 1 rfl ?_
                  refine q_iadd (v311446.toInt + 1) rfl (by omega) (fun v311447 hv311447 => ?_)
                  refine r_aload_n e311395 ?_
                  refine q_getR (Sh.ref hI311441.1 kx_231 rfl) ?_
                  refine r_iload_n e311397 ?_
                  obtain ⟨v311448, hv311448⟩ : ∃ v, eA g268538 239 x311387.toInt = v := ⟨_, rfl⟩
                  refine q_iald (Sh.arr hI311441.1 ka_239) x311387.toInt rfl (by omega) v311448 ((eA_c ((gA_sA_ne (by decide)).trans ((q311399.2.1 239 (by decide)).trans (hF300753.2.1 239 ma_X11_isSign_231_239)))).trans hv311448) ?_
                  refine q_iast (Sh.arr hI311441.1 ka_233) ((900 * v214810.toInt + 2 * x311387.toInt + 209)) (by omega) (by omega) ?_
                  have x311451 := HI.eqA hI311441 (p := 233) (j := 2) (((eA_sA_ne hI311389.1 ka_233 (by first | decide | omega) (by first | decide | omega) (by first | decide | omega)).trans ((q311402 2 (by decide) (by decide)).trans (((eA_c (hF300753.2.1 233 ma_X11_isSign_231_233)).trans (eA_c (q268547.2.1 233 (by decide)))).trans hv214810))))
                  have hI311449 := HI.wfree hI311441 (j := (900 * v214810.toInt + 2 * x311387.toInt + 209)) (v := v311448) ⟨by omega, by omega⟩
                  have hF311450 := Fr.wA (p := 233) (j := (900 * v214810.toInt + 2 * x311387.toInt + 209)) (v := v311448) hF311442 rfl
                  refine q_iinc e311397 (x311387.toInt + 1) rfl (by omega) (fun v311452 hv311452 => ?_)
                  refine r_goto ?_
                  exact ih311393 (400 - v311452.toInt) _ _ ⟨v311452, by first | rfl | omega, hI311449, hF311450, (((gI_sW).trans (gI_sW)).trans e311394), (w_p1 (by decide) (Or.inr rfl) e311395), (w_p1 (by decide) (Or.inr rfl) e311396), (w_e1 _ _ _), by omega, (Fr.wA (p := 233) (Fr.wA (p := 233) q311399 rfl) rfl), ((congrArg Int32.toInt (((eA_sA_ne (i := v300769.toInt + 1) hI311441.1 ka_233 (by omega) (by omega) (by omega)).trans (eA_sA_ne (i := v300769.toInt + 1) hI311389.1 ka_233 (by omega) (by omega) (by omega))))).trans q311400), (fun i i0 i1 => (congrArg Int32.toInt (((eA_sA_ne (i := v300769.toInt + 2 + i) hI311441.1 ka_233 (by omega) (by omega) (by omega)).trans (eA_sA_ne (i := v300769.toInt + 2 + i) hI311389.1 ka_233 (by omega) (by omega) (by omega))))).trans (q311401 i i0 i1)), (fun i i0 i1 => (((eA_sA_ne (i := i) hI311441.1 ka_233 (by omega) (by omega) (by omega)).trans (eA_sA_ne (i := i) hI311389.1 ka_233 (by omega) (by omega) (by omega)))).trans (q311402 i i0 i1)), (fun i i0 i1 => (Decidable.em (i = x311387.toInt)).elim (fun e => by rw [e]; exact ⟨((congrArg Int32.toInt ((eA_sA_ne (i := v300769.toInt + 98 + 2 * x311387.toInt) hI311441.1 ka_233 (by omega) (by omega) (by omega)).trans (eA_sA_eq hI311389.1 ka_233 (by omega) (by omega) (by omega)))).trans (congrArg Int32.toInt ((eA_c ((hF300753.2.1 238 ma_X11_isSign_231_238))).trans hv311440)).symm), ((congrArg Int32.toInt (eA_sA_eq hI311441.1 ka_233 (by omega) (by omega) (by omega))).trans (congrArg Int32.toInt ((eA_c ((hF300753.2.1 239 ma_X11_isSign_231_239))).trans hv311448)).symm)⟩) (fun e => ⟨(congrArg Int32.toInt (((eA_sA_ne (i := v300769.toInt + 98 + 2 * i) hI311441.1 ka_233 (by omega) (by omega) (by omega)).trans (eA_sA_ne (i := v300769.toInt + 98 + 2 * i) hI311389.1 ka_233 (by omega) (by omega) (by omega))))).trans (q311403 i i0 (by omega)).1, (congrArg Int32.toInt (((eA_sA_ne (i := v300769.toInt + 98 + 2 * i + 1) hI311441.1 ka_233 (by omega) (by omega) (by omega)).trans (eA_sA_ne (i := v300769.toInt + 98 + 2 * i + 1) hI311389.1 ka_233 (by omega) (by omega) (by omega))))).trans (q311403 i i0 (by omega)).2⟩))⟩ ⟨by omega, by omega⟩
              · have c310789_ : x310764.toInt < v310788.toInt := en_i_ge_f c310789
                refine At.enter rfl ?_
                refine r_aload_n e310772 ?_
                refine q_getR (Sh.ref hI310766.1 kx_231 rfl) ?_
                refine r_iload_n e310773 ?_
                refine r_iconst 2 rfl ?_
                refine q_iadd (v300769.toInt + 2) rfl (by omega) (fun v311453 hv311453 => ?_)
                refine r_iload_n e310774 ?_
                refine q_iadd (v311453.toInt + x310764.toInt) rfl (by omega) (fun v311454 hv311454 => ?_)
                refine r_aload_n e310772 ?_
                refine q_getR (Sh.ref hI310766.1 kx_231 rfl) ?_
                refine r_iload_n e310774 ?_
                obtain ⟨v311455, hv311455⟩ : ∃ v, eA g268538 237 x310764.toInt = v := ⟨_, rfl⟩
                refine q_iald (Sh.arr hI310766.1 ka_237) x310764.toInt rfl (by omega) v311455 ((eA_c ((q310776.2.1 237 (by decide)).trans (hF300753.2.1 237 ma_X11_isSign_231_237))).trans hv311455) ?_
                refine q_iast (Sh.arr hI310766.1 ka_233) ((900 * v214810.toInt + x310764.toInt + 112)) (by omega) (by omega) ?_
                have x311458 := HI.eqA hI310766 (p := 233) (j := 2) (((q310779 2 (by decide) (by decide)).trans (((eA_c (hF300753.2.1 233 ma_X11_isSign_231_233)).trans (eA_c (q268547.2.1 233 (by decide)))).trans hv214810)))
                have hI311456 := HI.wfree hI310766 (j := (900 * v214810.toInt + x310764.toInt + 112)) (v := v311455) ⟨by omega, by omega⟩
                have hF311457 := Fr.wA (p := 233) (j := (900 * v214810.toInt + x310764.toInt + 112)) (v := v311455) hF310767 rfl
                refine q_iinc e310774 (x310764.toInt + 1) rfl (by omega) (fun v311459 hv311459 => ?_)
                refine r_goto ?_
                exact ih310770 (96 - v311459.toInt) _ _ ⟨v311459, by first | rfl | omega, hI311456, hF311457, ((gI_sW).trans e310771), (w_p1 (by decide) (Or.inr rfl) e310772), (w_p1 (by decide) (Or.inr rfl) e310773), (w_e1 _ _ _), by omega, (Fr.wA (p := 233) q310776 rfl), ((congrArg Int32.toInt ((eA_sA_ne (i := v300769.toInt + 1) hI310766.1 ka_233 (by omega) (by omega) (by omega)))).trans q310777), (fun i i0 i1 => (Decidable.em (i = x310764.toInt)).elim (fun e => by rw [e]; exact (congrArg Int32.toInt (eA_sA_eq hI310766.1 ka_233 (by omega) (by omega) (by omega))).trans (congrArg Int32.toInt ((eA_c ((hF300753.2.1 237 ma_X11_isSign_231_237))).trans hv311455)).symm) (fun e => (congrArg Int32.toInt ((eA_sA_ne (i := v300769.toInt + 2 + i) hI310766.1 ka_233 (by omega) (by omega) (by omega)))).trans (q310778 i i0 (by omega)))), (fun i i0 i1 => ((eA_sA_ne (i := i) hI310766.1 ka_233 (by omega) (by omega) (by omega))).trans (q310779 i i0 i1))⟩ ⟨by omega, by omega⟩
            · have c300767_ : v268571.toInt ≠ 0 := en_k_eq_f c300767
              exfalso; omega
          · have c300764_ : v268569.toInt ≠ 0 := en_k_eq_f c300764
            refine At.enter rfl ?_
            refine r_aload_n e268545 ?_
            refine r_iconst 0 rfl ?_
            have x311460 := HI.eqI hI300752 (p := 231) (b := 8) ((((hF300753.1 231 8 mf_X11_isSign_231_231_8).trans (q268547.1 231 8 (by decide))).trans hv1))
            have x311461 := HI.eqI hI300752 (p := 231) (b := 9) (((hF300753.1 231 9 mf_X11_isSign_231_231_9).trans e268544))
            have x311462 := HI.eqI hI300752 (p := 231) (b := 10) (((hF300753.1 231 10 mf_X11_isSign_231_231_10).trans hv268567))
            have w26311464 := W26.cong q268552 hI300752 ((hF300753.1 231 9 mf_X11_isSign_231_231_9)) ((hF300753.1 231 10 mf_X11_isSign_231_231_10)) ((hF300753.1 231 11 mf_X11_isSign_231_231_11)) ((hF300753.2.2 231 12 mf_X11_isSign_231_231_12))
            refine r_callV 97 rfl [.ref 231, .int 0] [] (Nat.le_of_ble_eq_true rfl) rfl (T_X11_must_231 _ hI300752 0 (by decide) (by refine ⟨?_, ?_, ?_, ?_⟩ <;> omega) w26311464 (TKM.c q268554 ((hF300753.2.1 236 ma_X11_isSign_231_236)) ((hF300753.1 231 8 mf_X11_isSign_231_231_8)) ((hF300753.1 231 9 mf_X11_isSign_231_231_9)) ((hF300753.1 231 10 mf_X11_isSign_231_231_10)) ((hF300753.1 231 11 mf_X11_isSign_231_231_11)) ((hF300753.2.2 231 12 mf_X11_isSign_231_231_12)))) ?_
            rintro _ _ ⟨g311466, rfl, hI311467, hF311468, rfl, hr311470⟩
            refine At.stn ?_
            have hF311471 := Fr.tr hF300756 hF311468 rfl rfl
            have x311477 := HI.eqI hI300752 (p := 231) (b := 14) (((hF300753.1 231 14 mf_X11_isSign_231_231_14).trans hv268571))
            have x311478 := HI.eqI hI311467 (p := 231) (b := 8) ((((hF311468.1 231 8 mf_X11_must_231_231_8).trans ((hF300753.1 231 8 mf_X11_isSign_231_231_8).trans (q268547.1 231 8 (by decide)))).trans hv1))
            obtain ⟨v311479, hv311479⟩ : ∃ v, gI g311466 231 9 = v := ⟨_, rfl⟩
            have rv311479 := RgF.at hI311467.2.1 (p := 231) (b := 9) rfl
            rw [hv311479] at rv311479
            dsimp only at rv311479
            have tv311479 := congrArg Int32.toInt hv311479
            obtain ⟨v311481, hv311481⟩ : ∃ v, gI g311466 231 10 = v := ⟨_, rfl⟩
            have rv311481 := RgF.at hI311467.2.1 (p := 231) (b := 10) rfl
            rw [hv311481] at rv311481
            dsimp only at rv311481
            have tv311481 := congrArg Int32.toInt hv311481
            obtain ⟨v311483, hv311483⟩ : ∃ v, gI g311466 231 11 = v := ⟨_, rfl⟩
            have tv311483 := congrArg Int32.toInt hv311483
            obtain ⟨v311485, hv311485⟩ : ∃ v, gI g311466 231 14 = v := ⟨_, rfl⟩
            have tv311485 := congrArg Int32.toInt hv311485
            obtain ⟨c311487, c311488, c311489, c311490, c311491, c311492, c311493, c311494⟩ := hr311470
            obtain ⟨v311495, hv311495⟩ : ∃ v, gI g268538 231 13 = v := ⟨_, rfl⟩
            have tv311495 := congrArg Int32.toInt hv311495
            have x311496 := HI.eqI hI300752 (p := 231) (b := 13) (((hF300753.1 231 13 mf_X11_isSign_231_231_13).trans hv311495))
            obtain ⟨v311498, hv311498⟩ : ∃ v, gI g311466 231 13 = v := ⟨_, rfl⟩
            have tv311498 := congrArg Int32.toInt hv311498
            unfold MUSTP at c311494
            rw [TM.c ((hF300753.2.1 236 ma_X11_isSign_231_236)), nM.c ((hF300753.1 231 8 mf_X11_isSign_231_231_8)), pI.c (b := 14) ((hF300753.1 231 14 mf_X11_isSign_231_231_14)), pI.c (b := 13) ((hF300753.1 231 13 mf_X11_isSign_231_231_13)), pI.c (b := 10) ((hF300753.1 231 10 mf_X11_isSign_231_231_10)), pI.c (b := 9) ((hF300753.1 231 9 mf_X11_isSign_231_231_9))] at c311494
            have mu311500 : MUSTP g268538 g311466 0 := c311494
            clear c311494
            have hK311501 := mu311500.1
            refine At.enter rfl ?_
            refine r_aload_n e268545 ?_
            refine r_iconst 0 rfl ?_
            refine q_putI (Sh.int hI311467.1 kx_231 rfl) rfl ?_
            have hI311502 := HI.wI1 hI311467 kx_231 rfl (p := 231) (b := 8) (v := 0) rfl (by decide)
            have hF311503 := Fr.wI (p := 231) (b := 8) (v := 0) hF311471 rfl
            refine r_aload_n e268545 ?_
            refine q_getI (Sh.int hI311502.1 kx_231 rfl) v311485 ((gI_sI_ne (by decide)).trans hv311485) ?_
            refine r_ifs 109 rfl (fun c311504 => ?_) (fun c311504 => ?_)
            · have c311504_ : v311485.toInt = 0 := en_k_eq_t c311504
              obtain ⟨i311505, i311506, i311507⟩ := c311493 (by omega)
              obtain ⟨i311508, i311509⟩ := MUSTP.z mu311500 (by omega) (by omega)
              refine At.enter rfl ?_
              refine r_bipush 110 rfl ?_
              refine r_sipush 900 rfl ?_
              refine r_aload_n e268545 ?_
              refine q_getR (Sh.ref hI311502.1 kx_231 rfl) ?_
              refine r_iconst 2 rfl ?_
              refine q_iald (Sh.arr hI311502.1 ka_233) 2 rfl (by decide) v214810 ((eA_c ((gA_sI).trans ((hF311468.2.1 233 ma_X11_must_231_233).trans ((hF300753.2.1 233 ma_X11_isSign_231_233).trans (q268547.2.1 233 (by decide)))))).trans hv214810) ?_
              refine q_imul (900 * v214810.toInt) rfl (by omega) (fun v311510 hv311510 => ?_)
              refine q_iadd (110 + v311510.toInt) rfl (by omega) (fun v311511 hv311511 => ?_)
              refine r_istore_n _ rfl ?_
              refine r_aload_n (w_p1 (by decide) (Or.inr rfl) e268545) ?_
              refine q_getR (Sh.ref hI311502.1 kx_231 rfl) ?_
              refine r_iload_n (w_e1 _ _ _) ?_
              refine r_iconst 1 rfl ?_
              refine q_iadd (v311511.toInt + 1) rfl (by omega) (fun v311512 hv311512 => ?_)
              refine r_aload_n (w_p1 (by decide) (Or.inr rfl) e268545) ?_
              refine q_getI (Sh.int hI311502.1 kx_231 rfl) v268573 (((gI_sI_ne (by decide)).trans ((hF311468.1 231 15 mf_X11_must_231_231_15).trans (hF300753.1 231 15 mf_X11_isSign_231_231_15))).trans hv268573) ?_
              refine q_iast (Sh.arr hI311502.1 ka_233) ((900 * v214810.toInt + 111)) (by omega) (by omega) ?_
              have x311515 := HI.eqA hI311502 (p := 233) (j := 2) ((((eA_c gA_sI).trans ((eA_c (hF311468.2.1 233 ma_X11_must_231_233)).trans ((eA_c (hF300753.2.1 233 ma_X11_isSign_231_233)).trans (eA_c (q268547.2.1 233 (by decide)))))).trans hv214810))
              have hI311513 := HI.wfree hI311502 (j := (900 * v214810.toInt + 111)) (v := v268573) ⟨by omega, by omega⟩
              have hF311514 := Fr.wA (p := 233) (j := (900 * v214810.toInt + 111)) (v := v268573) hF311503 rfl
              refine r_iconst 0 rfl ?_
              refine r_istore_n _ rfl ?_
              refine Ar.fall 144 rfl ?_
              have x321523 := HI.eqI hI311467 (p := 231) (b := 15) ((((hF311468.1 231 15 mf_X11_must_231_231_15).trans (hF300753.1 231 15 mf_X11_isSign_231_231_15)).trans hv268573))
              have x321524 := HI.eqI hI311467 (p := 231) (b := 17) ((((hF311468.1 231 17 mf_X11_must_231_231_17).trans (hF300753.1 231 17 mf_X11_isSign_231_231_17)).trans hv268575))
              refine w_loopI (fun n_ l_ g_ => ∃ x321506 : Int32, n_ = 96 - x321506.toInt ∧ HI g_ ∧ Fr F_X11_law_231 A_X11_law_231 g0 g_ ∧ gI g_ 231 8 = 0 ∧ en_get 0 l_ = some (.ref 231) ∧ en_get 1 l_ = some (.int v311511) ∧ en_get 2 l_ = some (.int x321506) ∧ (0 ≤ x321506.toInt ∧ x321506.toInt ≤ 96) ∧ (Fr [(231, 8)] [233] g311466 g_) ∧ ((eA g_ 233 (v311511.toInt + 1)).toInt = (gI g311466 231 15).toInt) ∧ (∀ i : Int, 0 ≤ i → i < x321506.toInt → (eA g_ 233 (v311511.toInt + 2 + i)).toInt = (eA g311466 237 i).toInt) ∧ (∀ i : Int, 0 ≤ i → i < 110 → eA g_ 233 i = eA g311466 233 i)) ?_ (96 - 0) ⟨0, by first | rfl | omega, hI311513, hF311514, ((gI_sW).trans (gI_sI_eq hI311467.1 kx_231 rfl _)), (w_p1 (by decide) (Or.inr rfl) (w_p1 (by decide) (Or.inr rfl) e268545)), (w_p1 (by decide) (Or.inr rfl) (w_e1 _ _ _)), (w_e1 _ _ _), by decide, (Fr.wA (p := 233) (Fr.wI (p := 231) (b := 8) Fr.rf rfl) rfl), ((congrArg Int32.toInt (eA_sA_eq hI311502.1 ka_233 (by omega) (by omega) (by omega))).trans (by omega)), (fun i i0 i1 => absurd i1 (by omega)), (fun i i0 i1 => ((eA_sA_ne (i := i) hI311502.1 ka_233 (by omega) (by omega) (by omega)).trans (eA_c gA_sI)))⟩
              rintro n321511 l321510 g321507 ⟨x321506, hm321525, hI321508, hF321509, e321513, e321514, e321515, e321516, r321517, q321518, q321519, q321520, q321521⟩ ih321512
              have tv321526 := congrArg Int32.toInt e321513
              have t321529 := congrArg Int32.toInt ((q321521 2 (by decide) (by decide)).trans (((eA_c (hF311468.2.1 233 ma_X11_must_231_233)).trans ((eA_c (hF300753.2.1 233 ma_X11_isSign_231_233)).trans (eA_c (q268547.2.1 233 (by decide))))).trans hv214810))
              refine At.enter rfl ?_
              refine r_iload_n e321516 ?_
              refine r_bipush 8 rfl ?_
              refine r_aload_n e321514 ?_
              refine q_getI (Sh.int hI321508.1 kx_231 rfl) v268573 (((q321518.1 231 15 (by decide)).trans ((hF311468.1 231 15 mf_X11_must_231_231_15).trans (hF300753.1 231 15 mf_X11_isSign_231_231_15))).trans hv268573) ?_
              refine q_imul (8 * v268573.toInt) rfl (by omega) (fun v321530 hv321530 => ?_)
              have bv321532 := q_bnd x321506
              have bv321533 := q_bnd v321530
              refine r_ics 155 rfl (fun c321531 => ?_) (fun c321531 => ?_)
              · have c321531_ : x321506.toInt ≥ v321530.toInt := en_i_ge_t c321531
                refine At.enter rfl ?_
                refine r_iconst 0 rfl ?_
                refine r_istore_n _ rfl ?_
                refine Ar.fall 179 rfl ?_
                refine w_loopI (fun n_ l_ g_ => ∃ x322129 : Int32, n_ = 400 - x322129.toInt ∧ HI g_ ∧ Fr F_X11_law_231 A_X11_law_231 g0 g_ ∧ gI g_ 231 8 = 0 ∧ en_get 0 l_ = some (.ref 231) ∧ en_get 1 l_ = some (.int v311511) ∧ en_get 2 l_ = some (.int x322129) ∧ (0 ≤ x322129.toInt ∧ x322129.toInt ≤ 400) ∧ (Fr [(231, 8)] [233] g311466 g_) ∧ ((eA g_ 233 (v311511.toInt + 1)).toInt = (gI g311466 231 15).toInt) ∧ (∀ i : Int, 0 ≤ i → i < 8 * (gI g311466 231 15).toInt → (eA g_ 233 (v311511.toInt + 2 + i)).toInt = (eA g311466 237 i).toInt) ∧ (∀ i : Int, 0 ≤ i → i < 110 → eA g_ 233 i = eA g311466 233 i) ∧ (∀ i : Int, 0 ≤ i → i < x322129.toInt → (eA g_ 233 (v311511.toInt + 98 + 2 * i)).toInt = (eA g311466 238 i).toInt ∧ (eA g_ 233 (v311511.toInt + 98 + 2 * i + 1)).toInt = (eA g311466 239 i).toInt)) ?_ (400 - 0) ⟨0, by first | rfl | omega, hI321508, hF321509, e321513, (w_p1 (by decide) (Or.inr rfl) e321514), (w_p1 (by decide) (Or.inr rfl) e321515), (w_e1 _ _ _), by decide, (Fr.tr Fr.rf q321518 rfl rfl), ((congrArg Int32.toInt (rfl)).trans q321519), (fun i i0 i1 => q321520 i i0 (by omega)), (fun i i0 i1 => (rfl).trans (q321521 i i0 i1)), (fun i i0 i1 => absurd i1 (by omega))⟩
                rintro n322134 l322133 g322130 ⟨x322129, hm322149, hI322131, hF322132, e322136, e322137, e322138, e322139, r322140, q322141, q322142, q322143, q322144, q322145⟩ ih322135
                have tv322150 := congrArg Int32.toInt e322136
                have t322153 := congrArg Int32.toInt ((q322144 2 (by decide) (by decide)).trans (((eA_c (hF311468.2.1 233 ma_X11_must_231_233)).trans ((eA_c (hF300753.2.1 233 ma_X11_isSign_231_233)).trans (eA_c (q268547.2.1 233 (by decide))))).trans hv214810))
                refine At.enter rfl ?_
                refine r_iload_n e322139 ?_
                refine r_aload_n e322137 ?_
                refine q_getI (Sh.int hI322131.1 kx_231 rfl) v268575 (((q322141.1 231 17 (by decide)).trans ((hF311468.1 231 17 mf_X11_must_231_231_17).trans (hF300753.1 231 17 mf_X11_isSign_231_231_17))).trans hv268575) ?_
                have bv322155 := q_bnd x322129
                have bv322156 := q_bnd v268575
                refine r_ics 187 rfl (fun c322154 => ?_) (fun c322154 => ?_)
                · have c322154_ : x322129.toInt ≥ v268575.toInt := en_i_ge_t c322154
                  refine At.enter rfl ?_
                  refine r_aload_n e322137 ?_
                  refine q_getR (Sh.ref hI322131.1 kx_231 rfl) ?_
                  refine r_iconst 2 rfl ?_
                  refine r_dup2 ⟨rfl, rfl⟩ ?_
                  refine q_iald (Sh.arr hI322131.1 ka_233) 2 rfl (by decide) v214810 ((q322144 2 (by decide) (by decide)).trans (((eA_c (hF311468.2.1 233 ma_X11_must_231_233)).trans ((eA_c (hF300753.2.1 233 ma_X11_isSign_231_233)).trans (eA_c (q268547.2.1 233 (by decide))))).trans hv214810)) ?_
                  refine r_iconst 1 rfl ?_
                  refine q_iadd (v214810.toInt + 1) rfl (by omega) (fun v322157 hv322157 => ?_)
                  refine q_iast (Sh.arr hI322131.1 ka_233) (2) rfl (by decide) ?_
                  have x322160 := HI.eqA hI322131 (p := 233) (j := 2) (((q322144 2 (by decide) (by decide)).trans (((eA_c (hF311468.2.1 233 ma_X11_must_231_233)).trans ((eA_c (hF300753.2.1 233 ma_X11_isSign_231_233)).trans (eA_c (q268547.2.1 233 (by decide))))).trans hv214810)))
                  have hI322158 := HI.wt2 hI322131 (v := v322157) (by omega) (by omega) (by rw [show 110 + 900 * (eA _ 233 2).toInt = v311511.toInt by omega]; exact LAW.mk (CLS.cong2 (q268553 (by omega)).2 hI311467 (((hF311468.2.1 238 ma_X11_must_231_238).trans (hF300753.2.1 238 ma_X11_isSign_231_238))) (((hF311468.2.1 239 ma_X11_must_231_239).trans (hF300753.2.1 239 ma_X11_isSign_231_239))) (((hF311468.2.1 237 ma_X11_must_231_237).trans (hF300753.2.1 237 ma_X11_isSign_231_237))) (((hF311468.1 231 15 mf_X11_must_231_231_15).trans (hF300753.1 231 15 mf_X11_isSign_231_231_15))) (((hF311468.1 231 17 mf_X11_must_231_231_17).trans (hF300753.1 231 17 mf_X11_isSign_231_231_17)))) ⟨by omega, by omega⟩ (by omega) q322142 q322143 (fun i i0 i1 => q322145 i i0 (by omega)))
                  have hF322159 := Fr.wA (p := 233) (j := 2) (v := v322157) hF322132 rfl
                  refine r_aload_n e322137 ?_
                  refine r_aload_n e322137 ?_
                  refine q_getR (Sh.ref hI322158.1 kx_231 rfl) ?_
                  refine r_iconst 2 rfl ?_
                  refine q_iald (Sh.arr hI322158.1 ka_233) 2 rfl (by decide) v322157 (eA_sA_eq hI322131.1 ka_233 (by first | rfl | omega) (by first | decide | omega) (by first | decide | omega)) ?_
                  refine r_iconst 1 rfl ?_
                  refine q_isub (v322157.toInt - 1) rfl (by omega) (fun v322161 hv322161 => ?_)
                  refine r_callV 255 rfl [.ref 231, .int v322161] [] (Nat.le_of_ble_eq_true rfl) rfl (T_X11_tell_231 _ hI322158 v322161 (by omega)) ?_
                  rintro _ _ ⟨g322162, rfl, hI322163, hF322164, v322165, rfl, hr322166⟩
                  refine At.sti ?_
                  have hF322167 := Fr.tr hF322159 hF322164 rfl rfl
                  refine At.enter rfl ?_
                  refine r_ireti ?_
                  have x322168 := HI.eqI hI322163 (p := 231) (b := 8) ((((hF322164.1 231 8 mf_X11_tell_231_231_8).trans (gI_sW)).trans e322136))
                  have x322170 := HI.eqA hI0 (p := 233) (j := 2) (hv214810)
                  have x322171 := HI.eqA hI322163 (p := 233) (j := 2) (((eA_c (hF322164.2.1 233 ma_X11_tell_231_233)).trans (eA_sA_eq hI322131.1 ka_233 (by first | rfl | omega) (by first | decide | omega) (by first | decide | omega))))
                  have x322176 := HI.eqI hI322163 (p := 231) (b := 13) ((((hF322164.1 231 13 mf_X11_tell_231_231_13).trans ((gI_sW).trans (q322141.1 231 13 (by decide)))).trans hv311498))
                  have ce := CDM.end_ q268554
                  have y322177 : pI g268538 11 = (gI g268538 231 11).toInt := rfl
                  have y322178 : (gI g311466 231 13).toInt = (gI g268538 231 9).toInt := (mu311500.2.2.1 (show (gI g268538 231 14).toInt = 0 from by omega) (by omega)).2
                  exact ⟨_, rfl, hI322163, hF322167, _, rfl, by omega, ⟨(fun i i0 i1 i2 => ((eA_c (hF322164.2.1 233 ma_X11_tell_231_233)).trans ((eA_sA_ne (i := i) hI322131.1 ka_233 (by omega) (by omega) (by omega)).trans ((q322144 i i0 i1).trans (eA_c (((hF311468.2.1 233 ma_X11_must_231_233).trans ((hF300753.2.1 233 ma_X11_isSign_231_233).trans (q268547.2.1 233 (by decide)))))))))), by omega, Or.inr ⟨show (eA g0 233 2).toInt ≠ 6 from by omega, ⟨_, hskp0, Or.inl ⟨by omega, CLM.fin q268555 (show (gI g268538 231 14).toInt = 0 from by omega) (TKM.someC q268554 ((q268547.2.1 236 (by decide))) ((q268547.1 231 8 (by decide)))).choose_spec (by omega) (show (gI _ 231 13).toInt = (gI g268538 231 13).toInt from by omega)⟩⟩, Or.inr ⟨show _ = (eA g0 233 2).toInt from by omega, by omega, show (eA _ 233 2).toInt = (eA g0 233 2).toInt + 1 from by omega⟩⟩⟩⟩
                · have c322154_ : x322129.toInt < v268575.toInt := en_i_ge_f c322154
                  refine At.enter rfl ?_
                  refine r_aload_n e322137 ?_
                  refine q_getR (Sh.ref hI322131.1 kx_231 rfl) ?_
                  refine r_iload_n e322138 ?_
                  refine r_bipush 98 rfl ?_
                  refine q_iadd (v311511.toInt + 98) rfl (by omega) (fun v322180 hv322180 => ?_)
                  refine r_iconst 2 rfl ?_
                  refine r_iload_n e322139 ?_
                  refine q_imul (2 * x322129.toInt) rfl (by omega) (fun v322181 hv322181 => ?_)
                  refine q_iadd (v322180.toInt + v322181.toInt) rfl (by omega) (fun v322182 hv322182 => ?_)
                  refine r_aload_n e322137 ?_
                  refine q_getR (Sh.ref hI322131.1 kx_231 rfl) ?_
                  refine r_iload_n e322139 ?_
                  obtain ⟨v322183, hv322183⟩ : ∃ v, eA g268538 238 x322129.toInt = v := ⟨_, rfl⟩
                  refine q_iald (Sh.arr hI322131.1 ka_238) x322129.toInt rfl (by omega) v322183 ((eA_c ((q322141.2.1 238 (by decide)).trans ((hF311468.2.1 238 ma_X11_must_231_238).trans (hF300753.2.1 238 ma_X11_isSign_231_238)))).trans hv322183) ?_
                  refine q_iast (Sh.arr hI322131.1 ka_233) ((900 * v214810.toInt + 2 * x322129.toInt + 208)) (by omega) (by omega) ?_
                  have x322186 := HI.eqA hI322131 (p := 233) (j := 2) (((q322144 2 (by decide) (by decide)).trans (((eA_c (hF311468.2.1 233 ma_X11_must_231_233)).trans ((eA_c (hF300753.2.1 233 ma_X11_isSign_231_233)).trans (eA_c (q268547.2.1 233 (by decide))))).trans hv214810)))
                  have hI322184 := HI.wfree hI322131 (j := (900 * v214810.toInt + 2 * x322129.toInt + 208)) (v := v322183) ⟨by omega, by omega⟩
                  have hF322185 := Fr.wA (p := 233) (j := (900 * v214810.toInt + 2 * x322129.toInt + 208)) (v := v322183) hF322132 rfl
                  refine r_aload_n e322137 ?_
                  refine q_getR (Sh.ref hI322184.1 kx_231 rfl) ?_
                  refine r_iload_n e322138 ?_
                  refine r_bipush 98 rfl ?_
                  refine q_iadd (v311511.toInt + 98) rfl (by omega) (fun v322187 hv322187 => ?_)
                  refine r_iconst 2 rfl ?_
                  refine r_iload_n e322139 ?_
                  refine q_imul (2 * x322129.toInt) rfl (by omega) (fun v322188 hv322188 => ?_)
                  refine q_iadd (v322187.toInt + v322188.toInt) rfl (by omega) (fun v322189 hv322189 => ?_)
                  refine r_iconst 1 rfl ?_
                  refine q_iadd (v322189.toInt + 1) rfl (by omega) (fun v322190 hv322190 => ?_)
                  refine r_aload_n e322137 ?_
                  refine q_getR (Sh.ref hI322184.1 kx_231 rfl) ?_
                  refine r_iload_n e322139 ?_
                  obtain ⟨v322191, hv322191⟩ : ∃ v, eA g268538 239 x322129.toInt = v := ⟨_, rfl⟩
                  refine q_iald (Sh.arr hI322184.1 ka_239) x322129.toInt rfl (by omega) v322191 ((eA_c ((gA_sA_ne (by decide)).trans ((q322141.2.1 239 (by decide)).trans ((hF311468.2.1 239 ma_X11_must_231_239).trans (hF300753.2.1 239 ma_X11_isSign_231_239))))).trans hv322191) ?_
                  refine q_iast (Sh.arr hI322184.1 ka_233) ((900 * v214810.toInt + 2 * x322129.toInt + 209)) (by omega) (by omega) ?_
                  have x322194 := HI.eqA hI322184 (p := 233) (j := 2) (((eA_sA_ne hI322131.1 ka_233 (by first | decide | omega) (by first | decide | omega) (by first | decide | omega)).trans ((q322144 2 (by decide) (by decide)).trans (((eA_c (hF311468.2.1 233 ma_X11_must_231_233)).trans ((eA_c (hF300753.2.1 233 ma_X11_isSign_231_233)).trans (eA_c (q268547.2.1 233 (by decide))))).trans hv214810))))
                  have hI322192 := HI.wfree hI322184 (j := (900 * v214810.toInt + 2 * x322129.toInt + 209)) (v := v322191) ⟨by omega, by omega⟩
                  have hF322193 := Fr.wA (p := 233) (j := (900 * v214810.toInt + 2 * x322129.toInt + 209)) (v := v322191) hF322185 rfl
                  refine q_iinc e322139 (x322129.toInt + 1) rfl (by omega) (fun v322195 hv322195 => ?_)
                  refine r_goto ?_
                  exact ih322135 (400 - v322195.toInt) _ _ ⟨v322195, by first | rfl | omega, hI322192, hF322193, (((gI_sW).trans (gI_sW)).trans e322136), (w_p1 (by decide) (Or.inr rfl) e322137), (w_p1 (by decide) (Or.inr rfl) e322138), (w_e1 _ _ _), by omega, (Fr.wA (p := 233) (Fr.wA (p := 233) q322141 rfl) rfl), ((congrArg Int32.toInt (((eA_sA_ne (i := v311511.toInt + 1) hI322184.1 ka_233 (by omega) (by omega) (by omega)).trans (eA_sA_ne (i := v311511.toInt + 1) hI322131.1 ka_233 (by omega) (by omega) (by omega))))).trans q322142), (fun i i0 i1 => (congrArg Int32.toInt (((eA_sA_ne (i := v311511.toInt + 2 + i) hI322184.1 ka_233 (by omega) (by omega) (by omega)).trans (eA_sA_ne (i := v311511.toInt + 2 + i) hI322131.1 ka_233 (by omega) (by omega) (by omega))))).trans (q322143 i i0 i1)), (fun i i0 i1 => (((eA_sA_ne (i := i) hI322184.1 ka_233 (by omega) (by omega) (by omega)).trans (eA_sA_ne (i := i) hI322131.1 ka_233 (by omega) (by omega) (by omega)))).trans (q322144 i i0 i1)), (fun i i0 i1 => (Decidable.em (i = x322129.toInt)).elim (fun e => by rw [e]; exact ⟨((congrArg Int32.toInt ((eA_sA_ne (i := v311511.toInt + 98 + 2 * x322129.toInt) hI322184.1 ka_233 (by omega) (by omega) (by omega)).trans (eA_sA_eq hI322131.1 ka_233 (by omega) (by omega) (by omega)))).trans (congrArg Int32.toInt ((eA_c (((hF311468.2.1 238 ma_X11_must_231_238).trans (hF300753.2.1 238 ma_X11_isSign_231_238)))).trans hv322183)).symm), ((congrArg Int32.toInt (eA_sA_eq hI322184.1 ka_233 (by omega) (by omega) (by omega))).trans (congrArg Int32.toInt ((eA_c (((hF311468.2.1 239 ma_X11_must_231_239).trans (hF300753.2.1 239 ma_X11_isSign_231_239)))).trans hv322191)).symm)⟩) (fun e => ⟨(congrArg Int32.toInt (((eA_sA_ne (i := v311511.toInt + 98 + 2 * i) hI322184.1 ka_233 (by omega) (by omega) (by omega)).trans (eA_sA_ne (i := v311511.toInt + 98 + 2 * i) hI322131.1 ka_233 (by omega) (by omega) (by omega))))).trans (q322145 i i0 (by omega)).1, (congrArg Int32.toInt (((eA_sA_ne (i := v311511.toInt + 98 + 2 * i + 1) hI322184.1 ka_233 (by omega) (by omega) (by omega)).trans (eA_sA_ne (i := v311511.toInt + 98 + 2 * i + 1) hI322131.1 ka_233 (by omega) (by omega) (by omega))))).trans (q322145 i i0 (by omega)).2⟩))⟩ ⟨by omega, by omega⟩
              · have c321531_ : x321506.toInt < v321530.toInt := en_i_ge_f c321531
                refine At.enter rfl ?_
                refine r_aload_n e321514 ?_
                refine q_getR (Sh.ref hI321508.1 kx_231 rfl) ?_
                refine r_iload_n e321515 ?_
                refine r_iconst 2 rfl ?_
                refine q_iadd (v311511.toInt + 2) rfl (by omega) (fun v322196 hv322196 => ?_)
                refine r_iload_n e321516 ?_
                refine q_iadd (v322196.toInt + x321506.toInt) rfl (by omega) (fun v322197 hv322197 => ?_)
                refine r_aload_n e321514 ?_
                refine q_getR (Sh.ref hI321508.1 kx_231 rfl) ?_
                refine r_iload_n e321516 ?_
                obtain ⟨v322198, hv322198⟩ : ∃ v, eA g268538 237 x321506.toInt = v := ⟨_, rfl⟩
                refine q_iald (Sh.arr hI321508.1 ka_237) x321506.toInt rfl (by omega) v322198 ((eA_c ((q321518.2.1 237 (by decide)).trans ((hF311468.2.1 237 ma_X11_must_231_237).trans (hF300753.2.1 237 ma_X11_isSign_231_237)))).trans hv322198) ?_
                refine q_iast (Sh.arr hI321508.1 ka_233) ((900 * v214810.toInt + x321506.toInt + 112)) (by omega) (by omega) ?_
                have x322201 := HI.eqA hI321508 (p := 233) (j := 2) (((q321521 2 (by decide) (by decide)).trans (((eA_c (hF311468.2.1 233 ma_X11_must_231_233)).trans ((eA_c (hF300753.2.1 233 ma_X11_isSign_231_233)).trans (eA_c (q268547.2.1 233 (by decide))))).trans hv214810)))
                have hI322199 := HI.wfree hI321508 (j := (900 * v214810.toInt + x321506.toInt + 112)) (v := v322198) ⟨by omega, by omega⟩
                have hF322200 := Fr.wA (p := 233) (j := (900 * v214810.toInt + x321506.toInt + 112)) (v := v322198) hF321509 rfl
                refine q_iinc e321516 (x321506.toInt + 1) rfl (by omega) (fun v322202 hv322202 => ?_)
                refine r_goto ?_
                exact ih321512 (96 - v322202.toInt) _ _ ⟨v322202, by first | rfl | omega, hI322199, hF322200, ((gI_sW).trans e321513), (w_p1 (by decide) (Or.inr rfl) e321514), (w_p1 (by decide) (Or.inr rfl) e321515), (w_e1 _ _ _), by omega, (Fr.wA (p := 233) q321518 rfl), ((congrArg Int32.toInt ((eA_sA_ne (i := v311511.toInt + 1) hI321508.1 ka_233 (by omega) (by omega) (by omega)))).trans q321519), (fun i i0 i1 => (Decidable.em (i = x321506.toInt)).elim (fun e => by rw [e]; exact (congrArg Int32.toInt (eA_sA_eq hI321508.1 ka_233 (by omega) (by omega) (by omega))).trans (congrArg Int32.toInt ((eA_c (((hF311468.2.1 237 ma_X11_must_231_237).trans (hF300753.2.1 237 ma_X11_isSign_231_237)))).trans hv322198)).symm) (fun e => (congrArg Int32.toInt ((eA_sA_ne (i := v311511.toInt + 2 + i) hI321508.1 ka_233 (by omega) (by omega) (by omega)))).trans (q321520 i i0 (by omega)))), (fun i i0 i1 => ((eA_sA_ne (i := i) hI321508.1 ka_233 (by omega) (by omega) (by omega))).trans (q321521 i i0 i1))⟩ ⟨by omega, by omega⟩
            · have c311504_ : v311485.toInt ≠ 0 := en_k_eq_f c311504
              clear c311493
              have i322203 := MUSTP.w mu311500 (by omega)
              refine At.enter rfl ?_
              refine r_aload_n e268545 ?_
              refine r_bipush (-6) rfl ?_
              refine r_callV 115 rfl [.ref 231, .int (-6)] [] (Nat.le_of_ble_eq_true rfl) rfl (T_X11_tell_231 _ hI311502 (-6) (by decide)) ?_
              rintro _ _ ⟨g322204, rfl, hI322205, hF322206, v322207, rfl, hr322208⟩
              refine At.sti ?_
              have hF322209 := Fr.tr hF311503 hF322206 rfl rfl
              have zv322210 : ((-6) : Int32).toInt = (-6) := rfl
              refine At.enter rfl ?_
              refine r_ireti ?_
              have x322211 := HI.eqI hI322205 (p := 231) (b := 8) (((hF322206.1 231 8 mf_X11_tell_231_231_8).trans (gI_sI_eq hI311467.1 kx_231 rfl _)))
              have x322213 := HI.eqA hI0 (p := 233) (j := 2) (hv214810)
              have x322214 := HI.eqA hI322205 (p := 233) (j := 2) ((((eA_c (hF322206.2.1 233 ma_X11_tell_231_233)).trans ((eA_c gA_sI).trans ((eA_c (hF311468.2.1 233 ma_X11_must_231_233)).trans ((eA_c (hF300753.2.1 233 ma_X11_isSign_231_233)).trans (eA_c (q268547.2.1 233 (by decide))))))).trans hv214810))
              have x322219 := HI.eqI hI322205 (p := 231) (b := 13) ((((hF322206.1 231 13 mf_X11_tell_231_231_13).trans (gI_sI_ne (by decide))).trans hv311498))
              have ce := CDM.end_ q268554
              have y322220 : pI g268538 11 = (gI g268538 231 11).toInt := rfl
              have y322221 : (gI g311466 231 13).toInt = (gI g268538 231 9).toInt := (mu311500.2.2.1 (show (gI g268538 231 14).toInt = 0 from by omega) (by omega)).2
              exact ⟨_, rfl, hI322205, hF322209, _, rfl, by omega, ⟨(fun i i0 i1 i2 => eA_c (((hF322206.2.1 233 ma_X11_tell_231_233).trans ((gA_sI).trans ((hF311468.2.1 233 ma_X11_must_231_233).trans ((hF300753.2.1 233 ma_X11_isSign_231_233).trans (q268547.2.1 233 (by decide)))))))), by omega, Or.inr ⟨show (eA g0 233 2).toInt ≠ 6 from by omega, ⟨_, hskp0, Or.inr ⟨by omega, CLM.faild q268555 (show (gI g268538 231 14).toInt = 0 from by omega) (TKM.someC q268554 ((q268547.2.1 236 (by decide))) ((q268547.1 231 8 (by decide)))).choose_spec (by omega) (by omega) (show (gI _ 231 13).toInt = (gI g268538 231 9).toInt from by omega)⟩⟩, Or.inl ⟨by omega, (show (eA _ 233 2).toInt = (eA g0 233 2).toInt from by omega)⟩⟩⟩⟩
      · have c300761_ : v300754.toInt ≠ 0 := en_k_eq_f c300761
        have i322223 := BL.yes hb300760 (by omega)
        refine At.enter rfl ?_
        refine r_aload_n e268545 ?_
        have x322224 := HI.eqI hI300752 (p := 231) (b := 8) ((((hF300753.1 231 8 mf_X11_isSign_231_231_8).trans (q268547.1 231 8 (by decide))).trans hv1))
        have x322225 := HI.eqI hI300752 (p := 231) (b := 10) (((hF300753.1 231 10 mf_X11_isSign_231_231_10).trans hv268567))
        refine r_callV 71 rfl [.ref 231] [] (Nat.le_of_ble_eq_true rfl) rfl (T_X11_next_231 _ hI300752 (by omega)) ?_
        rintro _ _ ⟨g322226, rfl, hI322227, hF322228, rfl, hr322230⟩
        refine At.stn ?_
        have hF322231 := Fr.tr hF300756 hF322228 rfl rfl
        have x322234 := HI.eqI hI322227 (p := 231) (b := 8) ((((hF322228.1 231 8 mf_X11_next_231_231_8).trans ((hF300753.1 231 8 mf_X11_isSign_231_231_8).trans (q268547.1 231 8 (by decide)))).trans hv1))
        obtain ⟨v322235, hv322235⟩ : ∃ v, gI g322226 231 9 = v := ⟨_, rfl⟩
        have rv322235 := RgF.at hI322227.2.1 (p := 231) (b := 9) rfl
        rw [hv322235] at rv322235
        dsimp only at rv322235
        have tv322235 := congrArg Int32.toInt hv322235
        obtain ⟨v322237, hv322237⟩ : ∃ v, gI g322226 231 10 = v := ⟨_, rfl⟩
        have rv322237 := RgF.at hI322227.2.1 (p := 231) (b := 10) rfl
        rw [hv322237] at rv322237
        dsimp only at rv322237
        have tv322237 := congrArg Int32.toInt hv322237
        obtain ⟨v322239, hv322239⟩ : ∃ v, gI g322226 231 11 = v := ⟨_, rfl⟩
        have tv322239 := congrArg Int32.toInt hv322239
        obtain ⟨c322241, c322242, c322243, c322244, c322245, c322246, c322247⟩ := hr322230
        have tok322248_ := c322247.2
        rw [TM.c ((hF300753.2.1 236 ma_X11_isSign_231_236)), nM.c ((hF300753.1 231 8 mf_X11_isSign_231_231_8)), pI.c (b := 10) ((hF300753.1 231 10 mf_X11_isSign_231_231_10))] at tok322248_
        have tok322248 := TKM.tok q268554 tok322248_
        rw [TM.c ((q268547.2.1 236 (by decide))), nM.c ((q268547.1 231 8 (by decide)))] at tok322248
        have hK322249 := c322247.1
        refine At.enter rfl ?_
        refine r_aload_n e268545 ?_
        have x322254 := HI.eqI hI322227 (p := 231) (b := 14) ((((hF322228.1 231 14 mf_X11_next_231_231_14).trans (hF300753.1 231 14 mf_X11_isSign_231_231_14)).trans hv268571))
        have x322255 := HI.eqI hI322227 (p := 231) (b := 15) ((((hF322228.1 231 15 mf_X11_next_231_231_15).trans (hF300753.1 231 15 mf_X11_isSign_231_231_15)).trans hv268573))
        have x322256 := HI.eqI hI322227 (p := 231) (b := 17) ((((hF322228.1 231 17 mf_X11_next_231_231_17).trans (hF300753.1 231 17 mf_X11_isSign_231_231_17)).trans hv268575))
        obtain ⟨v322257, hv322257⟩ : ∃ v, gI g268538 231 13 = v := ⟨_, rfl⟩
        have tv322257 := congrArg Int32.toInt hv322257
        have x322258 := HI.eqI hI322227 (p := 231) (b := 13) ((((hF322228.1 231 13 mf_X11_next_231_231_13).trans (hF300753.1 231 13 mf_X11_isSign_231_231_13)).trans hv322257))
        obtain ⟨v322259, hv322259⟩ : ∃ v, gI g268538 231 20 = v := ⟨_, rfl⟩
        have tv322259 := congrArg Int32.toInt hv322259
        have x322260 := HI.eqI hI322227 (p := 231) (b := 20) ((((hF322228.1 231 20 mf_X11_next_231_231_20).trans (hF300753.1 231 20 mf_X11_isSign_231_231_20)).trans hv322259))
        have y322261 := (q268553 (by omega)).1
        refine r_callV 75 rfl [.ref 231] [] (Nat.le_of_ble_eq_true rfl) rfl (T_X11_readClause_231 _ hI322227 (by refine ⟨?_, ?_, ?_, ?_⟩ <;> omega) (by omega) (by omega) c322246 (CLS.cong2 (q268553 (by omega)).2 hI322227 (((hF322228.2.1 238 ma_X11_next_231_238).trans (hF300753.2.1 238 ma_X11_isSign_231_238))) (((hF322228.2.1 239 ma_X11_next_231_239).trans (hF300753.2.1 239 ma_X11_isSign_231_239))) (((hF322228.2.1 237 ma_X11_next_231_237).trans (hF300753.2.1 237 ma_X11_isSign_231_237))) (((hF322228.1 231 15 mf_X11_next_231_231_15).trans (hF300753.1 231 15 mf_X11_isSign_231_231_15))) (((hF322228.1 231 17 mf_X11_next_231_231_17).trans (hF300753.1 231 17 mf_X11_isSign_231_231_17)))) hK322249) ?_
        rintro _ _ ⟨g322262, rfl, hI322263, hF322264, rfl, hr322266⟩
        refine At.stn ?_
        have hF322267 := Fr.tr hF322231 hF322264 rfl rfl
        have x322269 := HI.eqI hI322263 (p := 231) (b := 8) ((((hF322264.1 231 8 mf_X11_readClause_231_231_8).trans ((hF322228.1 231 8 mf_X11_next_231_231_8).trans ((hF300753.1 231 8 mf_X11_isSign_231_231_8).trans (q268547.1 231 8 (by decide))))).trans hv1))
        obtain ⟨v322270, hv322270⟩ : ∃ v, gI g322262 231 9 = v := ⟨_, rfl⟩
        have rv322270 := RgF.at hI322263.2.1 (p := 231) (b := 9) rfl
        rw [hv322270] at rv322270
        dsimp only at rv322270
        have tv322270 := congrArg Int32.toInt hv322270
        obtain ⟨v322272, hv322272⟩ : ∃ v, gI g322262 231 10 = v := ⟨_, rfl⟩
        have rv322272 := RgF.at hI322263.2.1 (p := 231) (b := 10) rfl
        rw [hv322272] at rv322272
        dsimp only at rv322272
        have tv322272 := congrArg Int32.toInt hv322272
        obtain ⟨v322274, hv322274⟩ : ∃ v, gI g322262 231 11 = v := ⟨_, rfl⟩
        have tv322274 := congrArg Int32.toInt hv322274
        obtain ⟨v322276, hv322276⟩ : ∃ v, gI g322262 231 14 = v := ⟨_, rfl⟩
        have tv322276 := congrArg Int32.toInt hv322276
        obtain ⟨v322278, hv322278⟩ : ∃ v, gI g322262 231 15 = v := ⟨_, rfl⟩
        have rv322278 := RgF.at hI322263.2.1 (p := 231) (b := 15) rfl
        rw [hv322278] at rv322278
        dsimp only at rv322278
        have tv322278 := congrArg Int32.toInt hv322278
        obtain ⟨v322280, hv322280⟩ : ∃ v, gI g322262 231 17 = v := ⟨_, rfl⟩
        have rv322280 := RgF.at hI322263.2.1 (p := 231) (b := 17) rfl
        rw [hv322280] at rv322280
        dsimp only at rv322280
        have tv322280 := congrArg Int32.toInt hv322280
        obtain ⟨c322282, c322283, c322284, c322285, c322286, c322287, c322288, c322289⟩ := hr322266
        have hK322290 := c322289.1
        obtain ⟨v322291, hv322291⟩ : ∃ v, gI g322262 231 13 = v := ⟨_, rfl⟩
        have tv322291 := congrArg Int32.toInt hv322291
        refine At.enter rfl ?_
        refine r_goto ?_
        exact ih268543 (400 - v322270.toInt) _ _ ⟨v322270, by first | rfl | omega, hI322263, hF322267, hv322270, e268545, by omega, (Fr.tr (Fr.tr (Fr.tr q268547 hF300753 rfl rfl) hF322228 rfl rfl) hF322264 rfl rfl), by omega, by omega, by omega, by omega, c322286, c322288, hK322290, (CPM.at_ c322289.2 (((hF322228.2.1 236 ma_X11_next_231_236).trans ((hF300753.2.1 236 ma_X11_isSign_231_236).trans (q268547.2.1 236 (by decide))))) (((hF322228.1 231 8 mf_X11_next_231_231_8).trans ((hF300753.1 231 8 mf_X11_isSign_231_231_8).trans (q268547.1 231 8 (by decide))))) (CLM.semi q268555 (show (gI g268538 231 14).toInt = 0 from by omega) tok322248 (by omega) (pI.c (((hF322228.1 231 20 mf_X11_next_231_231_20).trans (hF300753.1 231 20 mf_X11_isSign_231_231_20)))) (pI.c (((hF322228.1 231 15 mf_X11_next_231_231_15).trans (hF300753.1 231 15 mf_X11_isSign_231_231_15)))) ((pI.c (((hF322228.1 231 14 mf_X11_next_231_231_14).trans (hF300753.1 231 14 mf_X11_isSign_231_231_14)))).trans (show (gI g268538 231 14).toInt = 0 from by omega)) (pI.c (((hF322228.1 231 13 mf_X11_next_231_231_13).trans (hF300753.1 231 13 mf_X11_isSign_231_231_13))))))⟩ ⟨by omega, by omega⟩
  · have c214811_ : v214810.toInt = 6 := en_i_ne_f c214811
    refine At.enter rfl ?_
    refine r_aload_n rfl ?_
    refine r_iconst 0 rfl ?_
    refine q_putI (Sh.int hI214808.1 kx_231 rfl) rfl ?_
    have hI322301 := HI.wI1 hI214808 kx_231 rfl (p := 231) (b := 8) (v := 0) rfl (by decide)
    have hF322302 := Fr.wI (p := 231) (b := 8) (v := 0) hF214809 rfl
    refine r_aload_n rfl ?_
    refine r_bipush (-5) rfl ?_
    refine r_callV 27 rfl [.ref 231, .int (-5)] [] (Nat.le_of_ble_eq_true rfl) rfl (T_X11_tell_231 _ hI322301 (-5) (by decide)) ?_
    rintro _ _ ⟨g322303, rfl, hI322304, hF322305, v322306, rfl, hr322307⟩
    refine At.sti ?_
    have hF322308 := Fr.tr hF322302 hF322305 rfl rfl
    have zv322309 : ((-5) : Int32).toInt = (-5) := rfl
    refine At.enter rfl ?_
    refine r_ireti ?_
    have x322310 := HI.eqI hI322304 (p := 231) (b := 8) (((hF322305.1 231 8 mf_X11_tell_231_231_8).trans (gI_sI_eq hI214808.1 kx_231 rfl _)))
    have zv322311 : (0 : Int32).toInt = 0 := rfl
    have x322312 := HI.eqA hI0 (p := 233) (j := 2) (hv214810)
    have x322313 := HI.eqA hI322304 (p := 233) (j := 2) ((((eA_c (hF322305.2.1 233 ma_X11_tell_231_233)).trans ((eA_c gA_sI).trans (eA_c gA_sI))).trans hv214810))
    exact ⟨_, rfl, hI322304, hF322308, _, rfl, by omega, ⟨(fun i i0 i1 i2 => eA_c (((hF322305.2.1 233 ma_X11_tell_231_233).trans ((gA_sI).trans (gA_sI))))), by omega, Or.inl ⟨show (eA g0 233 2).toInt = 6 from by omega, by omega, pI.c (((hF322305.1 231 13 mf_X11_tell_231_231_13).trans ((gI_sI_ne (by decide)).trans (gI_sI_ne (by decide))))), (show (eA _ 233 2).toInt = (eA g0 233 2).toInt from by omega)⟩⟩⟩
