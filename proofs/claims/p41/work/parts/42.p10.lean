def F_X11_law_231 : List (Nat × Nat) := [(231, 0), (231, 1), (231, 8), (231, 9), (231, 10), (231, 11), (231, 12), (231, 13), (231, 14), (231, 15), (231, 17), (231, 20), (231, 23), (231, 24)]
def A_X11_law_231 : List Nat := [232, 233, 237, 238, 239, 240, 241]
theorem mf_X11_readClause_231_231_8 : memF F_X11_readClause_231 231 8 = false := by decide
theorem mf_X11_tell_231_231_13 : memF F_X11_tell_231 231 13 = false := by decide
theorem ma_X11_must_231_233 : memA A_X11_must_231 233 = false := by decide
theorem ma_X11_isSign_231_233 : memA A_X11_isSign_231 233 = false := by decide
theorem ma_X11_isSign_231_237 : memA A_X11_isSign_231 237 = false := by decide
set_option maxRecDepth 100000 in
set_option maxHeartbeats 4000000 in
theorem T_X11_law_231 (d : Nat) {N : Nat} {g0 : List en_E} (hI0 : HI g0) : Ev (d + 9) 210 [.ref 231] (g0, N) (fun w h' => ∃ g', h' = (g', N) ∧ HI g' ∧ Fr F_X11_law_231 A_X11_law_231 g0 g' ∧ ∃ r : Int32, w = some (.int r) ∧ ((-6) ≤ r.toInt ∧ r.toInt ≤ 5) ∧ ((∀ i : Int, 0 ≤ i → i < 110 → i ≠ 2 → eA g' 233 i = eA g0 233 i) ∧ (gI g' 231 8).toInt = 0 ∧ LWM g0 g' r.toInt ∧ SU r.toInt (gI g' 231 1).toInt)) := by
  have hF0 : Fr F_X11_law_231 A_X11_law_231 g0 g0 := Fr.rf
  obtain ⟨v1, hv1⟩ : ∃ v, gI g0 231 8 = v := ⟨_, rfl⟩
  have rv1 := RgF.at hI0.2.1 (p := 231) (b := 8) rfl
  rw [hv1] at rv1
  dsimp only at rv1
  have tv1 := congrArg Int32.toInt hv1
  refine Ev.mk rfl rfl ⟨Nat.le_of_ble_eq_true rfl, Or.inr (q_rc hI0.1 kx_231 rfl)⟩ ?_
  show At _ none _ _ (0, [(0, .ref 231)], [], (_, _)) _
  refine At.enter rfl ?_
  refine r_aload_n rfl ?_
  refine r_iconst 0 rfl ?_
  refine q_putI (Sh.int hI0.1 kx_231 rfl) rfl ?_
  have hI214808 := HI.wI0 hI0 kx_231 rfl (p := 231) (b := 0) (v := 0) rfl
  have hF214809 := Fr.wI (p := 231) (b := 0) (v := 0) hF0 rfl
  refine r_aload_n rfl ?_
  refine q_getR (Sh.ref hI214808.1 kx_231 rfl) ?_
  refine r_iconst 2 rfl ?_
  obtain ⟨v214810, hv214810⟩ : ∃ v, eA g0 233 2 = v := ⟨_, rfl⟩
  have tv214810 := congrArg Int32.toInt hv214810
  have wv214810 := HI.t2 hI0
  rw [hv214810] at wv214810
  refine q_iald (Sh.arr hI214808.1 ka_233) 2 rfl (by decide) v214810 ((eA_c (gA_sI)).trans hv214810) ?_
  refine r_bipush 6 rfl ?_
  refine r_ics 16 rfl (fun c214811 => ?_) (fun c214811 => ?_)
  · have c214811_ : v214810.toInt ≠ 6 := en_i_ne_t c214811
    refine At.enter rfl ?_
    refine r_aload_n rfl ?_
    refine q_inlV 32 rfl [.ref 231] [] (Nat.le_of_ble_eq_true rfl) rfl ?_
    refine Ev.mk rfl rfl ⟨Nat.le_of_ble_eq_true rfl, Or.inr (q_rc hI214808.1 kx_231 rfl)⟩ ?_
    show At _ none _ _ (0, [(0, .ref 231)], [], (_, _)) _
    refine At.enter rfl ?_
    refine r_aload_n rfl ?_
    refine r_iconst 0 rfl ?_
    refine q_putI (Sh.int hI214808.1 kx_231 rfl) rfl ?_
    have hI214812 := HI.wI1 hI214808 kx_231 rfl (p := 231) (b := 10) (v := 0) rfl (by decide)
    have hF214813 := Fr.wI (p := 231) (b := 10) (v := 0) hF214809 rfl
    refine r_aload_n rfl ?_
    refine r_iconst 0 rfl ?_
    refine q_putI (Sh.int hI214812.1 kx_231 rfl) rfl ?_
    have hI214814 := HI.wI0 hI214812 kx_231 rfl (p := 231) (b := 14) (v := 0) rfl
    have hF214815 := Fr.wI (p := 231) (b := 14) (v := 0) hF214813 rfl
    refine r_aload_n rfl ?_
    refine r_iconst (-1) rfl ?_
    refine q_putI (Sh.int hI214814.1 kx_231 rfl) rfl ?_
    have hI214816 := HI.wI0 hI214814 kx_231 rfl (p := 231) (b := 13) (v := (-1)) rfl
    have hF214817 := Fr.wI (p := 231) (b := 13) (v := (-1)) hF214815 rfl
    refine r_aload_n rfl ?_
    have x214818 := HI.eqI hI214816 (p := 231) (b := 8) ((((gI_sI_ne (by decide)).trans ((gI_sI_ne (by decide)).trans ((gI_sI_ne (by decide)).trans (gI_sI_ne (by decide))))).trans hv1))
    have x214819 := HI.eqI hI214816 (p := 231) (b := 10) (((gI_sI_ne (by decide)).trans ((gI_sI_ne (by decide)).trans (gI_sI_eq hI214808.1 kx_231 rfl _))))
    have zv214820 : (0 : Int32).toInt = 0 := rfl
    refine r_callV 19 rfl [.ref 231] [] (Nat.le_of_ble_eq_true rfl) rfl (T_X11_next_231 _ hI214816 (by omega)) ?_
    rintro _ _ ⟨g214821, rfl, hI214822, hF214823, rfl, hr214825⟩
    refine At.stn ?_
    have hF214826 := Fr.tr hF214817 hF214823 rfl rfl
    have x214830 := HI.eqI hI214822 (p := 231) (b := 8) ((((hF214823.1 231 8 mf_X11_next_231_231_8).trans ((gI_sI_ne (by decide)).trans ((gI_sI_ne (by decide)).trans ((gI_sI_ne (by decide)).trans (gI_sI_ne (by decide)))))).trans hv1))
    obtain ⟨v214831, hv214831⟩ : ∃ v, gI g214821 231 9 = v := ⟨_, rfl⟩
    have rv214831 := RgF.at hI214822.2.1 (p := 231) (b := 9) rfl
    rw [hv214831] at rv214831
    dsimp only at rv214831
    have tv214831 := congrArg Int32.toInt hv214831
    obtain ⟨v214833, hv214833⟩ : ∃ v, gI g214821 231 10 = v := ⟨_, rfl⟩
    have rv214833 := RgF.at hI214822.2.1 (p := 231) (b := 10) rfl
    rw [hv214833] at rv214833
    dsimp only at rv214833
    have tv214833 := congrArg Int32.toInt hv214833
    obtain ⟨v214835, hv214835⟩ : ∃ v, gI g214821 231 11 = v := ⟨_, rfl⟩
    have tv214835 := congrArg Int32.toInt hv214835
    obtain ⟨c214837, c214838, c214839, c214840, c214841, c214842, c214843⟩ := hr214825
    have hK214844 := c214843.1
    refine At.enter rfl ?_
    refine q_vret ?_
    refine At.enter rfl ?_
    refine r_aload_n rfl ?_
    refine r_iconst 0 rfl ?_
    refine q_putI (Sh.int hI214822.1 kx_231 rfl) rfl ?_
    have hI214845 := HI.wI1 hI214822 kx_231 rfl (p := 231) (b := 15) (v := 0) rfl (by decide)
    have hF214846 := Fr.wI (p := 231) (b := 15) (v := 0) hF214826 rfl
    refine r_aload_n rfl ?_
    refine r_iconst 0 rfl ?_
    refine q_putI (Sh.int hI214845.1 kx_231 rfl) rfl ?_
    have hI214847 := HI.wI1 hI214845 kx_231 rfl (p := 231) (b := 17) (v := 0) rfl (by decide)
    have hF214848 := Fr.wI (p := 231) (b := 17) (v := 0) hF214846 rfl
    refine r_aload_n rfl ?_
    refine r_iconst 0 rfl ?_
    refine q_putI (Sh.int hI214847.1 kx_231 rfl) rfl ?_
    have hI214849 := HI.wI0 hI214847 kx_231 rfl (p := 231) (b := 20) (v := 0) rfl
    have hF214850 := Fr.wI (p := 231) (b := 20) (v := 0) hF214848 rfl
    refine r_aload_n rfl ?_
    have x214851 := HI.eqI hI214849 (p := 231) (b := 8) ((((gI_sI_ne (by decide)).trans ((gI_sI_ne (by decide)).trans ((gI_sI_ne (by decide)).trans ((hF214823.1 231 8 mf_X11_next_231_231_8).trans ((gI_sI_ne (by decide)).trans ((gI_sI_ne (by decide)).trans ((gI_sI_ne (by decide)).trans (gI_sI_ne (by decide))))))))).trans hv1))
    have x214852 := HI.eqI hI214849 (p := 231) (b := 9) ((((gI_sI_ne (by decide)).trans ((gI_sI_ne (by decide)).trans (gI_sI_ne (by decide)))).trans hv214831))
    have x214853 := HI.eqI hI214849 (p := 231) (b := 10) ((((gI_sI_ne (by decide)).trans ((gI_sI_ne (by decide)).trans (gI_sI_ne (by decide)))).trans hv214833))
    have x214854 := HI.eqI hI214849 (p := 231) (b := 11) ((((gI_sI_ne (by decide)).trans ((gI_sI_ne (by decide)).trans (gI_sI_ne (by decide)))).trans hv214835))
    have x214855 := HI.eqI hI214849 (p := 231) (b := 14) (((gI_sI_ne (by decide)).trans ((gI_sI_ne (by decide)).trans ((gI_sI_ne (by decide)).trans ((hF214823.1 231 14 mf_X11_next_231_231_14).trans ((gI_sI_ne (by decide)).trans (gI_sI_eq hI214812.1 kx_231 rfl _)))))))
    have x214857 := HI.eqI hI214849 (p := 231) (b := 15) (((gI_sI_ne (by decide)).trans ((gI_sI_ne (by decide)).trans (gI_sI_eq hI214822.1 kx_231 rfl _))))
    have x214859 := HI.eqI hI214849 (p := 231) (b := 17) (((gI_sI_ne (by decide)).trans (gI_sI_eq hI214845.1 kx_231 rfl _)))
    have x214861 := HI.eqI hI214849 (p := 231) (b := 13) (((gI_sI_ne (by decide)).trans ((gI_sI_ne (by decide)).trans ((gI_sI_ne (by decide)).trans ((hF214823.1 231 13 mf_X11_next_231_231_13).trans (gI_sI_eq hI214814.1 kx_231 rfl _))))))
    have zv214862 : ((-1) : Int32).toInt = (-1) := rfl
    have x214863 := HI.eqI hI214849 (p := 231) (b := 20) ((gI_sI_eq hI214847.1 kx_231 rfl _))
    have w26214865 := W26.cong c214842 hI214849 (((gI_sI_ne (by decide)).trans ((gI_sI_ne (by decide)).trans (gI_sI_ne (by decide))))) (((gI_sI_ne (by decide)).trans ((gI_sI_ne (by decide)).trans (gI_sI_ne (by decide))))) (((gI_sI_ne (by decide)).trans ((gI_sI_ne (by decide)).trans (gI_sI_ne (by decide))))) (((gJ_sI_ne (by decide)).trans ((gJ_sI_ne (by decide)).trans (gJ_sI_ne (by decide)))))
    refine r_callV 51 rfl [.ref 231] [] (Nat.le_of_ble_eq_true rfl) rfl (T_X11_readClause_231 _ hI214849 (by refine ⟨?_, ?_, ?_, ?_⟩ <;> omega) (by omega) (by omega) w26214865 (CLS.zero0 (by omega)) (TKM.c hK214844 (((gA_sI).trans ((gA_sI).trans (gA_sI)))) (((gI_sI_ne (by decide)).trans ((gI_sI_ne (by decide)).trans (gI_sI_ne (by decide))))) (((gI_sI_ne (by decide)).trans ((gI_sI_ne (by decide)).trans (gI_sI_ne (by decide))))) (((gI_sI_ne (by decide)).trans ((gI_sI_ne (by decide)).trans (gI_sI_ne (by decide))))) (((gI_sI_ne (by decide)).trans ((gI_sI_ne (by decide)).trans (gI_sI_ne (by decide))))) (((gJ_sI_ne (by decide)).trans ((gJ_sI_ne (by decide)).trans (gJ_sI_ne (by decide))))))) ?_
    rintro _ _ ⟨g214866, rfl, hI214867, hF214868, rfl, hr214870⟩
    refine At.stn ?_
    have hF214871 := Fr.tr hF214850 hF214868 rfl rfl
    have x214873 := HI.eqI hI214867 (p := 231) (b := 8) ((((hF214868.1 231 8 mf_X11_readClause_231_231_8).trans ((gI_sI_ne (by decide)).trans ((gI_sI_ne (by decide)).trans ((gI_sI_ne (by decide)).trans ((hF214823.1 231 8 mf_X11_next_231_231_8).trans ((gI_sI_ne (by decide)).trans ((gI_sI_ne (by decide)).trans ((gI_sI_ne (by decide)).trans (gI_sI_ne (by decide)))))))))).trans hv1))
    obtain ⟨v214874, hv214874⟩ : ∃ v, gI g214866 231 9 = v := ⟨_, rfl⟩
    have rv214874 := RgF.at hI214867.2.1 (p := 231) (b := 9) rfl
    rw [hv214874] at rv214874
    dsimp only at rv214874
    have tv214874 := congrArg Int32.toInt hv214874
    obtain ⟨v214876, hv214876⟩ : ∃ v, gI g214866 231 10 = v := ⟨_, rfl⟩
    have rv214876 := RgF.at hI214867.2.1 (p := 231) (b := 10) rfl
    rw [hv214876] at rv214876
    dsimp only at rv214876
    have tv214876 := congrArg Int32.toInt hv214876
    obtain ⟨v214878, hv214878⟩ : ∃ v, gI g214866 231 11 = v := ⟨_, rfl⟩
    have tv214878 := congrArg Int32.toInt hv214878
    obtain ⟨v214880, hv214880⟩ : ∃ v, gI g214866 231 14 = v := ⟨_, rfl⟩
    have tv214880 := congrArg Int32.toInt hv214880
    obtain ⟨v214882, hv214882⟩ : ∃ v, gI g214866 231 15 = v := ⟨_, rfl⟩
    have rv214882 := RgF.at hI214867.2.1 (p := 231) (b := 15) rfl
    rw [hv214882] at rv214882
    dsimp only at rv214882
    have tv214882 := congrArg Int32.toInt hv214882
    obtain ⟨v214884, hv214884⟩ : ∃ v, gI g214866 231 17 = v := ⟨_, rfl⟩
    have rv214884 := RgF.at hI214867.2.1 (p := 231) (b := 17) rfl
    rw [hv214884] at rv214884
    dsimp only at rv214884
    have tv214884 := congrArg Int32.toInt hv214884
    obtain ⟨c214886, c214887, c214888, c214889, c214890, c214891, c214892, c214893⟩ := hr214870
    have hK214894 := c214893.1
    obtain ⟨v214895, hv214895⟩ : ∃ v, gI g214866 231 13 = v := ⟨_, rfl⟩
    have tv214895 := congrArg Int32.toInt hv214895
    have hskp0 : SKP (TM g0) (nM g0) 0 (pI g214821 9) := SKP.st0 c214843.2 (((gA_sI).trans ((gA_sI).trans ((gA_sI).trans (gA_sI))))) (((gI_sI_ne (by decide)).trans ((gI_sI_ne (by decide)).trans ((gI_sI_ne (by decide)).trans (gI_sI_ne (by decide)))))) (show (gI _ 231 10).toInt = 0 from by omega)
    refine w_loopI (fun n_ l_ g_ => ∃ x268537 : Int32, n_ = 400 - x268537.toInt ∧ HI g_ ∧ Fr F_X11_law_231 A_X11_law_231 g0 g_ ∧ gI g_ 231 9 = x268537 ∧ en_get 0 l_ = some (.ref 231) ∧ (0 ≤ x268537.toInt ∧ x268537.toInt ≤ 400) ∧ (Fr [(231, 0), (231, 9), (231, 10), (231, 11), (231, 12), (231, 13), (231, 14), (231, 15), (231, 17), (231, 20), (231, 23), (231, 24)] [237, 238, 239, 240, 241] g0 g_) ∧ ((gI g_ 231 9).toInt ≤ (gI g_ 231 10).toInt) ∧ ((gI g_ 231 10).toInt ≤ (gI g_ 231 8).toInt) ∧ (0 ≤ (gI g_ 231 11).toInt) ∧ ((gI g_ 231 11).toInt ≤ 3 * ((gI g_ 231 10).toInt - (gI g_ 231 9).toInt)) ∧ (W26 g_) ∧ (CLZ g_) ∧ (TKM g_) ∧ (CLM (TM g0) (nM g0) (6, [], 0, 0, pI g214821 9) g_ 8)) ?_ (400 - v214874.toInt) ⟨v214874, by first | rfl | omega, hI214867, hF214871, hv214874, rfl, by omega, (Fr.tr (Fr.wI (p := 231) (b := 20) (Fr.wI (p := 231) (b := 17) (Fr.wI (p := 231) (b := 15) (Fr.tr (Fr.wI (p := 231) (b := 13) (Fr.wI (p := 231) (b := 14) (Fr.wI (p := 231) (b := 10) (Fr.wI (p := 231) (b := 0) Fr.rf rfl) rfl) rfl) rfl) hF214823 rfl rfl) rfl) rfl) rfl) hF214868 rfl rfl), by omega, by omega, by omega, by omega, c214890, c214892, hK214894, (CPM.at_ c214893.2 (((gA_sI).trans ((gA_sI).trans ((gA_sI).trans ((hF214823.2.1 236 ma_X11_next_231_236).trans ((gA_sI).trans ((gA_sI).trans ((gA_sI).trans (gA_sI))))))))) (((gI_sI_ne (by decide)).trans ((gI_sI_ne (by decide)).trans ((gI_sI_ne (by decide)).trans ((hF214823.1 231 8 mf_X11_next_231_231_8).trans ((gI_sI_ne (by decide)).trans ((gI_sI_ne (by decide)).trans ((gI_sI_ne (by decide)).trans (gI_sI_ne (by decide)))))))))) (CLM.start (show (gI _ 231 14).toInt = 0 from by omega) (show (gI _ 231 13).toInt = -1 from by omega) (show (gI _ 231 20).toInt = 0 from by omega) (show (gI _ 231 15).toInt = 0 from by omega) (pI.c (((gI_sI_ne (by decide)).trans ((gI_sI_ne (by decide)).trans (gI_sI_ne (by decide))))))))⟩
    rintro n268542 l268541 g268538 ⟨x268537, hm268563, hI268539, hF268540, e268544, e268545, r268546, q268547, q268548, q268549, q268550, q268551, q268552, q268553, q268554, q268555⟩ ih268543
    have tv268564 := congrArg Int32.toInt e268544
    have x268565 := HI.eqI hI268539 (p := 231) (b := 8) (((q268547.1 231 8 (by decide)).trans hv1))
    have x268566 := HI.eqI hI268539 (p := 231) (b := 9) (e268544)
    obtain ⟨v268567, hv268567⟩ : ∃ v, gI g268538 231 10 = v := ⟨_, rfl⟩
    have rv268567 := RgF.at hI268539.2.1 (p := 231) (b := 10) rfl
    rw [hv268567] at rv268567
    dsimp only at rv268567
    have tv268567 := congrArg Int32.toInt hv268567
    obtain ⟨v268569, hv268569⟩ : ∃ v, gI g268538 231 11 = v := ⟨_, rfl⟩
    have tv268569 := congrArg Int32.toInt hv268569
    obtain ⟨v268571, hv268571⟩ : ∃ v, gI g268538 231 14 = v := ⟨_, rfl⟩
    have tv268571 := congrArg Int32.toInt hv268571
    obtain ⟨v268573, hv268573⟩ : ∃ v, gI g268538 231 15 = v := ⟨_, rfl⟩
    have rv268573 := RgF.at hI268539.2.1 (p := 231) (b := 15) rfl
    rw [hv268573] at rv268573
    dsimp only at rv268573
    have tv268573 := congrArg Int32.toInt hv268573
    obtain ⟨v268575, hv268575⟩ : ∃ v, gI g268538 231 17 = v := ⟨_, rfl⟩
    have rv268575 := RgF.at hI268539.2.1 (p := 231) (b := 17) rfl
    rw [hv268575] at rv268575
    dsimp only at rv268575
    have tv268575 := congrArg Int32.toInt hv268575
    refine At.enter rfl ?_
    refine r_aload_n e268545 ?_
    refine q_getI (Sh.int hI268539.1 kx_231 rfl) v268571 hv268571 ?_
    refine r_ifs 58 rfl (fun c268577 => ?_) (fun c268577 => ?_)
    · have c268577_ : v268571.toInt ≠ 0 := en_k_ne_t c268577
      refine At.enter rfl ?_
      refine r_aload_n e268545 ?_
      refine q_getI (Sh.int hI268539.1 kx_231 rfl) v268571 hv268571 ?_
      refine r_ifs 85 rfl (fun c268578 => ?_) (fun c268578 => ?_)
      · have c268578_ : v268571.toInt ≠ 0 := en_k_ne_t c268578
        refine At.enter rfl ?_
        refine r_aload_n e268545 ?_
        refine r_iconst 0 rfl ?_
        refine q_putI (Sh.int hI268539.1 kx_231 rfl) rfl ?_
        have hI268579 := HI.wI1 hI268539 kx_231 rfl (p := 231) (b := 8) (v := 0) rfl (by decide)
        have hF268580 := Fr.wI (p := 231) (b := 8) (v := 0) hF268540 rfl
        refine r_aload_n e268545 ?_
        refine q_getI (Sh.int hI268579.1 kx_231 rfl) v268571 ((gI_sI_ne (by decide)).trans hv268571) ?_
        refine r_ifs 109 rfl (fun c268581 => ?_) (fun c268581 => ?_)
        · have c268581_ : v268571.toInt = 0 := en_k_eq_t c268581
          refine At.enter rfl ?_
          refine r_bipush 110 rfl ?_
          refine r_sipush 900 rfl ?_
          refine r_aload_n e268545 ?_
          refine q_getR (Sh.ref hI268579.1 kx_231 rfl) ?_
          refine r_iconst 2 rfl ?_
          refine q_iald (Sh.arr hI268579.1 ka_233) 2 rfl (by decide) v214810 ((eA_c ((gA_sI).trans (q268547.2.1 233 (by decide)))).trans hv214810) ?_
          refine q_imul (900 * v214810.toInt) rfl (by omega) (fun v268582 hv268582 => ?_)
          refine q_iadd (110 + v268582.toInt) rfl (by omega) (fun v268583 hv268583 => ?_)
          refine r_istore_n _ rfl ?_
          refine r_aload_n (w_p1 (by decide) (Or.inr rfl) e268545) ?_
          refine q_getR (Sh.ref hI268579.1 kx_231 rfl) ?_
          refine r_iload_n (w_e1 _ _ _) ?_
          refine r_iconst 1 rfl ?_
          refine q_iadd (v268583.toInt + 1) rfl (by omega) (fun v268584 hv268584 => ?_)
          refine r_aload_n (w_p1 (by decide) (Or.inr rfl) e268545) ?_
          refine q_getI (Sh.int hI268579.1 kx_231 rfl) v268573 ((gI_sI_ne (by decide)).trans hv268573) ?_
          refine q_iast (Sh.arr hI268579.1 ka_233) ((900 * v214810.toInt + 111)) (by omega) (by omega) ?_
          have x268587 := HI.eqA hI268579 (p := 233) (j := 2) ((((eA_c gA_sI).trans (eA_c (q268547.2.1 233 (by decide)))).trans hv214810))
          have hI268585 := HI.wfree hI268579 (j := (900 * v214810.toInt + 111)) (v := v268573) ⟨by omega, by omega⟩
          have hF268586 := Fr.wA (p := 233) (j := (900 * v214810.toInt + 111)) (v := v268573) hF268580 rfl
          refine r_iconst 0 rfl ?_
          refine r_istore_n _ rfl ?_
          refine Ar.fall 144 rfl ?_
          refine w_loopI (fun n_ l_ g_ => ∃ x278578 : Int32, n_ = 96 - x278578.toInt ∧ HI g_ ∧ Fr F_X11_law_231 A_X11_law_231 g0 g_ ∧ gI g_ 231 8 = 0 ∧ en_get 0 l_ = some (.ref 231) ∧ en_get 1 l_ = some (.int v268583) ∧ en_get 2 l_ = some (.int x278578) ∧ (0 ≤ x278578.toInt ∧ x278578.toInt ≤ 96) ∧ (Fr [(231, 8)] [233] g268538 g_) ∧ ((eA g_ 233 (v268583.toInt + 1)).toInt = (gI g268538 231 15).toInt) ∧ (∀ i : Int, 0 ≤ i → i < x278578.toInt → (eA g_ 233 (v268583.toInt + 2 + i)).toInt = (eA g268538 237 i).toInt) ∧ (∀ i : Int, 0 ≤ i → i < 110 → eA g_ 233 i = eA g268538 233 i)) ?_ (96 - 0) ⟨0, by first | rfl | omega, hI268585, hF268586, ((gI_sW).trans (gI_sI_eq hI268539.1 kx_231 rfl _)), (w_p1 (by decide) (Or.inr rfl) (w_p1 (by decide) (Or.inr rfl) e268545)), (w_p1 (by decide) (Or.inr rfl) (w_e1 _ _ _)), (w_e1 _ _ _), by decide, (Fr.wA (p := 233) (Fr.wI (p := 231) (b := 8) Fr.rf rfl) rfl), ((congrArg Int32.toInt (eA_sA_eq hI268579.1 ka_233 (by omega) (by omega) (by omega))).trans (by omega)), (fun i i0 i1 => absurd i1 (by omega)), (fun i i0 i1 => ((eA_sA_ne (i := i) hI268579.1 ka_233 (by omega) (by omega) (by omega)).trans (eA_c gA_sI)))⟩
          rintro n278583 l278582 g278579 ⟨x278578, hm278597, hI278580, hF278581, e278585, e278586, e278587, e278588, r278589, q278590, q278591, q278592, q278593⟩ ih278584
          have tv278598 := congrArg Int32.toInt e278585
          have t278601 := congrArg Int32.toInt ((q278593 2 (by decide) (by decide)).trans ((eA_c (q268547.2.1 233 (by decide))).trans hv214810))
          refine At.enter rfl ?_
          refine r_iload_n e278588 ?_
          refine r_bipush 8 rfl ?_
          refine r_aload_n e278586 ?_
          refine q_getI (Sh.int hI278580.1 kx_231 rfl) v268573 ((q278590.1 231 15 (by decide)).trans hv268573) ?_
          refine q_imul (8 * v268573.toInt) rfl (by omega) (fun v278602 hv278602 => ?_)
          have bv278604 := q_bnd x278578
          have bv278605 := q_bnd v278602
          refine r_ics 155 rfl (fun c278603 => ?_) (fun c278603 => ?_)
          · have c278603_ : x278578.toInt ≥ v278602.toInt := en_i_ge_t c278603
            refine At.enter rfl ?_
            refine r_iconst 0 rfl ?_
            refine r_istore_n _ rfl ?_
            refine Ar.fall 179 rfl ?_
            refine w_loopI (fun n_ l_ g_ => ∃ x279201 : Int32, n_ = 400 - x279201.toInt ∧ HI g_ ∧ Fr F_X11_law_231 A_X11_law_231 g0 g_ ∧ gI g_ 231 8 = 0 ∧ en_get 0 l_ = some (.ref 231) ∧ en_get 1 l_ = some (.int v268583) ∧ en_get 2 l_ = some (.int x279201) ∧ (0 ≤ x279201.toInt ∧ x279201.toInt ≤ 400) ∧ (Fr [(231, 8)] [233] g268538 g_) ∧ ((eA g_ 233 (v268583.toInt + 1)).toInt = (gI g268538 231 15).toInt) ∧ (∀ i : Int, 0 ≤ i → i < 8 * (gI g268538 231 15).toInt → (eA g_ 233 (v268583.toInt + 2 + i)).toInt = (eA g268538 237 i).toInt) ∧ (∀ i : Int, 0 ≤ i → i < 110 → eA g_ 233 i = eA g268538 233 i) ∧ (∀ i : Int, 0 ≤ i → i < x279201.toInt → (eA g_ 233 (v268583.toInt + 98 + 2 * i)).toInt = (eA g268538 238 i).toInt ∧ (eA g_ 233 (v268583.toInt + 98 + 2 * i + 1)).toInt = (eA g268538 239 i).toInt)) ?_ (400 - 0) ⟨0, by first | rfl | omega, hI278580, hF278581, e278585, (w_p1 (by decide) (Or.inr rfl) e278586), (w_p1 (by decide) (Or.inr rfl) e278587), (w_e1 _ _ _), by decide, (Fr.tr Fr.rf q278590 rfl rfl), ((congrArg Int32.toInt (rfl)).trans q278591), (fun i i0 i1 => q278592 i i0 (by omega)), (fun i i0 i1 => (rfl).trans (q278593 i i0 i1)), (fun i i0 i1 => absurd i1 (by omega))⟩
            rintro n279206 l279205 g279202 ⟨x279201, hm279221, hI279203, hF279204, e279208, e279209, e279210, e279211, r279212, q279213, q279214, q279215, q279216, q279217⟩ ih279207
            have tv279222 := congrArg Int32.toInt e279208
            have t279225 := congrArg Int32.toInt ((q279216 2 (by decide) (by decide)).trans ((eA_c (q268547.2.1 233 (by decide))).trans hv214810))
            refine At.enter rfl ?_
            refine r_iload_n e279211 ?_
            refine r_aload_n e279209 ?_
            refine q_getI (Sh.int hI279203.1 kx_231 rfl) v268575 ((q279213.1 231 17 (by decide)).trans hv268575) ?_
            have bv279227 := q_bnd x279201
            have bv279228 := q_bnd v268575
            refine r_ics 187 rfl (fun c279226 => ?_) (fun c279226 => ?_)
            · have c279226_ : x279201.toInt ≥ v268575.toInt := en_i_ge_t c279226
              refine At.enter rfl ?_
              refine r_aload_n e279209 ?_
              refine q_getR (Sh.ref hI279203.1 kx_231 rfl) ?_
              refine r_iconst 2 rfl ?_
              refine r_dup2 ⟨rfl, rfl⟩ ?_
              refine q_iald (Sh.arr hI279203.1 ka_233) 2 rfl (by decide) v214810 ((q279216 2 (by decide) (by decide)).trans ((eA_c (q268547.2.1 233 (by decide))).trans hv214810)) ?_
              refine r_iconst 1 rfl ?_
              refine q_iadd (v214810.toInt + 1) rfl (by omega) (fun v279229 hv279229 => ?_)
              refine q_iast (Sh.arr hI279203.1 ka_233) (2) rfl (by decide) ?_
              have x279232 := HI.eqA hI279203 (p := 233) (j := 2) (((q279216 2 (by decide) (by decide)).trans ((eA_c (q268547.2.1 233 (by decide))).trans hv214810)))
              have hI279230 := HI.wt2 hI279203 (v := v279229) (by omega) (by omega) (by rw [show 110 + 900 * (eA _ 233 2).toInt = v268583.toInt by omega]; exact LAW.mk (q268553 (by omega)).2 ⟨by omega, by omega⟩ (by omega) q279214 q279215 (fun i i0 i1 => q279217 i i0 (by omega)))
              have hF279231 := Fr.wA (p := 233) (j := 2) (v := v279229) hF279204 rfl
              refine r_aload_n e279209 ?_
              refine r_aload_n e279209 ?_
              refine q_getR (Sh.ref hI279230.1 kx_231 rfl) ?_
              refine r_iconst 2 rfl ?_
              refine q_iald (Sh.arr hI279230.1 ka_233) 2 rfl (by decide) v279229 (eA_sA_eq hI279203.1 ka_233 (by first | rfl | omega) (by first | decide | omega) (by first | decide | omega)) ?_
              refine r_iconst 1 rfl ?_
              refine q_isub (v279229.toInt - 1) rfl (by omega) (fun v279233 hv279233 => ?_)
              refine r_callV 255 rfl [.ref 231, .int v279233] [] (Nat.le_of_ble_eq_true rfl) rfl (T_X11_tell_231 _ hI279230 v279233 (by omega)) ?_
              rintro _ _ ⟨g279234, rfl, hI279235, hF279236, v279237, rfl, hr279238⟩
              refine At.sti ?_
              have hF279239 := Fr.tr hF279231 hF279236 rfl rfl
              refine At.enter rfl ?_
              refine r_ireti ?_
              have x279240 := HI.eqI hI279235 (p := 231) (b := 8) ((((hF279236.1 231 8 mf_X11_tell_231_231_8).trans (gI_sW)).trans e279208))
              have x279242 := HI.eqA hI0 (p := 233) (j := 2) (hv214810)
              have x279243 := HI.eqA hI279235 (p := 233) (j := 2) (((eA_c (hF279236.2.1 233 ma_X11_tell_231_233)).trans (eA_sA_eq hI279203.1 ka_233 (by first | rfl | omega) (by first | decide | omega) (by first | decide | omega))))
              obtain ⟨v279246, hv279246⟩ : ∃ v, gI g268538 231 13 = v := ⟨_, rfl⟩
              have tv279246 := congrArg Int32.toInt hv279246
              have x279249 := HI.eqI hI279235 (p := 231) (b := 13) ((((hF279236.1 231 13 mf_X11_tell_231_231_13).trans ((gI_sW).trans (q279213.1 231 13 (by decide)))).trans hv279246))
              have ce := CDM.end_ q268554
              have y279250 : pI g268538 11 = (gI g268538 231 11).toInt := rfl
              obtain ⟨v279251, hv279251⟩ : ∃ v, gI g279234 231 1 = v := ⟨_, rfl⟩
              have tv279251 := congrArg Int32.toInt hv279251
              exact ⟨_, rfl, hI279235, hF279239, _, rfl, by omega, ⟨(fun i i0 i1 i2 => ((eA_c (hF279236.2.1 233 ma_X11_tell_231_233)).trans ((eA_sA_ne (i := i) hI279203.1 ka_233 (by omega) (by omega) (by omega)).trans ((q279216 i i0 i1).trans (eA_c ((q268547.2.1 233 (by decide)))))))), by omega, Or.inr ⟨show (eA g0 233 2).toInt ≠ 6 from by omega, ⟨_, hskp0, Or.inl ⟨by omega, CLM.fin q268555 (show (gI g268538 231 14).toInt = 0 from by omega) (TKM.someC q268554 ((q268547.2.1 236 (by decide))) ((q268547.1 231 8 (by decide)))).choose_spec (by omega) (show (gI _ 231 13).toInt = (gI g268538 231 13).toInt from (by first | exact x279249.trans tv279246.symm | omega))⟩⟩, Or.inr ⟨show _ = (eA g0 233 2).toInt from by omega, by omega, show (eA _ 233 2).toInt = (eA g0 233 2).toInt + 1 from by omega⟩⟩, (SU.mk (by omega))⟩⟩
            · have c279226_ : x279201.toInt < v268575.toInt := en_i_ge_f c279226
              refine At.enter rfl ?_
              refine r_aload_n e279209 ?_
              refine q_getR (Sh.ref hI279203.1 kx_231 rfl) ?_
              refine r_iload_n e279210 ?_
              refine r_bipush 98 rfl ?_
              refine q_iadd (v268583.toInt + 98) rfl (by omega) (fun v279253 hv279253 => ?_)
              refine r_iconst 2 rfl ?_
              refine r_iload_n e279211 ?_
              refine q_imul (2 * x279201.toInt) rfl (by omega) (fun v279254 hv279254 => ?_)
              refine q_iadd (v279253.toInt + v279254.toInt) rfl (by omega) (fun v279255 hv279255 => ?_)
              refine r_aload_n e279209 ?_
              refine q_getR (Sh.ref hI279203.1 kx_231 rfl) ?_
              refine r_iload_n e279211 ?_
              obtain ⟨v279256, hv279256⟩ : ∃ v, eA g268538 238 x279201.toInt = v := ⟨_, rfl⟩
              refine q_iald (Sh.arr hI279203.1 ka_238) x279201.toInt rfl (by omega) v279256 ((eA_c (q279213.2.1 238 (by decide))).trans hv279256) ?_
              refine q_iast (Sh.arr hI279203.1 ka_233) ((900 * v214810.toInt + 2 * x279201.toInt + 208)) (by omega) (by omega) ?_
              have x279259 := HI.eqA hI279203 (p := 233) (j := 2) (((q279216 2 (by decide) (by decide)).trans ((eA_c (q268547.2.1 233 (by decide))).trans hv214810)))
              have hI279257 := HI.wfree hI279203 (j := (900 * v214810.toInt + 2 * x279201.toInt + 208)) (v := v279256) ⟨by omega, by omega⟩
              have hF279258 := Fr.wA (p := 233) (j := (900 * v214810.toInt + 2 * x279201.toInt + 208)) (v := v279256) hF279204 rfl
              refine r_aload_n e279209 ?_
              refine q_getR (Sh.ref hI279257.1 kx_231 rfl) ?_
              refine r_iload_n e279210 ?_
              refine r_bipush 98 rfl ?_
              refine q_iadd (v268583.toInt + 98) rfl (by omega) (fun v279260 hv279260 => ?_)
              refine r_iconst 2 rfl ?_
              refine r_iload_n e279211 ?_
              refine q_imul (2 * x279201.toInt) rfl (by omega) (fun v279261 hv279261 => ?_)
              refine q_iadd (v279260.toInt + v279261.toInt) rfl (by omega) (fun v279262 hv279262 => ?_)
              refine r_iconst 1 rfl ?_
              refine q_iadd (v279262.toInt + 1) rfl (by omega) (fun v279263 hv279263 => ?_)
              refine r_aload_n e279209 ?_
              refine q_getR (Sh.ref hI279257.1 kx_231 rfl) ?_
              refine r_iload_n e279211 ?_
              obtain ⟨v279264, hv279264⟩ : ∃ v, eA g268538 239 x279201.toInt = v := ⟨_, rfl⟩
              refine q_iald (Sh.arr hI279257.1 ka_239) x279201.toInt rfl (by omega) v279264 ((eA_c ((gA_sA_ne (by decide)).trans (q279213.2.1 239 (by decide)))).trans hv279264) ?_
              refine q_iast (Sh.arr hI279257.1 ka_233) ((900 * v214810.toInt + 2 * x279201.toInt + 209)) (by omega) (by omega) ?_
              have x279267 := HI.eqA hI279257 (p := 233) (j := 2) (((eA_sA_ne hI279203.1 ka_233 (by first | decide | omega) (by first | decide | omega) (by first | decide | omega)).trans ((q279216 2 (by decide) (by decide)).trans ((eA_c (q268547.2.1 233 (by decide))).trans hv214810))))
              have hI279265 := HI.wfree hI279257 (j := (900 * v214810.toInt + 2 * x279201.toInt + 209)) (v := v279264) ⟨by omega, by omega⟩
              have hF279266 := Fr.wA (p := 233) (j := (900 * v214810.toInt + 2 * x279201.toInt + 209)) (v := v279264) hF279258 rfl
              refine q_iinc e279211 (x279201.toInt + 1) rfl (by omega) (fun v279268 hv279268 => ?_)
              refine r_goto ?_
              exact ih279207 (400 - v279268.toInt) _ _ ⟨v279268, by first | rfl | omega, hI279265, hF279266, (((gI_sW).trans (gI_sW)).trans e279208), (w_p1 (by decide) (Or.inr rfl) e279209), (w_p1 (by decide) (Or.inr rfl) e279210), (w_e1 _ _ _), by omega, (Fr.wA (p := 233) (Fr.wA (p := 233) q279213 rfl) rfl), ((congrArg Int32.toInt (((eA_sA_ne (i := v268583.toInt + 1) hI279257.1 ka_233 (by omega) (by omega) (by omega)).trans (eA_sA_ne (i := v268583.toInt + 1) hI279203.1 ka_233 (by omega) (by omega) (by omega))))).trans q279214), (fun i i0 i1 => (congrArg Int32.toInt (((eA_sA_ne (i := v268583.toInt + 2 + i) hI279257.1 ka_233 (by omega) (by omega) (by omega)).trans (eA_sA_ne (i := v268583.toInt + 2 + i) hI279203.1 ka_233 (by omega) (by omega) (by omega))))).trans (q279215 i i0 i1)), (fun i i0 i1 => (((eA_sA_ne (i := i) hI279257.1 ka_233 (by omega) (by omega) (by omega)).trans (eA_sA_ne (i := i) hI279203.1 ka_233 (by omega) (by omega) (by omega)))).trans (q279216 i i0 i1)), (fun i i0 i1 => (Decidable.em (i = x279201.toInt)).elim (fun e => by rw [e]; exact ⟨((congrArg Int32.toInt ((eA_sA_ne (i := v268583.toInt + 98 + 2 * x279201.toInt) hI279257.1 ka_233 (by omega) (by omega) (by omega)).trans (eA_sA_eq hI279203.1 ka_233 (by omega) (by omega) (by omega)))).trans (congrArg Int32.toInt hv279256).symm), ((congrArg Int32.toInt (eA_sA_eq hI279257.1 ka_233 (by omega) (by omega) (by omega))).trans (congrArg Int32.toInt hv279264).symm)⟩) (fun e => ⟨(congrArg Int32.toInt (((eA_sA_ne (i := v268583.toInt + 98 + 2 * i) hI279257.1 ka_233 (by omega) (by omega) (by omega)).trans (eA_sA_ne (i := v268583.toInt + 98 + 2 * i) hI279203.1 ka_233 (by omega) (by omega) (by omega))))).trans (q279217 i i0 (by omega)).1, (congrArg Int32.toInt (((eA_sA_ne (i := v268583.toInt + 98 + 2 * i + 1) hI279257.1 ka_233 (by omega) (by omega) (by omega)).trans (eA_sA_ne (i := v268583.toInt + 98 + 2 * i + 1) hI279203.1 ka_233 (by omega) (by omega) (by omega))))).trans (q279217 i i0 (by omega)).2⟩))⟩ ⟨by omega, by omega⟩
          · have c278603_ : x278578.toInt < v278602.toInt := en_i_ge_f c278603
            refine At.enter rfl ?_
            refine r_aload_n e278586 ?_
            refine q_getR (Sh.ref hI278580.1 kx_231 rfl) ?_
            refine r_iload_n e278587 ?_
            refine r_iconst 2 rfl ?_
            refine q_iadd (v268583.toInt + 2) rfl (by omega) (fun v279269 hv279269 => ?_)
            refine r_iload_n e278588 ?_
            refine q_iadd (v279269.toInt + x278578.toInt) rfl (by omega) (fun v279270 hv279270 => ?_)
            refine r_aload_n e278586 ?_
            refine q_getR (Sh.ref hI278580.1 kx_231 rfl) ?_
            refine r_iload_n e278588 ?_
            obtain ⟨v279271, hv279271⟩ : ∃ v, eA g268538 237 x278578.toInt = v := ⟨_, rfl⟩
            refine q_iald (Sh.arr hI278580.1 ka_237) x278578.toInt rfl (by omega) v279271 ((eA_c (q278590.2.1 237 (by decide))).trans hv279271) ?_
            refine q_iast (Sh.arr hI278580.1 ka_233) ((900 * v214810.toInt + x278578.toInt + 112)) (by omega) (by omega) ?_
            have x279274 := HI.eqA hI278580 (p := 233) (j := 2) (((q278593 2 (by decide) (by decide)).trans ((eA_c (q268547.2.1 233 (by decide))).trans hv214810)))
            have hI279272 := HI.wfree hI278580 (j := (900 * v214810.toInt + x278578.toInt + 112)) (v := v279271) ⟨by omega, by omega⟩
            have hF279273 := Fr.wA (p := 233) (j := (900 * v214810.toInt + x278578.toInt + 112)) (v := v279271) hF278581 rfl
            refine q_iinc e278588 (x278578.toInt + 1) rfl (by omega) (fun v279275 hv279275 => ?_)
            refine r_goto ?_
            exact ih278584 (96 - v279275.toInt) _ _ ⟨v279275, by first | rfl | omega, hI279272, hF279273, ((gI_sW).trans e278585), (w_p1 (by decide) (Or.inr rfl) e278586), (w_p1 (by decide) (Or.inr rfl) e278587), (w_e1 _ _ _), by omega, (Fr.wA (p := 233) q278590 rfl), ((congrArg Int32.toInt ((eA_sA_ne (i := v268583.toInt + 1) hI278580.1 ka_233 (by omega) (by omega) (by omega)))).trans q278591), (fun i i0 i1 => (Decidable.em (i = x278578.toInt)).elim (fun e => by rw [e]; exact (congrArg Int32.toInt (eA_sA_eq hI278580.1 ka_233 (by omega) (by omega) (by omega))).trans (congrArg Int32.toInt hv279271).symm) (fun e => (congrArg Int32.toInt ((eA_sA_ne (i := v268583.toInt + 2 + i) hI278580.1 ka_233 (by omega) (by omega) (by omega)))).trans (q278592 i i0 (by omega)))), (fun i i0 i1 => ((eA_sA_ne (i := i) hI278580.1 ka_233 (by omega) (by omega) (by omega))).trans (q278593 i i0 i1))⟩ ⟨by omega, by omega⟩
        · have c268581_ : v268571.toInt ≠ 0 := en_k_eq_f c268581
          refine At.enter rfl ?_
          refine r_aload_n e268545 ?_
          refine r_bipush (-6) rfl ?_
          refine r_callV 115 rfl [.ref 231, .int (-6)] [] (Nat.le_of_ble_eq_true rfl) rfl (T_X11_tell_231 _ hI268579 (-6) (by decide)) ?_
          rintro _ _ ⟨g279276, rfl, hI279277, hF279278, v279279, rfl, hr279280⟩
          refine At.sti ?_
          have hF279281 := Fr.tr hF268580 hF279278 rfl rfl
          have zv279282 : ((-6) : Int32).toInt = (-6) := rfl
          refine At.enter rfl ?_
          refine r_ireti ?_
          have x279283 := HI.eqI hI279277 (p := 231) (b := 8) (((hF279278.1 231 8 mf_X11_tell_231_231_8).trans (gI_sI_eq hI268539.1 kx_231 rfl _)))
          have x279285 := HI.eqA hI0 (p := 233) (j := 2) (hv214810)
          have x279286 := HI.eqA hI279277 (p := 233) (j := 2) ((((eA_c (hF279278.2.1 233 ma_X11_tell_231_233)).trans ((eA_c gA_sI).trans (eA_c (q268547.2.1 233 (by decide))))).trans hv214810))
          obtain ⟨v279289, hv279289⟩ : ∃ v, gI g268538 231 13 = v := ⟨_, rfl⟩
          have tv279289 := congrArg Int32.toInt hv279289
          have x279292 := HI.eqI hI279277 (p := 231) (b := 13) ((((hF279278.1 231 13 mf_X11_tell_231_231_13).trans (gI_sI_ne (by decide))).trans hv279289))
          have ce := CDM.end_ q268554
          have y279293 : pI g268538 11 = (gI g268538 231 11).toInt := rfl
          obtain ⟨v279294, hv279294⟩ : ∃ v, gI g279276 231 1 = v := ⟨_, rfl⟩
          have tv279294 := congrArg Int32.toInt hv279294
          exact ⟨_, rfl, hI279277, hF279281, _, rfl, by omega, ⟨(fun i i0 i1 i2 => eA_c (((hF279278.2.1 233 ma_X11_tell_231_233).trans ((gA_sI).trans (q268547.2.1 233 (by decide)))))), by omega, Or.inr ⟨show (eA g0 233 2).toInt ≠ 6 from by omega, ⟨_, hskp0, Or.inr ⟨by omega, CLM.badr q268555 (show (gI g268538 231 14).toInt ≠ 0 from by omega) (show (gI _ 231 13).toInt = (gI g268538 231 13).toInt from (by first | exact x279292.trans tv279289.symm | omega))⟩⟩, Or.inl ⟨by omega, (show (eA _ 233 2).toInt = (eA g0 233 2).toInt from by omega)⟩⟩, (SU.mk (by omega))⟩⟩
      · have c268578_ : v268571.toInt = 0 := en_k_ne_f c268578
        refine At.enter rfl ?_
        refine r_aload_n e268545 ?_
        refine q_getI (Sh.int hI268539.1 kx_231 rfl) v268569 hv268569 ?_
        refine r_ifs 92 rfl (fun c279296 => ?_) (fun c279296 => ?_)
        · have c279296_ : v268569.toInt = 0 := en_k_eq_t c279296
          refine At.enter rfl ?_
          refine r_aload_n e268545 ?_
          refine r_iconst 0 rfl ?_
          refine q_putI (Sh.int hI268539.1 kx_231 rfl) rfl ?_
          have hI279297 := HI.wI1 hI268539 kx_231 rfl (p := 231) (b := 8) (v := 0) rfl (by decide)
          have hF279298 := Fr.wI (p := 231) (b := 8) (v := 0) hF268540 rfl
          refine r_aload_n e268545 ?_
          refine q_getI (Sh.int hI279297.1 kx_231 rfl) v268571 ((gI_sI_ne (by decide)).trans hv268571) ?_
          refine r_ifs 109 rfl (fun c279299 => ?_) (fun c279299 => ?_)
          · have c279299_ : v268571.toInt = 0 := en_k_eq_t c279299
            refine At.enter rfl ?_
            refine r_bipush 110 rfl ?_
            refine r_sipush 900 rfl ?_
            refine r_aload_n e268545 ?_
            refine q_getR (Sh.ref hI279297.1 kx_231 rfl) ?_
            refine r_iconst 2 rfl ?_
            refine q_iald (Sh.arr hI279297.1 ka_233) 2 rfl (by decide) v214810 ((eA_c ((gA_sI).trans (q268547.2.1 233 (by decide)))).trans hv214810) ?_
            refine q_imul (900 * v214810.toInt) rfl (by omega) (fun v279300 hv279300 => ?_)
            refine q_iadd (110 + v279300.toInt) rfl (by omega) (fun v279301 hv279301 => ?_)
            refine r_istore_n _ rfl ?_
            refine r_aload_n (w_p1 (by decide) (Or.inr rfl) e268545) ?_
            refine q_getR (Sh.ref hI279297.1 kx_231 rfl) ?_
            refine r_iload_n (w_e1 _ _ _) ?_
            refine r_iconst 1 rfl ?_
            refine q_iadd (v279301.toInt + 1) rfl (by omega) (fun v279302 hv279302 => ?_)
            refine r_aload_n (w_p1 (by decide) (Or.inr rfl) e268545) ?_
            refine q_getI (Sh.int hI279297.1 kx_231 rfl) v268573 ((gI_sI_ne (by decide)).trans hv268573) ?_
            refine q_iast (Sh.arr hI279297.1 ka_233) ((900 * v214810.toInt + 111)) (by omega) (by omega) ?_
            have x279305 := HI.eqA hI279297 (p := 233) (j := 2) ((((eA_c gA_sI).trans (eA_c (q268547.2.1 233 (by decide)))).trans hv214810))
            have hI279303 := HI.wfree hI279297 (j := (900 * v214810.toInt + 111)) (v := v268573) ⟨by omega, by omega⟩
            have hF279304 := Fr.wA (p := 233) (j := (900 * v214810.toInt + 111)) (v := v268573) hF279298 rfl
            refine r_iconst 0 rfl ?_
            refine r_istore_n _ rfl ?_
            refine Ar.fall 144 rfl ?_
            refine w_loopI (fun n_ l_ g_ => ∃ x289296 : Int32, n_ = 96 - x289296.toInt ∧ HI g_ ∧ Fr F_X11_law_231 A_X11_law_231 g0 g_ ∧ gI g_ 231 8 = 0 ∧ en_get 0 l_ = some (.ref 231) ∧ en_get 1 l_ = some (.int v279301) ∧ en_get 2 l_ = some (.int x289296) ∧ (0 ≤ x289296.toInt ∧ x289296.toInt ≤ 96) ∧ (Fr [(231, 8)] [233] g268538 g_) ∧ ((eA g_ 233 (v279301.toInt + 1)).toInt = (gI g268538 231 15).toInt) ∧ (∀ i : Int, 0 ≤ i → i < x289296.toInt → (eA g_ 233 (v279301.toInt + 2 + i)).toInt = (eA g268538 237 i).toInt) ∧ (∀ i : Int, 0 ≤ i → i < 110 → eA g_ 233 i = eA g268538 233 i)) ?_ (96 - 0) ⟨0, by first | rfl | omega, hI279303, hF279304, ((gI_sW).trans (gI_sI_eq hI268539.1 kx_231 rfl _)), (w_p1 (by decide) (Or.inr rfl) (w_p1 (by decide) (Or.inr rfl) e268545)), (w_p1 (by decide) (Or.inr rfl) (w_e1 _ _ _)), (w_e1 _ _ _), by decide, (Fr.wA (p := 233) (Fr.wI (p := 231) (b := 8) Fr.rf rfl) rfl), ((congrArg Int32.toInt (eA_sA_eq hI279297.1 ka_233 (by omega) (by omega) (by omega))).trans (by omega)), (fun i i0 i1 => absurd i1 (by omega)), (fun i i0 i1 => ((eA_sA_ne (i := i) hI279297.1 ka_233 (by omega) (by omega) (by omega)).trans (eA_c gA_sI)))⟩
            rintro n289301 l289300 g289297 ⟨x289296, hm289315, hI289298, hF289299, e289303, e289304, e289305, e289306, r289307, q289308, q289309, q289310, q289311⟩ ih289302
            have tv289316 := congrArg Int32.toInt e289303
            have t289319 := congrArg Int32.toInt ((q289311 2 (by decide) (by decide)).trans ((eA_c (q268547.2.1 233 (by decide))).trans hv214810))
            refine At.enter rfl ?_
            refine r_iload_n e289306 ?_
            refine r_bipush 8 rfl ?_
            refine r_aload_n e289304 ?_
            refine q_getI (Sh.int hI289298.1 kx_231 rfl) v268573 ((q289308.1 231 15 (by decide)).trans hv268573) ?_
            refine q_imul (8 * v268573.toInt) rfl (by omega) (fun v289320 hv289320 => ?_)
            have bv289322 := q_bnd x289296
            have bv289323 := q_bnd v289320
            refine r_ics 155 rfl (fun c289321 => ?_) (fun c289321 => ?_)
            · have c289321_ : x289296.toInt ≥ v289320.toInt := en_i_ge_t c289321
              refine At.enter rfl ?_
              refine r_iconst 0 rfl ?_
              refine r_istore_n _ rfl ?_
              refine Ar.fall 179 rfl ?_
              refine w_loopI (fun n_ l_ g_ => ∃ x289919 : Int32, n_ = 400 - x289919.toInt ∧ HI g_ ∧ Fr F_X11_law_231 A_X11_law_231 g0 g_ ∧ gI g_ 231 8 = 0 ∧ en_get 0 l_ = some (.ref 231) ∧ en_get 1 l_ = some (.int v279301) ∧ en_get 2 l_ = some (.int x289919) ∧ (0 ≤ x289919.toInt ∧ x289919.toInt ≤ 400) ∧ (Fr [(231, 8)] [233] g268538 g_) ∧ ((eA g_ 233 (v279301.toInt + 1)).toInt = (gI g268538 231 15).toInt) ∧ (∀ i : Int, 0 ≤ i → i < 8 * (gI g268538 231 15).toInt → (eA g_ 233 (v279301.toInt + 2 + i)).toInt = (eA g268538 237 i).toInt) ∧ (∀ i : Int, 0 ≤ i → i < 110 → eA g_ 233 i = eA g268538 233 i) ∧ (∀ i : Int, 0 ≤ i → i < x289919.toInt → (eA g_ 233 (v279301.toInt + 98 + 2 * i)).toInt = (eA g268538 238 i).toInt ∧ (eA g_ 233 (v279301.toInt + 98 + 2 * i + 1)).toInt = (eA g268538 239 i).toInt)) ?_ (400 - 0) ⟨0, by first | rfl | omega, hI289298, hF289299, e289303, (w_p1 (by decide) (Or.inr rfl) e289304), (w_p1 (by decide) (Or.inr rfl) e289305), (w_e1 _ _ _), by decide, (Fr.tr Fr.rf q289308 rfl rfl), ((congrArg Int32.toInt (rfl)).trans q289309), (fun i i0 i1 => q289310 i i0 (by omega)), (fun i i0 i1 => (rfl).trans (q289311 i i0 i1)), (fun i i0 i1 => absurd i1 (by omega))⟩
              rintro n289924 l289923 g289920 ⟨x289919, hm289939, hI289921, hF289922, e289926, e289927, e289928, e289929, r289930, q289931, q289932, q289933, q289934, q289935⟩ ih289925
              have tv289940 := congrArg Int32.toInt e289926
              have t289943 := congrArg Int32.toInt ((q289934 2 (by decide) (by decide)).trans ((eA_c (q268547.2.1 233 (by decide))).trans hv214810))
              refine At.enter rfl ?_
              refine r_iload_n e289929 ?_
              refine r_aload_n e289927 ?_
              refine q_getI (Sh.int hI289921.1 kx_231 rfl) v268575 ((q289931.1 231 17 (by decide)).trans hv268575) ?_
              have bv289945 := q_bnd x289919
              have bv289946 := q_bnd v268575
              refine r_ics 187 rfl (fun c289944 => ?_) (fun c289944 => ?_)
              · have c289944_ : x289919.toInt ≥ v268575.toInt := en_i_ge_t c289944
                refine At.enter rfl ?_
                refine r_aload_n e289927 ?_
                refine q_getR (Sh.ref hI289921.1 kx_231 rfl) ?_
                refine r_iconst 2 rfl ?_
                refine r_dup2 ⟨rfl, rfl⟩ ?_
                refine q_iald (Sh.arr hI289921.1 ka_233) 2 rfl (by decide) v214810 ((q289934 2 (by decide) (by decide)).trans ((eA_c (q268547.2.1 233 (by decide))).trans hv214810)) ?_
                refine r_iconst 1 rfl ?_
                refine q_iadd (v214810.toInt + 1) rfl (by omega) (fun v289947 hv289947 => ?_)
                refine q_iast (Sh.arr hI289921.1 ka_233) (2) rfl (by decide) ?_
                have x289950 := HI.eqA hI289921 (p := 233) (j := 2) (((q289934 2 (by decide) (by decide)).trans ((eA_c (q268547.2.1 233 (by decide))).trans hv214810)))
                have hI289948 := HI.wt2 hI289921 (v := v289947) (by omega) (by omega) (by rw [show 110 + 900 * (eA _ 233 2).toInt = v279301.toInt by omega]; exact LAW.mk (q268553 (by omega)).2 ⟨by omega, by omega⟩ (by omega) q289932 q289933 (fun i i0 i1 => q289935 i i0 (by omega)))
                have hF289949 := Fr.wA (p := 233) (j := 2) (v := v289947) hF289922 rfl
                refine r_aload_n e289927 ?_
                refine r_aload_n e289927 ?_
                refine q_getR (Sh.ref hI289948.1 kx_231 rfl) ?_
                refine r_iconst 2 rfl ?_
                refine q_iald (Sh.arr hI289948.1 ka_233) 2 rfl (by decide) v289947 (eA_sA_eq hI289921.1 ka_233 (by first | rfl | omega) (by first | decide | omega) (by first | decide | omega)) ?_
                refine r_iconst 1 rfl ?_
                refine q_isub (v289947.toInt - 1) rfl (by omega) (fun v289951 hv289951 => ?_)
                refine r_callV 255 rfl [.ref 231, .int v289951] [] (Nat.le_of_ble_eq_true rfl) rfl (T_X11_tell_231 _ hI289948 v289951 (by omega)) ?_
                rintro _ _ ⟨g289952, rfl, hI289953, hF289954, v289955, rfl, hr289956⟩
                refine At.sti ?_
                have hF289957 := Fr.tr hF289949 hF289954 rfl rfl
                refine At.enter rfl ?_
                refine r_ireti ?_
                have x289958 := HI.eqI hI289953 (p := 231) (b := 8) ((((hF289954.1 231 8 mf_X11_tell_231_231_8).trans (gI_sW)).trans e289926))
                have x289960 := HI.eqA hI0 (p := 233) (j := 2) (hv214810)
                have x289961 := HI.eqA hI289953 (p := 233) (j := 2) (((eA_c (hF289954.2.1 233 ma_X11_tell_231_233)).trans (eA_sA_eq hI289921.1 ka_233 (by first | rfl | omega) (by first | decide | omega) (by first | decide | omega))))
                obtain ⟨v289964, hv289964⟩ : ∃ v, gI g268538 231 13 = v := ⟨_, rfl⟩
                have tv289964 := congrArg Int32.toInt hv289964
                have x289967 := HI.eqI hI289953 (p := 231) (b := 13) ((((hF289954.1 231 13 mf_X11_tell_231_231_13).trans ((gI_sW).trans (q289931.1 231 13 (by decide)))).trans hv289964))
                have ce := CDM.end_ q268554
                have y289968 : pI g268538 11 = (gI g268538 231 11).toInt := rfl
                obtain ⟨v289969, hv289969⟩ : ∃ v, gI g289952 231 1 = v := ⟨_, rfl⟩
                have tv289969 := congrArg Int32.toInt hv289969
                exact ⟨_, rfl, hI289953, hF289957, _, rfl, by omega, ⟨(fun i i0 i1 i2 => ((eA_c (hF289954.2.1 233 ma_X11_tell_231_233)).trans ((eA_sA_ne (i := i) hI289921.1 ka_233 (by omega) (by omega) (by omega)).trans ((q289934 i i0 i1).trans (eA_c ((q268547.2.1 233 (by decide)))))))), by omega, Or.inr ⟨show (eA g0 233 2).toInt ≠ 6 from by omega, ⟨_, hskp0, Or.inl ⟨by omega, CLM.fin q268555 (show (gI g268538 231 14).toInt = 0 from by omega) (TKM.someC q268554 ((q268547.2.1 236 (by decide))) ((q268547.1 231 8 (by decide)))).choose_spec (by omega) (show (gI _ 231 13).toInt = (gI g268538 231 13).toInt from (by first | exact x289967.trans tv289964.symm | omega))⟩⟩, Or.inr ⟨show _ = (eA g0 233 2).toInt from by omega, by omega, show (eA _ 233 2).toInt = (eA g0 233 2).toInt + 1 from by omega⟩⟩, (SU.mk (by omega))⟩⟩
              · have c289944_ : x289919.toInt < v268575.toInt := en_i_ge_f c289944
                refine At.enter rfl ?_
                refine r_aload_n e289927 ?_
                refine q_getR (Sh.ref hI289921.1 kx_231 rfl) ?_
                refine r_iload_n e289928 ?_
                refine r_bipush 98 rfl ?_
                refine q_iadd (v279301.toInt + 98) rfl (by omega) (fun v289971 hv289971 => ?_)
                refine r_iconst 2 rfl ?_
                refine r_iload_n e289929 ?_
                refine q_imul (2 * x289919.toInt) rfl (by omega) (fun v289972 hv289972 => ?_)
                refine q_iadd (v289971.toInt + v289972.toInt) rfl (by omega) (fun v289973 hv289973 => ?_)
                refine r_aload_n e289927 ?_
                refine q_getR (Sh.ref hI289921.1 kx_231 rfl) ?_
                refine r_iload_n e289929 ?_
                obtain ⟨v289974, hv289974⟩ : ∃ v, eA g268538 238 x289919.toInt = v := ⟨_, rfl⟩
                refine q_iald (Sh.arr hI289921.1 ka_238) x289919.toInt rfl (by omega) v289974 ((eA_c (q289931.2.1 238 (by decide))).trans hv289974) ?_
                refine q_iast (Sh.arr hI289921.1 ka_233) ((900 * v214810.toInt + 2 * x289919.toInt + 208)) (by omega) (by omega) ?_
                have x289977 := HI.eqA hI289921 (p := 233) (j := 2) (((q289934 2 (by decide) (by decide)).trans ((eA_c (q268547.2.1 233 (by decide))).trans hv214810)))
                have hI289975 := HI.wfree hI289921 (j := (900 * v214810.toInt + 2 * x289919.toInt + 208)) (v := v289974) ⟨by omega, by omega⟩
                have hF289976 := Fr.wA (p := 233) (j := (900 * v214810.toInt + 2 * x289919.toInt + 208)) (v := v289974) hF289922 rfl
                refine r_aload_n e289927 ?_
                refine q_getR (Sh.ref hI289975.1 kx_231 rfl) ?_
                refine r_iload_n e289928 ?_
                refine r_bipush 98 rfl ?_
                refine q_iadd (v279301.toInt + 98) rfl (by omega) (fun v289978 hv289978 => ?_)
                refine r_iconst 2 rfl ?_
                refine r_iload_n e289929 ?_
                refine q_imul (2 * x289919.toInt) rfl (by omega) (fun v289979 hv289979 => ?_)
                refine q_iadd (v289978.toInt + v289979.toInt) rfl (by omega) (fun v289980 hv289980 => ?_)
                refine r_iconst 1 rfl ?_
                refine q_iadd (v289980.toInt + 1) rfl (by omega) (fun v289981 hv289981 => ?_)
                refine r_aload_n e289927 ?_
                refine q_getR (Sh.ref hI289975.1 kx_231 rfl) ?_
                refine r_iload_n e289929 ?_
                obtain ⟨v289982, hv289982⟩ : ∃ v, eA g268538 239 x289919.toInt = v := ⟨_, rfl⟩
                refine q_iald (Sh.arr hI289975.1 ka_239) x289919.toInt rfl (by omega) v289982 ((eA_c ((gA_sA_ne (by decide)).trans (q289931.2.1 239 (by decide)))).trans hv289982) ?_
                refine q_iast (Sh.arr hI289975.1 ka_233) ((900 * v214810.toInt + 2 * x289919.toInt + 209)) (by omega) (by omega) ?_
                have x289985 := HI.eqA hI289975 (p := 233) (j := 2) (((eA_sA_ne hI289921.1 ka_233 (by first | decide | omega) (by first | decide | omega) (by first | decide | omega)).trans ((q289934 2 (by decide) (by decide)).trans ((eA_c (q268547.2.1 233 (by decide))).trans hv214810))))
                have hI289983 := HI.wfree hI289975 (j := (900 * v214810.toInt + 2 * x289919.toInt + 209)) (v := v289982) ⟨by omega, by omega⟩
                have hF289984 := Fr.wA (p := 233) (j := (900 * v214810.toInt + 2 * x289919.toInt + 209)) (v := v289982) hF289976 rfl
                refine q_iinc e289929 (x289919.toInt + 1) rfl (by omega) (fun v289986 hv289986 => ?_)
                refine r_goto ?_
                exact ih289925 (400 - v289986.toInt) _ _ ⟨v289986, by first | rfl | omega, hI289983, hF289984, (((gI_sW).trans (gI_sW)).trans e289926), (w_p1 (by decide) (Or.inr rfl) e289927), (w_p1 (by decide) (Or.inr rfl) e289928), (w_e1 _ _ _), by omega, (Fr.wA (p := 233) (Fr.wA (p := 233) q289931 rfl) rfl), ((congrArg Int32.toInt (((eA_sA_ne (i := v279301.toInt + 1) hI289975.1 ka_233 (by omega) (by omega) (by omega)).trans (eA_sA_ne (i := v279301.toInt + 1) hI289921.1 ka_233 (by omega) (by omega) (by omega))))).trans q289932), (fun i i0 i1 => (congrArg Int32.toInt (((eA_sA_ne (i := v279301.toInt + 2 + i) hI289975.1 ka_233 (by omega) (by omega) (by omega)).trans (eA_sA_ne (i := v279301.toInt + 2 + i) hI289921.1 ka_233 (by omega) (by omega) (by omega))))).trans (q289933 i i0 i1)), (fun i i0 i1 => (((eA_sA_ne (i := i) hI289975.1 ka_233 (by omega) (by omega) (by omega)).trans (eA_sA_ne (i := i) hI289921.1 ka_233 (by omega) (by omega) (by omega)))).trans (q289934 i i0 i1)), (fun i i0 i1 => (Decidable.em (i = x289919.toInt)).elim (fun e => by rw [e]; exact ⟨((congrArg Int32.toInt ((eA_sA_ne (i := v279301.toInt + 98 + 2 * x289919.toInt) hI289975.1 ka_233 (by omega) (by omega) (by omega)).trans (eA_sA_eq hI289921.1 ka_233 (by omega) (by omega) (by omega)))).trans (congrArg Int32.toInt hv289974).symm), ((congrArg Int32.toInt (eA_sA_eq hI289975.1 ka_233 (by omega) (by omega) (by omega))).trans (congrArg Int32.toInt hv289982).symm)⟩) (fun e => ⟨(congrArg Int32.toInt (((eA_sA_ne (i := v279301.toInt + 98 + 2 * i) hI289975.1 ka_233 (by omega) (by omega) (by omega)).trans (eA_sA_ne (i := v279301.toInt + 98 + 2 * i) hI289921.1 ka_233 (by omega) (by omega) (by omega))))).trans (q289935 i i0 (by omega)).1, (congrArg Int32.toInt (((eA_sA_ne (i := v279301.toInt + 98 + 2 * i + 1) hI289975.1 ka_233 (by omega) (by omega) (by omega)).trans (eA_sA_ne (i := v279301.toInt + 98 + 2 * i + 1) hI289921.1 ka_233 (by omega) (by omega) (by omega))))).trans (q289935 i i0 (by omega)).2⟩))⟩ ⟨by omega, by omega⟩
            · have c289321_ : x289296.toInt < v289320.toInt := en_i_ge_f c289321
              refine At.enter rfl ?_
              refine r_aload_n e289304 ?_
              refine q_getR (Sh.ref hI289298.1 kx_231 rfl) ?_
              refine r_iload_n e289305 ?_
              refine r_iconst 2 rfl ?_
              refine q_iadd (v279301.toInt + 2) rfl (by omega) (fun v289987 hv289987 => ?_)
              refine r_iload_n e289306 ?_
              refine q_iadd (v289987.toInt + x289296.toInt) rfl (by omega) (fun v289988 hv289988 => ?_)
              refine r_aload_n e289304 ?_
              refine q_getR (Sh.ref hI289298.1 kx_231 rfl) ?_
              refine r_iload_n e289306 ?_
              obtain ⟨v289989, hv289989⟩ : ∃ v, eA g268538 237 x289296.toInt = v := ⟨_, rfl⟩
              refine q_iald (Sh.arr hI289298.1 ka_237) x289296.toInt rfl (by omega) v289989 ((eA_c (q289308.2.1 237 (by decide))).trans hv289989) ?_
              refine q_iast (Sh.arr hI289298.1 ka_233) ((900 * v214810.toInt + x289296.toInt + 112)) (by omega) (by omega) ?_
              have x289992 := HI.eqA hI289298 (p := 233) (j := 2) (((q289311 2 (by decide) (by decide)).trans ((eA_c (q268547.2.1 233 (by decide))).trans hv214810)))
              have hI289990 := HI.wfree hI289298 (j := (900 * v214810.toInt + x289296.toInt + 112)) (v := v289989) ⟨by omega, by omega⟩
              have hF289991 := Fr.wA (p := 233) (j := (900 * v214810.toInt + x289296.toInt + 112)) (v := v289989) hF289299 rfl
              refine q_iinc e289306 (x289296.toInt + 1) rfl (by omega) (fun v289993 hv289993 => ?_)
              refine r_goto ?_
              exact ih289302 (96 - v289993.toInt) _ _ ⟨v289993, by first | rfl | omega, hI289990, hF289991, ((gI_sW).trans e289303), (w_p1 (by decide) (Or.inr rfl) e289304), (w_p1 (by decide) (Or.inr rfl) e289305), (w_e1 _ _ _), by omega, (Fr.wA (p := 233) q289308 rfl), ((congrArg Int32.toInt ((eA_sA_ne (i := v279301.toInt + 1) hI289298.1 ka_233 (by omega) (by omega) (by omega)))).trans q289309), (fun i i0 i1 => (Decidable.em (i = x289296.toInt)).elim (fun e => by rw [e]; exact (congrArg Int32.toInt (eA_sA_eq hI289298.1 ka_233 (by omega) (by omega) (by omega))).trans (congrArg Int32.toInt hv289989).symm) (fun e => (congrArg Int32.toInt ((eA_sA_ne (i := v279301.toInt + 2 + i) hI289298.1 ka_233 (by omega) (by omega) (by omega)))).trans (q289310 i i0 (by omega)))), (fun i i0 i1 => ((eA_sA_ne (i := i) hI289298.1 ka_233 (by omega) (by omega) (by omega))).trans (q289311 i i0 i1))⟩ ⟨by omega, by omega⟩
          · have c279299_ : v268571.toInt ≠ 0 := en_k_eq_f c279299
            exfalso; omega
        · have c279296_ : v268569.toInt ≠ 0 := en_k_eq_f c279296
          refine At.enter rfl ?_
          refine r_aload_n e268545 ?_
          refine r_iconst 0 rfl ?_
          refine r_callV 97 rfl [.ref 231, .int 0] [] (Nat.le_of_ble_eq_true rfl) rfl (T_X11_must_231 _ hI268539 0 (by decide) (by refine ⟨?_, ?_, ?_, ?_⟩ <;> omega) q268552 q268554) ?_
          rintro _ _ ⟨g289999, rfl, hI290000, hF290001, rfl, hr290003⟩
          refine At.stn ?_
          have hF290004 := Fr.tr hF268540 hF290001 rfl rfl
          have x290011 := HI.eqI hI290000 (p := 231) (b := 8) ((((hF290001.1 231 8 mf_X11_must_231_231_8).trans (q268547.1 231 8 (by decide))).trans hv1))
          obtain ⟨v290012, hv290012⟩ : ∃ v, gI g289999 231 9 = v := ⟨_, rfl⟩
          have rv290012 := RgF.at hI290000.2.1 (p := 231) (b := 9) rfl
          rw [hv290012] at rv290012
          dsimp only at rv290012
          have tv290012 := congrArg Int32.toInt hv290012
          obtain ⟨v290014, hv290014⟩ : ∃ v, gI g289999 231 10 = v := ⟨_, rfl⟩
          have rv290014 := RgF.at hI290000.2.1 (p := 231) (b := 10) rfl
          rw [hv290014] at rv290014
          dsimp only at rv290014
          have tv290014 := congrArg Int32.toInt hv290014
          obtain ⟨v290016, hv290016⟩ : ∃ v, gI g289999 231 11 = v := ⟨_, rfl⟩
          have tv290016 := congrArg Int32.toInt hv290016
          obtain ⟨v290018, hv290018⟩ : ∃ v, gI g289999 231 14 = v := ⟨_, rfl⟩
          have tv290018 := congrArg Int32.toInt hv290018
          obtain ⟨c290020, c290021, c290022, c290023, c290024, c290025, c290026, c290027⟩ := hr290003
          obtain ⟨v290028, hv290028⟩ : ∃ v, gI g268538 231 13 = v := ⟨_, rfl⟩
          have tv290028 := congrArg Int32.toInt hv290028
          obtain ⟨v290031, hv290031⟩ : ∃ v, gI g289999 231 13 = v := ⟨_, rfl⟩
          have tv290031 := congrArg Int32.toInt hv290031
          have hK290033 := c290027.1
          refine At.enter rfl ?_
          refine r_aload_n e268545 ?_
          refine r_iconst 0 rfl ?_
          refine q_putI (Sh.int hI290000.1 kx_231 rfl) rfl ?_
          have hI290034 := HI.wI1 hI290000 kx_231 rfl (p := 231) (b := 8) (v := 0) rfl (by decide)
          have hF290035 := Fr.wI (p := 231) (b := 8) (v := 0) hF290004 rfl
          refine r_aload_n e268545 ?_
          refine q_getI (Sh.int hI290034.1 kx_231 rfl) v290018 ((gI_sI_ne (by decide)).trans hv290018) ?_
          refine r_ifs 109 rfl (fun c290036 => ?_) (fun c290036 => ?_)
          · have c290036_ : v290018.toInt = 0 := en_k_eq_t c290036
            obtain ⟨i290037, i290038, i290039⟩ := c290026 (by omega)
            obtain ⟨i290040, i290041⟩ := MUSTP.z c290027 (by omega) (by omega)
            refine At.enter rfl ?_
            refine r_bipush 110 rfl ?_
            refine r_sipush 900 rfl ?_
            refine r_aload_n e268545 ?_
            refine q_getR (Sh.ref hI290034.1 kx_231 rfl) ?_
            refine r_iconst 2 rfl ?_
            refine q_iald (Sh.arr hI290034.1 ka_233) 2 rfl (by decide) v214810 ((eA_c ((gA_sI).trans ((hF290001.2.1 233 ma_X11_must_231_233).trans (q268547.2.1 233 (by decide))))).trans hv214810) ?_
            refine q_imul (900 * v214810.toInt) rfl (by omega) (fun v290042 hv290042 => ?_)
            refine q_iadd (110 + v290042.toInt) rfl (by omega) (fun v290043 hv290043 => ?_)
            refine r_istore_n _ rfl ?_
            refine r_aload_n (w_p1 (by decide) (Or.inr rfl) e268545) ?_
            refine q_getR (Sh.ref hI290034.1 kx_231 rfl) ?_
            refine r_iload_n (w_e1 _ _ _) ?_
            refine r_iconst 1 rfl ?_
            refine q_iadd (v290043.toInt + 1) rfl (by omega) (fun v290044 hv290044 => ?_)
            refine r_aload_n (w_p1 (by decide) (Or.inr rfl) e268545) ?_
            refine q_getI (Sh.int hI290034.1 kx_231 rfl) v268573 (((gI_sI_ne (by decide)).trans (hF290001.1 231 15 mf_X11_must_231_231_15)).trans hv268573) ?_
            refine q_iast (Sh.arr hI290034.1 ka_233) ((900 * v214810.toInt + 111)) (by omega) (by omega) ?_
            have x290047 := HI.eqA hI290034 (p := 233) (j := 2) ((((eA_c gA_sI).trans ((eA_c (hF290001.2.1 233 ma_X11_must_231_233)).trans (eA_c (q268547.2.1 233 (by decide))))).trans hv214810))
            have hI290045 := HI.wfree hI290034 (j := (900 * v214810.toInt + 111)) (v := v268573) ⟨by omega, by omega⟩
            have hF290046 := Fr.wA (p := 233) (j := (900 * v214810.toInt + 111)) (v := v268573) hF290035 rfl
            refine r_iconst 0 rfl ?_
            refine r_istore_n _ rfl ?_
            refine Ar.fall 144 rfl ?_
            have x300055 := HI.eqI hI290000 (p := 231) (b := 15) (((hF290001.1 231 15 mf_X11_must_231_231_15).trans hv268573))
            have x300056 := HI.eqI hI290000 (p := 231) (b := 17) (((hF290001.1 231 17 mf_X11_must_231_231_17).trans hv268575))
            refine w_loopI (fun n_ l_ g_ => ∃ x300038 : Int32, n_ = 96 - x300038.toInt ∧ HI g_ ∧ Fr F_X11_law_231 A_X11_law_231 g0 g_ ∧ gI g_ 231 8 = 0 ∧ en_get 0 l_ = some (.ref 231) ∧ en_get 1 l_ = some (.int v290043) ∧ en_get 2 l_ = some (.int x300038) ∧ (0 ≤ x300038.toInt ∧ x300038.toInt ≤ 96) ∧ (Fr [(231, 8)] [233] g289999 g_) ∧ ((eA g_ 233 (v290043.toInt + 1)).toInt = (gI g289999 231 15).toInt) ∧ (∀ i : Int, 0 ≤ i → i < x300038.toInt → (eA g_ 233 (v290043.toInt + 2 + i)).toInt = (eA g289999 237 i).toInt) ∧ (∀ i : Int, 0 ≤ i → i < 110 → eA g_ 233 i = eA g289999 233 i)) ?_ (96 - 0) ⟨0, by first | rfl | omega, hI290045, hF290046, ((gI_sW).trans (gI_sI_eq hI290000.1 kx_231 rfl _)), (w_p1 (by decide) (Or.inr rfl) (w_p1 (by decide) (Or.inr rfl) e268545)), (w_p1 (by decide) (Or.inr rfl) (w_e1 _ _ _)), (w_e1 _ _ _), by decide, (Fr.wA (p := 233) (Fr.wI (p := 231) (b := 8) Fr.rf rfl) rfl), ((congrArg Int32.toInt (eA_sA_eq hI290034.1 ka_233 (by omega) (by omega) (by omega))).trans (by omega)), (fun i i0 i1 => absurd i1 (by omega)), (fun i i0 i1 => ((eA_sA_ne (i := i) hI290034.1 ka_233 (by omega) (by omega) (by omega)).trans (eA_c gA_sI)))⟩
            rintro n300043 l300042 g300039 ⟨x300038, hm300057, hI300040, hF300041, e300045, e300046, e300047, e300048, r300049, q300050, q300051, q300052, q300053⟩ ih300044
            have tv300058 := congrArg Int32.toInt e300045
            have t300061 := congrArg Int32.toInt ((q300053 2 (by decide) (by decide)).trans (((eA_c (hF290001.2.1 233 ma_X11_must_231_233)).trans (eA_c (q268547.2.1 233 (by decide)))).trans hv214810))
            refine At.enter rfl ?_
            refine r_iload_n e300048 ?_
            refine r_bipush 8 rfl ?_
            refine r_aload_n e300046 ?_
            refine q_getI (Sh.int hI300040.1 kx_231 rfl) v268573 (((q300050.1 231 15 (by decide)).trans (hF290001.1 231 15 mf_X11_must_231_231_15)).trans hv268573) ?_
            refine q_imul (8 * v268573.toInt) rfl (by omega) (fun v300062 hv300062 => ?_)
            have bv300064 := q_bnd x300038
            have bv300065 := q_bnd v300062
            refine r_ics 155 rfl (fun c300063 => ?_) (fun c300063 => ?_)
            · have c300063_ : x300038.toInt ≥ v300062.toInt := en_i_ge_t c300063
              refine At.enter rfl ?_
              refine r_iconst 0 rfl ?_
              refine r_istore_n _ rfl ?_
              refine Ar.fall 179 rfl ?_
              refine w_loopI (fun n_ l_ g_ => ∃ x300661 : Int32, n_ = 400 - x300661.toInt ∧ HI g_ ∧ Fr F_X11_law_231 A_X11_law_231 g0 g_ ∧ gI g_ 231 8 = 0 ∧ en_get 0 l_ = some (.ref 231) ∧ en_get 1 l_ = some (.int v290043) ∧ en_get 2 l_ = some (.int x300661) ∧ (0 ≤ x300661.toInt ∧ x300661.toInt ≤ 400) ∧ (Fr [(231, 8)] [233] g289999 g_) ∧ ((eA g_ 233 (v290043.toInt + 1)).toInt = (gI g289999 231 15).toInt) ∧ (∀ i : Int, 0 ≤ i → i < 8 * (gI g289999 231 15).toInt → (eA g_ 233 (v290043.toInt + 2 + i)).toInt = (eA g289999 237 i).toInt) ∧ (∀ i : Int, 0 ≤ i → i < 110 → eA g_ 233 i = eA g289999 233 i) ∧ (∀ i : Int, 0 ≤ i → i < x300661.toInt → (eA g_ 233 (v290043.toInt + 98 + 2 * i)).toInt = (eA g289999 238 i).toInt ∧ (eA g_ 233 (v290043.toInt + 98 + 2 * i + 1)).toInt = (eA g289999 239 i).toInt)) ?_ (400 - 0) ⟨0, by first | rfl | omega, hI300040, hF300041, e300045, (w_p1 (by decide) (Or.inr rfl) e300046), (w_p1 (by decide) (Or.inr rfl) e300047), (w_e1 _ _ _), by decide, (Fr.tr Fr.rf q300050 rfl rfl), ((congrArg Int32.toInt (rfl)).trans q300051), (fun i i0 i1 => q300052 i i0 (by omega)), (fun i i0 i1 => (rfl).trans (q300053 i i0 i1)), (fun i i0 i1 => absurd i1 (by omega))⟩
              rintro n300666 l300665 g300662 ⟨x300661, hm300681, hI300663, hF300664, e300668, e300669, e300670, e300671, r300672, q300673, q300674, q300675, q300676, q300677⟩ ih300667
              have tv300682 := congrArg Int32.toInt e300668
              have t300685 := congrArg Int32.toInt ((q300676 2 (by decide) (by decide)).trans (((eA_c (hF290001.2.1 233 ma_X11_must_231_233)).trans (eA_c (q268547.2.1 233 (by decide)))).trans hv214810))
              refine At.enter rfl ?_
              refine r_iload_n e300671 ?_
              refine r_aload_n e300669 ?_
              refine q_getI (Sh.int hI300663.1 kx_231 rfl) v268575 (((q300673.1 231 17 (by decide)).trans (hF290001.1 231 17 mf_X11_must_231_231_17)).trans hv268575) ?_
              have bv300687 := q_bnd x300661
              have bv300688 := q_bnd v268575
              refine r_ics 187 rfl (fun c300686 => ?_) (fun c300686 => ?_)
              · have c300686_ : x300661.toInt ≥ v268575.toInt := en_i_ge_t c300686
                refine At.enter rfl ?_
                refine r_aload_n e300669 ?_
                refine q_getR (Sh.ref hI300663.1 kx_231 rfl) ?_
                refine r_iconst 2 rfl ?_
                refine r_dup2 ⟨rfl, rfl⟩ ?_
                refine q_iald (Sh.arr hI300663.1 ka_233) 2 rfl (by decide) v214810 ((q300676 2 (by decide) (by decide)).trans (((eA_c (hF290001.2.1 233 ma_X11_must_231_233)).trans (eA_c (q268547.2.1 233 (by decide)))).trans hv214810)) ?_
                refine r_iconst 1 rfl ?_
                refine q_iadd (v214810.toInt + 1) rfl (by omega) (fun v300689 hv300689 => ?_)
                refine q_iast (Sh.arr hI300663.1 ka_233) (2) rfl (by decide) ?_
                have x300692 := HI.eqA hI300663 (p := 233) (j := 2) (((q300676 2 (by decide) (by decide)).trans (((eA_c (hF290001.2.1 233 ma_X11_must_231_233)).trans (eA_c (q268547.2.1 233 (by decide)))).trans hv214810)))
                have hI300690 := HI.wt2 hI300663 (v := v300689) (by omega) (by omega) (by rw [show 110 + 900 * (eA _ 233 2).toInt = v290043.toInt by omega]; exact LAW.mk (CLS.cong2 (q268553 (by omega)).2 hI290000 ((hF290001.2.1 238 ma_X11_must_231_238)) ((hF290001.2.1 239 ma_X11_must_231_239)) ((hF290001.2.1 237 ma_X11_must_231_237)) ((hF290001.1 231 15 mf_X11_must_231_231_15)) ((hF290001.1 231 17 mf_X11_must_231_231_17))) ⟨by omega, by omega⟩ (by omega) q300674 q300675 (fun i i0 i1 => q300677 i i0 (by omega)))
                have hF300691 := Fr.wA (p := 233) (j := 2) (v := v300689) hF300664 rfl
                refine r_aload_n e300669 ?_
                refine r_aload_n e300669 ?_
                refine q_getR (Sh.ref hI300690.1 kx_231 rfl) ?_
                refine r_iconst 2 rfl ?_
                refine q_iald (Sh.arr hI300690.1 ka_233) 2 rfl (by decide) v300689 (eA_sA_eq hI300663.1 ka_233 (by first | rfl | omega) (by first | decide | omega) (by first | decide | omega)) ?_
                refine r_iconst 1 rfl ?_
                refine q_isub (v300689.toInt - 1) rfl (by omega) (fun v300693 hv300693 => ?_)
                refine r_callV 255 rfl [.ref 231, .int v300693] [] (Nat.le_of_ble_eq_true rfl) rfl (T_X11_tell_231 _ hI300690 v300693 (by omega)) ?_
                rintro _ _ ⟨g300694, rfl, hI300695, hF300696, v300697, rfl, hr300698⟩
                refine At.sti ?_
                have hF300699 := Fr.tr hF300691 hF300696 rfl rfl
                refine At.enter rfl ?_
                refine r_ireti ?_
                have x300700 := HI.eqI hI300695 (p := 231) (b := 8) ((((hF300696.1 231 8 mf_X11_tell_231_231_8).trans (gI_sW)).trans e300668))
                have x300702 := HI.eqA hI0 (p := 233) (j := 2) (hv214810)
                have x300703 := HI.eqA hI300695 (p := 233) (j := 2) (((eA_c (hF300696.2.1 233 ma_X11_tell_231_233)).trans (eA_sA_eq hI300663.1 ka_233 (by first | rfl | omega) (by first | decide | omega) (by first | decide | omega))))
                have x300708 := HI.eqI hI300695 (p := 231) (b := 13) ((((hF300696.1 231 13 mf_X11_tell_231_231_13).trans ((gI_sW).trans (q300673.1 231 13 (by decide)))).trans hv290031))
                have ce := CDM.end_ q268554
                have y300709 : pI g268538 11 = (gI g268538 231 11).toInt := rfl
                have y300710 : (gI g289999 231 13).toInt = (gI g268538 231 9).toInt := (c290027.2.2.1 (show (gI g268538 231 14).toInt = 0 from by omega) (by omega)).2
                obtain ⟨v300712, hv300712⟩ : ∃ v, gI g300694 231 1 = v := ⟨_, rfl⟩
                have tv300712 := congrArg Int32.toInt hv300712
                exact ⟨_, rfl, hI300695, hF300699, _, rfl, by omega, ⟨(fun i i0 i1 i2 => ((eA_c (hF300696.2.1 233 ma_X11_tell_231_233)).trans ((eA_sA_ne (i := i) hI300663.1 ka_233 (by omega) (by omega) (by omega)).trans ((q300676 i i0 i1).trans (eA_c (((hF290001.2.1 233 ma_X11_must_231_233).trans (q268547.2.1 233 (by decide))))))))), by omega, Or.inr ⟨show (eA g0 233 2).toInt ≠ 6 from by omega, ⟨_, hskp0, Or.inl ⟨by omega, CLM.fin q268555 (show (gI g268538 231 14).toInt = 0 from by omega) (TKM.someC q268554 ((q268547.2.1 236 (by decide))) ((q268547.1 231 8 (by decide)))).choose_spec (by omega) (show (gI _ 231 13).toInt = (gI g268538 231 13).toInt from by omega)⟩⟩, Or.inr ⟨show _ = (eA g0 233 2).toInt from by omega, by omega, show (eA _ 233 2).toInt = (eA g0 233 2).toInt + 1 from by omega⟩⟩, (SU.mk (by omega))⟩⟩
              · have c300686_ : x300661.toInt < v268575.toInt := en_i_ge_f c300686
                refine At.enter rfl ?_
                refine r_aload_n e300669 ?_
                refine q_getR (Sh.ref hI300663.1 kx_231 rfl) ?_
                refine r_iload_n e300670 ?_
                refine r_bipush 98 rfl ?_
                refine q_iadd (v290043.toInt + 98) rfl (by omega) (fun v300714 hv300714 => ?_)
                refine r_iconst 2 rfl ?_
                refine r_iload_n e300671 ?_
                refine q_imul (2 * x300661.toInt) rfl (by omega) (fun v300715 hv300715 => ?_)
                refine q_iadd (v300714.toInt + v300715.toInt) rfl (by omega) (fun v300716 hv300716 => ?_)
                refine r_aload_n e300669 ?_
                refine q_getR (Sh.ref hI300663.1 kx_231 rfl) ?_
                refine r_iload_n e300671 ?_
                obtain ⟨v300717, hv300717⟩ : ∃ v, eA g268538 238 x300661.toInt = v := ⟨_, rfl⟩
                refine q_iald (Sh.arr hI300663.1 ka_238) x300661.toInt rfl (by omega) v300717 ((eA_c ((q300673.2.1 238 (by decide)).trans (hF290001.2.1 238 ma_X11_must_231_238))).trans hv300717) ?_
                refine q_iast (Sh.arr hI300663.1 ka_233) ((900 * v214810.toInt + 2 * x300661.toInt + 208)) (by omega) (by omega) ?_
                have x300720 := HI.eqA hI300663 (p := 233) (j := 2) (((q300676 2 (by decide) (by decide)).trans (((eA_c (hF290001.2.1 233 ma_X11_must_231_233)).trans (eA_c (q268547.2.1 233 (by decide)))).trans hv214810)))
                have hI300718 := HI.wfree hI300663 (j := (900 * v214810.toInt + 2 * x300661.toInt + 208)) (v := v300717) ⟨by omega, by omega⟩
                have hF300719 := Fr.wA (p := 233) (j := (900 * v214810.toInt + 2 * x300661.toInt + 208)) (v := v300717) hF300664 rfl
                refine r_aload_n e300669 ?_
                refine q_getR (Sh.ref hI300718.1 kx_231 rfl) ?_
                refine r_iload_n e300670 ?_
                refine r_bipush 98 rfl ?_
                refine q_iadd (v290043.toInt + 98) rfl (by omega) (fun v300721 hv300721 => ?_)
                refine r_iconst 2 rfl ?_
                refine r_iload_n e300671 ?_
                refine q_imul (2 * x300661.toInt) rfl (by omega) (fun v300722 hv300722 => ?_)
                refine q_iadd (v300721.toInt + v300722.toInt) rfl (by omega) (fun v300723 hv300723 => ?_)
                refine r_iconst 1 rfl ?_
                refine q_iadd (v300723.toInt + 1) rfl (by omega) (fun v300724 hv300724 => ?_)
                refine r_aload_n e300669 ?_
                refine q_getR (Sh.ref hI300718.1 kx_231 rfl) ?_
                refine r_iload_n e300671 ?_
                obtain ⟨v300725, hv300725⟩ : ∃ v, eA g268538 239 x300661.toInt = v := ⟨_, rfl⟩
                refine q_iald (Sh.arr hI300718.1 ka_239) x300661.toInt rfl (by omega) v300725 ((eA_c ((gA_sA_ne (by decide)).trans ((q300673.2.1 239 (by decide)).trans (hF290001.2.1 239 ma_X11_must_231_239)))).trans hv300725) ?_
                refine q_iast (Sh.arr hI300718.1 ka_233) ((900 * v214810.toInt + 2 * x300661.toInt + 209)) (by omega) (by omega) ?_
                have x300728 := HI.eqA hI300718 (p := 233) (j := 2) (((eA_sA_ne hI300663.1 ka_233 (by first | decide | omega) (by first | decide | omega) (by first | decide | omega)).trans ((q300676 2 (by decide) (by decide)).trans (((eA_c (hF290001.2.1 233 ma_X11_must_231_233)).trans (eA_c (q268547.2.1 233 (by decide)))).trans hv214810))))
                have hI300726 := HI.wfree hI300718 (j := (900 * v214810.toInt + 2 * x300661.toInt + 209)) (v := v300725) ⟨by omega, by omega⟩
                have hF300727 := Fr.wA (p := 233) (j := (900 * v214810.toInt + 2 * x300661.toInt + 209)) (v := v300725) hF300719 rfl
                refine q_iinc e300671 (x300661.toInt + 1) rfl (by omega) (fun v300729 hv300729 => ?_)
                refine r_goto ?_
                exact ih300667 (400 - v300729.toInt) _ _ ⟨v300729, by first | rfl | omega, hI300726, hF300727, (((gI_sW).trans (gI_sW)).trans e300668), (w_p1 (by decide) (Or.inr rfl) e300669), (w_p1 (by decide) (Or.inr rfl) e300670), (w_e1 _ _ _), by omega, (Fr.wA (p := 233) (Fr.wA (p := 233) q300673 rfl) rfl), ((congrArg Int32.toInt (((eA_sA_ne (i := v290043.toInt + 1) hI300718.1 ka_233 (by omega) (by omega) (by omega)).trans (eA_sA_ne (i := v290043.toInt + 1) hI300663.1 ka_233 (by omega) (by omega) (by omega))))).trans q300674), (fun i i0 i1 => (congrArg Int32.toInt (((eA_sA_ne (i := v290043.toInt + 2 + i) hI300718.1 ka_233 (by omega) (by omega) (by omega)).trans (eA_sA_ne (i := v290043.toInt + 2 + i) hI300663.1 ka_233 (by omega) (by omega) (by omega))))).trans (q300675 i i0 i1)), (fun i i0 i1 => (((eA_sA_ne (i := i) hI300718.1 ka_233 (by omega) (by omega) (by omega)).trans (eA_sA_ne (i := i) hI300663.1 ka_233 (by omega) (by omega) (by omega)))).trans (q300676 i i0 i1)), (fun i i0 i1 => (Decidable.em (i = x300661.toInt)).elim (fun e => by rw [e]; exact ⟨((congrArg Int32.toInt ((eA_sA_ne (i := v290043.toInt + 98 + 2 * x300661.toInt) hI300718.1 ka_233 (by omega) (by omega) (by omega)).trans (eA_sA_eq hI300663.1 ka_233 (by omega) (by omega) (by omega)))).trans (congrArg Int32.toInt ((eA_c ((hF290001.2.1 238 ma_X11_must_231_238))).trans hv300717)).symm), ((congrArg Int32.toInt (eA_sA_eq hI300718.1 ka_233 (by omega) (by omega) (by omega))).trans (congrArg Int32.toInt ((eA_c ((hF290001.2.1 239 ma_X11_must_231_239))).trans hv300725)).symm)⟩) (fun e => ⟨(congrArg Int32.toInt (((eA_sA_ne (i := v290043.toInt + 98 + 2 * i) hI300718.1 ka_233 (by omega) (by omega) (by omega)).trans (eA_sA_ne (i := v290043.toInt + 98 + 2 * i) hI300663.1 ka_233 (by omega) (by omega) (by omega))))).trans (q300677 i i0 (by omega)).1, (congrArg Int32.toInt (((eA_sA_ne (i := v290043.toInt + 98 + 2 * i + 1) hI300718.1 ka_233 (by omega) (by omega) (by omega)).trans (eA_sA_ne (i := v290043.toInt + 98 + 2 * i + 1) hI300663.1 ka_233 (by omega) (by omega) (by omega))))).trans (q300677 i i0 (by omega)).2⟩))⟩ ⟨by omega, by omega⟩
            · have c300063_ : x300038.toInt < v300062.toInt := en_i_ge_f c300063
              refine At.enter rfl ?_
              refine r_aload_n e300046 ?_
              refine q_getR (Sh.ref hI300040.1 kx_231 rfl) ?_
              refine r_iload_n e300047 ?_
              refine r_iconst 2 rfl ?_
              refine q_iadd (v290043.toInt + 2) rfl (by omega) (fun v300730 hv300730 => ?_)
              refine r_iload_n e300048 ?_
              refine q_iadd (v300730.toInt + x300038.toInt) rfl (by omega) (fun v300731 hv300731 => ?_)
              refine r_aload_n e300046 ?_
              refine q_getR (Sh.ref hI300040.1 kx_231 rfl) ?_
              refine r_iload_n e300048 ?_
              obtain ⟨v300732, hv300732⟩ : ∃ v, eA g268538 237 x300038.toInt = v := ⟨_, rfl⟩
              refine q_iald (Sh.arr hI300040.1 ka_237) x300038.toInt rfl (by omega) v300732 ((eA_c ((q300050.2.1 237 (by decide)).trans (hF290001.2.1 237 ma_X11_must_231_237))).trans hv300732) ?_
              refine q_iast (Sh.arr hI300040.1 ka_233) ((900 * v214810.toInt + x300038.toInt + 112)) (by omega) (by omega) ?_
              have x300735 := HI.eqA hI300040 (p := 233) (j := 2) (((q300053 2 (by decide) (by decide)).trans (((eA_c (hF290001.2.1 233 ma_X11_must_231_233)).trans (eA_c (q268547.2.1 233 (by decide)))).trans hv214810)))
              have hI300733 := HI.wfree hI300040 (j := (900 * v214810.toInt + x300038.toInt + 112)) (v := v300732) ⟨by omega, by omega⟩
              have hF300734 := Fr.wA (p := 233) (j := (900 * v214810.toInt + x300038.toInt + 112)) (v := v300732) hF300041 rfl
              refine q_iinc e300048 (x300038.toInt + 1) rfl (by omega) (fun v300736 hv300736 => ?_)
              refine r_goto ?_
              exact ih300044 (96 - v300736.toInt) _ _ ⟨v300736, by first | rfl | omega, hI300733, hF300734, ((gI_sW).trans e300045), (w_p1 (by decide) (Or.inr rfl) e300046), (w_p1 (by decide) (Or.inr rfl) e300047), (w_e1 _ _ _), by omega, (Fr.wA (p := 233) q300050 rfl), ((congrArg Int32.toInt ((eA_sA_ne (i := v290043.toInt + 1) hI300040.1 ka_233 (by omega) (by omega) (by omega)))).trans q300051), (fun i i0 i1 => (Decidable.em (i = x300038.toInt)).elim (fun e => by rw [e]; exact (congrArg Int32.toInt (eA_sA_eq hI300040.1 ka_233 (by omega) (by omega) (by omega))).trans (congrArg Int32.toInt ((eA_c ((hF290001.2.1 237 ma_X11_must_231_237))).trans hv300732)).symm) (fun e => (congrArg Int32.toInt ((eA_sA_ne (i := v290043.toInt + 2 + i) hI300040.1 ka_233 (by omega) (by omega) (by omega)))).trans (q300052 i i0 (by omega)))), (fun i i0 i1 => ((eA_sA_ne (i := i) hI300040.1 ka_233 (by omega) (by omega) (by omega))).trans (q300053 i i0 i1))⟩ ⟨by omega, by omega⟩
          · have c290036_ : v290018.toInt ≠ 0 := en_k_eq_f c290036
            clear c290026
            have i300737 := MUSTP.w c290027 (by omega)
            refine At.enter rfl ?_
            refine r_aload_n e268545 ?_
            refine r_bipush (-6) rfl ?_
            refine r_callV 115 rfl [.ref 231, .int (-6)] [] (Nat.le_of_ble_eq_true rfl) rfl (T_X11_tell_231 _ hI290034 (-6) (by decide)) ?_
            rintro _ _ ⟨g300738, rfl, hI300739, hF300740, v300741, rfl, hr300742⟩
            refine At.sti ?_
            have hF300743 := Fr.tr hF290035 hF300740 rfl rfl
            have zv300744 : ((-6) : Int32).toInt = (-6) := rfl
            refine At.enter rfl ?_
            refine r_ireti ?_
            have x300745 := HI.eqI hI300739 (p := 231) (b := 8) (((hF300740.1 231 8 mf_X11_tell_231_231_8).trans (gI_sI_eq hI290000.1 kx_231 rfl _)))
            have x300747 := HI.eqA hI0 (p := 233) (j := 2) (hv214810)
            have x300748 := HI.eqA hI300739 (p := 233) (j := 2) ((((eA_c (hF300740.2.1 233 ma_X11_tell_231_233)).trans ((eA_c gA_sI).trans ((eA_c (hF290001.2.1 233 ma_X11_must_231_233)).trans (eA_c (q268547.2.1 233 (by decide)))))).trans hv214810))
            have x300753 := HI.eqI hI300739 (p := 231) (b := 13) ((((hF300740.1 231 13 mf_X11_tell_231_231_13).trans (gI_sI_ne (by decide))).trans hv290031))
            have ce := CDM.end_ q268554
            have y300754 : pI g268538 11 = (gI g268538 231 11).toInt := rfl
            have y300755 : (gI g289999 231 13).toInt = (gI g268538 231 9).toInt := (c290027.2.2.1 (show (gI g268538 231 14).toInt = 0 from by omega) (by omega)).2
            obtain ⟨v300757, hv300757⟩ : ∃ v, gI g300738 231 1 = v := ⟨_, rfl⟩
            have tv300757 := congrArg Int32.toInt hv300757
            exact ⟨_, rfl, hI300739, hF300743, _, rfl, by omega, ⟨(fun i i0 i1 i2 => eA_c (((hF300740.2.1 233 ma_X11_tell_231_233).trans ((gA_sI).trans ((hF290001.2.1 233 ma_X11_must_231_233).trans (q268547.2.1 233 (by decide))))))), by omega, Or.inr ⟨show (eA g0 233 2).toInt ≠ 6 from by omega, ⟨_, hskp0, Or.inr ⟨by omega, CLM.faild q268555 (show (gI g268538 231 14).toInt = 0 from by omega) (TKM.someC q268554 ((q268547.2.1 236 (by decide))) ((q268547.1 231 8 (by decide)))).choose_spec (by omega) (by omega) (show (gI _ 231 13).toInt = (gI g268538 231 9).toInt from by omega)⟩⟩, Or.inl ⟨by omega, (show (eA _ 233 2).toInt = (eA g0 233 2).toInt from by omega)⟩⟩, (SU.mk (by omega))⟩⟩
    · have c268577_ : v268571.toInt = 0 := en_k_ne_f c268577
      refine At.enter rfl ?_
      refine r_aload_n e268545 ?_
      refine r_bipush 59 rfl ?_
      have zv300760 : (59 : Int32).toInt = 59 := rfl
      refine r_callV 64 rfl [.ref 231, .int 59] [] (Nat.le_of_ble_eq_true rfl) rfl (T_X11_isSign_231 _ hI268539 59 (by omega)) ?_
      rintro _ _ ⟨g300761, rfl, hI300762, hF300763, v300764, rfl, hr300765⟩
      refine At.sti ?_
      have hF300766 := Fr.tr hF268540 hF300763 rfl rfl
      have x300769 := HI.eqI hI300762 (p := 231) (b := 11) (((hF300763.1 231 11 mf_X11_isSign_231_231_11).trans hv268569))
      have hb300770 : BL (CDM g268538 = 14) v300764.toInt := ISM.sign (c := 14) hr300765.2.2 q268554 (isSC_d (by omega)) (by decide +kernel)
      refine At.enter rfl ?_
      refine r_ifs 67 rfl (fun c300771 => ?_) (fun c300771 => ?_)
      · have c300771_ : v300764.toInt = 0 := en_k_eq_t c300771
        have i300772 := BL.no hb300770 (by omega)
        refine At.enter rfl ?_
        refine r_aload_n e268545 ?_
        refine q_getI (Sh.int hI300762.1 kx_231 rfl) v268571 ((hF300763.1 231 14 mf_X11_isSign_231_231_14).trans hv268571) ?_
        refine r_ifs 85 rfl (fun c300773 => ?_) (fun c300773 => ?_)
        · have c300773_ : v268571.toInt ≠ 0 := en_k_ne_t c300773
          exfalso; omega
        · have c300773_ : v268571.toInt = 0 := en_k_ne_f c300773
          refine At.enter rfl ?_
          refine r_aload_n e268545 ?_
          refine q_getI (Sh.int hI300762.1 kx_231 rfl) v268569 ((hF300763.1 231 11 mf_X11_isSign_231_231_11).trans hv268569) ?_
          refine r_ifs 92 rfl (fun c300774 => ?_) (fun c300774 => ?_)
          · have c300774_ : v268569.toInt = 0 := en_k_eq_t c300774
            refine At.enter rfl ?_
            refine r_aload_n e268545 ?_
            refine r_iconst 0 rfl ?_
            refine q_putI (Sh.int hI300762.1 kx_231 rfl) rfl ?_
            have hI300775 := HI.wI1 hI300762 kx_231 rfl (p := 231) (b := 8) (v := 0) rfl (by decide)
            have hF300776 := Fr.wI (p := 231) (b := 8) (v := 0) hF300766 rfl
            refine r_aload_n e268545 ?_
            refine q_getI (Sh.int hI300775.1 kx_231 rfl) v268571 (((gI_sI_ne (by decide)).trans (hF300763.1 231 14 mf_X11_isSign_231_231_14)).trans hv268571) ?_
            refine r_ifs 109 rfl (fun c300777 => ?_) (fun c300777 => ?_)
            · have c300777_ : v268571.toInt = 0 := en_k_eq_t c300777
              refine At.enter rfl ?_
              refine r_bipush 110 rfl ?_
              refine r_sipush 900 rfl ?_
              refine r_aload_n e268545 ?_
              refine q_getR (Sh.ref hI300775.1 kx_231 rfl) ?_
              refine r_iconst 2 rfl ?_
              refine q_iald (Sh.arr hI300775.1 ka_233) 2 rfl (by decide) v214810 ((eA_c ((gA_sI).trans ((hF300763.2.1 233 ma_X11_isSign_231_233).trans (q268547.2.1 233 (by decide))))).trans hv214810) ?_
              refine q_imul (900 * v214810.toInt) rfl (by omega) (fun v300778 hv300778 => ?_)
              refine q_iadd (110 + v300778.toInt) rfl (by omega) (fun v300779 hv300779 => ?_)
              refine r_istore_n _ rfl ?_
              refine r_aload_n (w_p1 (by decide) (Or.inr rfl) e268545) ?_
              refine q_getR (Sh.ref hI300775.1 kx_231 rfl) ?_
              refine r_iload_n (w_e1 _ _ _) ?_
              refine r_iconst 1 rfl ?_
              refine q_iadd (v300779.toInt + 1) rfl (by omega) (fun v300780 hv300780 => ?_)
              refine r_aload_n (w_p1 (by decide) (Or.inr rfl) e268545) ?_
              refine q_getI (Sh.int hI300775.1 kx_231 rfl) v268573 (((gI_sI_ne (by decide)).trans (hF300763.1 231 15 mf_X11_isSign_231_231_15)).trans hv268573) ?_
              refine q_iast (Sh.arr hI300775.1 ka_233) ((900 * v214810.toInt + 111)) (by omega) (by omega) ?_
              have x300783 := HI.eqA hI300775 (p := 233) (j := 2) ((((eA_c gA_sI).trans ((eA_c (hF300763.2.1 233 ma_X11_isSign_231_233)).trans (eA_c (q268547.2.1 233 (by decide))))).trans hv214810))
              have hI300781 := HI.wfree hI300775 (j := (900 * v214810.toInt + 111)) (v := v268573) ⟨by omega, by omega⟩
              have hF300782 := Fr.wA (p := 233) (j := (900 * v214810.toInt + 111)) (v := v268573) hF300776 rfl
              refine r_iconst 0 rfl ?_
              refine r_istore_n _ rfl ?_
              refine Ar.fall 144 rfl ?_
              have x310791 := HI.eqI hI300762 (p := 231) (b := 15) (((hF300763.1 231 15 mf_X11_isSign_231_231_15).trans hv268573))
              have x310792 := HI.eqI hI300762 (p := 231) (b := 17) (((hF300763.1 231 17 mf_X11_isSign_231_231_17).trans hv268575))
              refine w_loopI (fun n_ l_ g_ => ∃ x310774 : Int32, n_ = 96 - x310774.toInt ∧ HI g_ ∧ Fr F_X11_law_231 A_X11_law_231 g0 g_ ∧ gI g_ 231 8 = 0 ∧ en_get 0 l_ = some (.ref 231) ∧ en_get 1 l_ = some (.int v300779) ∧ en_get 2 l_ = some (.int x310774) ∧ (0 ≤ x310774.toInt ∧ x310774.toInt ≤ 96) ∧ (Fr [(231, 8)] [233] g300761 g_) ∧ ((eA g_ 233 (v300779.toInt + 1)).toInt = (gI g300761 231 15).toInt) ∧ (∀ i : Int, 0 ≤ i → i < x310774.toInt → (eA g_ 233 (v300779.toInt + 2 + i)).toInt = (eA g300761 237 i).toInt) ∧ (∀ i : Int, 0 ≤ i → i < 110 → eA g_ 233 i = eA g300761 233 i)) ?_ (96 - 0) ⟨0, by first | rfl | omega, hI300781, hF300782, ((gI_sW).trans (gI_sI_eq hI300762.1 kx_231 rfl _)), (w_p1 (by decide) (Or.inr rfl) (w_p1 (by decide) (Or.inr rfl) e268545)), (w_p1 (by decide) (Or.inr rfl) (w_e1 _ _ _)), (w_e1 _ _ _), by decide, (Fr.wA (p := 233) (Fr.wI (p := 231) (b := 8) Fr.rf rfl) rfl), ((congrArg Int32.toInt (eA_sA_eq hI300775.1 ka_233 (by omega) (by omega) (by omega))).trans (by omega)), (fun i i0 i1 => absurd i1 (by omega)), (fun i i0 i1 => ((eA_sA_ne (i := i) hI300775.1 ka_233 (by omega) (by omega) (by omega)).trans (eA_c gA_sI)))⟩
              rintro n310779 l310778 g310775 ⟨x310774, hm310793, hI310776, hF310777, e310781, e310782, e310783, e310784, r310785, q310786, q310787, q310788, q310789⟩ ih310780
              have tv310794 := congrArg Int32.toInt e310781
              have t310797 := congrArg Int32.toInt ((q310789 2 (by decide) (by decide)).trans (((eA_c (hF300763.2.1 233 ma_X11_isSign_231_233)).trans (eA_c (q268547.2.1 233 (by decide)))).trans hv214810))
              refine At.enter rfl ?_
              refine r_iload_n e310784 ?_
              refine r_bipush 8 rfl ?_
              refine r_aload_n e310782 ?_
              refine q_getI (Sh.int hI310776.1 kx_231 rfl) v268573 (((q310786.1 231 15 (by decide)).trans (hF300763.1 231 15 mf_X11_isSign_231_231_15)).trans hv268573) ?_
              refine q_imul (8 * v268573.toInt) rfl (by omega) (fun v310798 hv310798 => ?_)
              have bv310800 := q_bnd x310774
              have bv310801 := q_bnd v310798
              refine r_ics 155 rfl (fun c310799 => ?_) (fun c310799 => ?_)
              · have c310799_ : x310774.toInt ≥ v310798.toInt := en_i_ge_t c310799
                refine At.enter rfl ?_
                refine r_iconst 0 rfl ?_
                refine r_istore_n _ rfl ?_
                refine Ar.fall 179 rfl ?_
                refine w_loopI (fun n_ l_ g_ => ∃ x311397 : Int32, n_ = 400 - x311397.toInt ∧ HI g_ ∧ Fr F_X11_law_231 A_X11_law_231 g0 g_ ∧ gI g_ 231 8 = 0 ∧ en_get 0 l_ = some (.ref 231) ∧ en_get 1 l_ = some (.int v300779) ∧ en_get 2 l_ = some (.int x311397) ∧ (0 ≤ x311397.toInt ∧ x311397.toInt ≤ 400) ∧ (Fr [(231, 8)] [233] g300761 g_) ∧ ((eA g_ 233 (v300779.toInt + 1)).toInt = (gI g300761 231 15).toInt) ∧ (∀ i : Int, 0 ≤ i → i < 8 * (gI g300761 231 15).toInt → (eA g_ 233 (v300779.toInt + 2 + i)).toInt = (eA g300761 237 i).toInt) ∧ (∀ i : Int, 0 ≤ i → i < 110 → eA g_ 233 i = eA g300761 233 i) ∧ (∀ i : Int, 0 ≤ i → i < x311397.toInt → (eA g_ 233 (v300779.toInt + 98 + 2 * i)).toInt = (eA g300761 238 i).toInt ∧ (eA g_ 233 (v300779.toInt + 98 + 2 * i + 1)).toInt = (eA g300761 239 i).toInt)) ?_ (400 - 0) ⟨0, by first | rfl | omega, hI310776, hF310777, e310781, (w_p1 (by decide) (Or.inr rfl) e310782), (w_p1 (by decide) (Or.inr rfl) e310783), (w_e1 _ _ _), by decide, (Fr.tr Fr.rf q310786 rfl rfl), ((congrArg Int32.toInt (rfl)).trans q310787), (fun i i0 i1 => q310788 i i0 (by omega)), (fun i i0 i1 => (rfl).trans (q310789 i i0 i1)), (fun i i0 i1 => absurd i1 (by omega))⟩
                rintro n311402 l311401 g311398 ⟨x311397, hm311417, hI311399, hF311400, e311404, e311405, e311406, e311407, r311408, q311409, q311410, q311411, q311412, q311413⟩ ih311403
                have tv311418 := congrArg Int32.toInt e311404
                have t311421 := congrArg Int32.toInt ((q311412 2 (by decide) (by decide)).trans (((eA_c (hF300763.2.1 233 ma_X11_isSign_231_233)).trans (eA_c (q268547.2.1 233 (by decide)))).trans hv214810))
                refine At.enter rfl ?_
                refine r_iload_n e311407 ?_
                refine r_aload_n e311405 ?_
                refine q_getI (Sh.int hI311399.1 kx_231 rfl) v268575 (((q311409.1 231 17 (by decide)).trans (hF300763.1 231 17 mf_X11_isSign_231_231_17)).trans hv268575) ?_
                have bv311423 := q_bnd x311397
                have bv311424 := q_bnd v268575
                refine r_ics 187 rfl (fun c311422 => ?_) (fun c311422 => ?_)
                · have c311422_ : x311397.toInt ≥ v268575.toInt := en_i_ge_t c311422
                  refine At.enter rfl ?_
                  refine r_aload_n e311405 ?_
                  refine q_getR (Sh.ref hI311399.1 kx_231 rfl) ?_
                  refine r_iconst 2 rfl ?_
                  refine r_dup2 ⟨rfl, rfl⟩ ?_
                  refine q_iald (Sh.arr hI311399.1 ka_233) 2 rfl (by decide) v214810 ((q311412 2 (by decide) (by decide)).trans (((eA_c (hF300763.2.1 233 ma_X11_isSign_231_233)).trans (eA_c (q268547.2.1 233 (by decide)))).trans hv214810)) ?_
                  refine r_iconst 1 rfl ?_
                  refine q_iadd (v214810.toInt + 1) rfl (by omega) (fun v311425 hv311425 => ?_)
                  refine q_iast (Sh.arr hI311399.1 ka_233) (2) rfl (by decide) ?_
                  have x311428 := HI.eqA hI311399 (p := 233) (j := 2) (((q311412 2 (by decide) (by decide)).trans (((eA_c (hF300763.2.1 233 ma_X11_isSign_231_233)).trans (eA_c (q268547.2.1 233 (by decide)))).trans hv214810)))
                  have hI311426 := HI.wt2 hI311399 (v := v311425) (by omega) (by omega) (by rw [show 110 + 900 * (eA _ 233 2).toInt = v300779.toInt by omega]; exact LAW.mk (CLS.cong2 (q268553 (by omega)).2 hI300762 ((hF300763.2.1 238 ma_X11_isSign_231_238)) ((hF300763.2.1 239 ma_X11_isSign_231_239)) ((hF300763.2.1 237 ma_X11_isSign_231_237)) ((hF300763.1 231 15 mf_X11_isSign_231_231_15)) ((hF300763.1 231 17 mf_X11_isSign_231_231_17))) ⟨by omega, by omega⟩ (by omega) q311410 q311411 (fun i i0 i1 => q311413 i i0 (by omega)))
                  have hF311427 := Fr.wA (p := 233) (j := 2) (v := v311425) hF311400 rfl
                  refine r_aload_n e311405 ?_
                  refine r_aload_n e311405 ?_
                  refine q_getR (Sh.ref hI311426.1 kx_231 rfl) ?_
                  refine r_iconst 2 rfl ?_
                  refine q_iald (Sh.arr hI311426.1 ka_233) 2 rfl (by decide) v311425 (eA_sA_eq hI311399.1 ka_233 (by first | rfl | omega) (by first | decide | omega) (by first | decide | omega)) ?_
                  refine r_iconst 1 rfl ?_
                  refine q_isub (v311425.toInt - 1) rfl (by omega) (fun v311429 hv311429 => ?_)
                  refine r_callV 255 rfl [.ref 231, .int v311429] [] (Nat.le_of_ble_eq_true rfl) rfl (T_X11_tell_231 _ hI311426 v311429 (by omega)) ?_
                  rintro _ _ ⟨g311430, rfl, hI311431, hF311432, v311433, rfl, hr311434⟩
                  refine At.sti ?_
                  have hF311435 := Fr.tr hF311427 hF311432 rfl rfl
                  refine At.enter rfl ?_
                  refine r_ireti ?_
                  have x311436 := HI.eqI hI311431 (p := 231) (b := 8) ((((hF311432.1 231 8 mf_X11_tell_231_231_8).trans (gI_sW)).trans e311404))
                  have x311438 := HI.eqA hI0 (p := 233) (j := 2) (hv214810)
                  have x311439 := HI.eqA hI311431 (p := 233) (j := 2) (((eA_c (hF311432.2.1 233 ma_X11_tell_231_233)).trans (eA_sA_eq hI311399.1 ka_233 (by first | rfl | omega) (by first | decide | omega) (by first | decide | omega))))
                  obtain ⟨v311442, hv311442⟩ : ∃ v, gI g268538 231 13 = v := ⟨_, rfl⟩
                  have tv311442 := congrArg Int32.toInt hv311442
                  have x311445 := HI.eqI hI311431 (p := 231) (b := 13) ((((hF311432.1 231 13 mf_X11_tell_231_231_13).trans ((gI_sW).trans ((q311409.1 231 13 (by decide)).trans (hF300763.1 231 13 mf_X11_isSign_231_231_13)))).trans hv311442))
                  have ce := CDM.end_ q268554
                  have y311446 : pI g268538 11 = (gI g268538 231 11).toInt := rfl
                  obtain ⟨v311447, hv311447⟩ : ∃ v, gI g311430 231 1 = v := ⟨_, rfl⟩
                  have tv311447 := congrArg Int32.toInt hv311447
                  first | (clear x300769 x300783 x310791 x310792 hr300765 c300771_ zv214820 zv214862 zv300760; exact ⟨_, rfl, hI311431, hF311435, _, rfl, by omega, ⟨(fun i i0 i1 i2 => ((eA_c (hF311432.2.1 233 ma_X11_tell_231_233)).trans ((eA_sA_ne (i := i) hI311399.1 ka_233 (by omega) (by omega) (by omega)).trans ((q311412 i i0 i1).trans (eA_c (((hF300763.2.1 233 ma_X11_isSign_231_233).trans (q268547.2.1 233 (by decide))))))))), by omega, Or.inr ⟨show (eA g0 233 2).toInt ≠ 6 from by omega, ⟨_, hskp0, Or.inl ⟨by omega, CLM.fin q268555 (show (gI g268538 231 14).toInt = 0 from by omega) (TKM.someC q268554 ((q268547.2.1 236 (by decide))) ((q268547.1 231 8 (by decide)))).choose_spec (by omega) (show (gI _ 231 13).toInt = (gI g268538 231 13).toInt from (by first | exact x311445.trans tv311442.symm | omega))⟩⟩, Or.inr ⟨show _ = (eA g0 233 2).toInt from by omega, by omega, show (eA _ 233 2).toInt = (eA g0 233 2).toInt + 1 from by omega⟩⟩, (SU.mk (by omega))⟩⟩) | exact ⟨_, rfl, hI311431, hF311435, _, rfl, by omega, ⟨(fun i i0 i1 i2 => ((eA_c (hF311432.2.1 233 ma_X11_tell_231_233)).trans ((eA_sA_ne (i := i) hI311399.1 ka_233 (by omega) (by omega) (by omega)).trans ((q311412 i i0 i1).trans (eA_c (((hF300763.2.1 233 ma_X11_isSign_231_233).trans (q268547.2.1 233 (by decide))))))))), by omega, Or.inr ⟨show (eA g0 233 2).toInt ≠ 6 from by omega, ⟨_, hskp0, Or.inl ⟨by omega, CLM.fin q268555 (show (gI g268538 231 14).toInt = 0 from by omega) (TKM.someC q268554 ((q268547.2.1 236 (by decide))) ((q268547.1 231 8 (by decide)))).choose_spec (by omega) (show (gI _ 231 13).toInt = (gI g268538 231 13).toInt from (by first | exact x311445.trans tv311442.symm | omega))⟩⟩, Or.inr ⟨show _ = (eA g0 233 2).toInt from by omega, by omega, show (eA _ 233 2).toInt = (eA g0 233 2).toInt + 1 from by omega⟩⟩, (SU.mk (by omega))⟩⟩
                · have c311422_ : x311397.toInt < v268575.toInt := en_i_ge_f c311422
                  refine At.enter rfl ?_
                  refine r_aload_n e311405 ?_
                  refine q_getR (Sh.ref hI311399.1 kx_231 rfl) ?_
                  refine r_iload_n e311406 ?_
                  refine r_bipush 98 rfl ?_
                  refine q_iadd (v300779.toInt + 98) rfl (by omega) (fun v311449 hv311449 => ?_)
                  refine r_iconst 2 rfl ?_
                  refine r_iload_n e311407 ?_
                  refine q_imul (2 * x311397.toInt) rfl (by omega) (fun v311450 hv311450 => ?_)
                  refine q_iadd (v311449.toInt + v311450.toInt) rfl (by omega) (fun v311451 hv311451 => ?_)
                  refine r_aload_n e311405 ?_
                  refine q_getR (Sh.ref hI311399.1 kx_231 rfl) ?_
                  refine r_iload_n e311407 ?_
                  obtain ⟨v311452, hv311452⟩ : ∃ v, eA g268538 238 x311397.toInt = v := ⟨_, rfl⟩
                  refine q_iald (Sh.arr hI311399.1 ka_238) x311397.toInt rfl (by omega) v311452 ((eA_c ((q311409.2.1 238 (by decide)).trans (hF300763.2.1 238 ma_X11_isSign_231_238))).trans hv311452) ?_
                  refine q_iast (Sh.arr hI311399.1 ka_233) ((900 * v214810.toInt + 2 * x311397.toInt + 208)) (by omega) (by omega) ?_
                  have x311455 := HI.eqA hI311399 (p := 233) (j := 2) (((q311412 2 (by decide) (by decide)).trans (((eA_c (hF300763.2.1 233 ma_X11_isSign_231_233)).trans (eA_c (q268547.2.1 233 (by decide)))).trans hv214810)))
                  have hI311453 := HI.wfree hI311399 (j := (900 * v214810.toInt + 2 * x311397.toInt + 208)) (v := v311452) ⟨by omega, by omega⟩
                  have hF311454 := Fr.wA (p := 233) (j := (900 * v214810.toInt + 2 * x311397.toInt + 208)) (v := v311452) hF311400 rfl
                  refine r_aload_n e311405 ?_
                  refine q_getR (Sh.ref hI311453.1 kx_231 rfl) ?_
                  refine r_iload_n e311406 ?_
                  refine r_bipush 98 rfl ?_
                  refine q_iadd (v300779.toInt + 98) rfl (by omega) (fun v311456 hv311456 => ?_)
                  refine r_iconst 2 rfl ?_
                  refine r_iload_n e311407 ?_
                  refine q_imul (2 * x311397.toInt) rfl (by omega) (fun v311457 hv311457 => ?_)
                  refine q_iadd (v311456.toInt + v311457.toInt) rfl (by omega) (fun v311458 hv311458 => ?_)
                  refine r_iconst 1 rfl ?_
                  refine q_iadd (v311458.toInt + 1) rfl (by omega) (fun v311459 hv311459 => ?_)
                  refine r_aload_n e311405 ?_
                  refine q_getR (Sh.ref hI311453.1 kx_231 rfl) ?_
                  refine r_iload_n e311407 ?_
                  obtain ⟨v311460, hv311460⟩ : ∃ v, eA g268538 239 x311397.toInt = v := ⟨_, rfl⟩
                  refine q_iald (Sh.arr hI311453.1 ka_239) x311397.toInt rfl (by omega) v311460 ((eA_c ((gA_sA_ne (by decide)).trans ((q311409.2.1 239 (by decide)).trans (hF300763.2.1 239 ma_X11_isSign_231_239)))).trans hv311460) ?_
                  refine q_iast (Sh.arr hI311453.1 ka_233) ((900 * v214810.toInt + 2 * x311397.toInt + 209)) (by omega) (by omega) ?_
                  have x311463 := HI.eqA hI311453 (p := 233) (j := 2) (((eA_sA_ne hI311399.1 ka_233 (by first | decide | omega) (by first | decide | omega) (by first | decide | omega)).trans ((q311412 2 (by decide) (by decide)).trans (((eA_c (hF300763.2.1 233 ma_X11_isSign_231_233)).trans (eA_c (q268547.2.1 233 (by decide)))).trans hv214810))))
                  have hI311461 := HI.wfree hI311453 (j := (900 * v214810.toInt + 2 * x311397.toInt + 209)) (v := v311460) ⟨by omega, by omega⟩
                  have hF311462 := Fr.wA (p := 233) (j := (900 * v214810.toInt + 2 * x311397.toInt + 209)) (v := v311460) hF311454 rfl
                  refine q_iinc e311407 (x311397.toInt + 1) rfl (by omega) (fun v311464 hv311464 => ?_)
                  refine r_goto ?_
                  exact ih311403 (400 - v311464.toInt) _ _ ⟨v311464, by first | rfl | omega, hI311461, hF311462, (((gI_sW).trans (gI_sW)).trans e311404), (w_p1 (by decide) (Or.inr rfl) e311405), (w_p1 (by decide) (Or.inr rfl) e311406), (w_e1 _ _ _), by omega, (Fr.wA (p := 233) (Fr.wA (p := 233) q311409 rfl) rfl), ((congrArg Int32.toInt (((eA_sA_ne (i := v300779.toInt + 1) hI311453.1 ka_233 (by omega) (by omega) (by omega)).trans (eA_sA_ne (i := v300779.toInt + 1) hI311399.1 ka_233 (by omega) (by omega) (by omega))))).trans q311410), (fun i i0 i1 => (congrArg Int32.toInt (((eA_sA_ne (i := v300779.toInt + 2 + i) hI311453.1 ka_233 (by omega) (by omega) (by omega)).trans (eA_sA_ne (i := v300779.toInt + 2 + i) hI311399.1 ka_233 (by omega) (by omega) (by omega))))).trans (q311411 i i0 i1)), (fun i i0 i1 => (((eA_sA_ne (i := i) hI311453.1 ka_233 (by omega) (by omega) (by omega)).trans (eA_sA_ne (i := i) hI311399.1 ka_233 (by omega) (by omega) (by omega)))).trans (q311412 i i0 i1)), (fun i i0 i1 => (Decidable.em (i = x311397.toInt)).elim (fun e => by rw [e]; exact ⟨((congrArg Int32.toInt ((eA_sA_ne (i := v300779.toInt + 98 + 2 * x311397.toInt) hI311453.1 ka_233 (by omega) (by omega) (by omega)).trans (eA_sA_eq hI311399.1 ka_233 (by omega) (by omega) (by omega)))).trans (congrArg Int32.toInt ((eA_c ((hF300763.2.1 238 ma_X11_isSign_231_238))).trans hv311452)).symm), ((congrArg Int32.toInt (eA_sA_eq hI311453.1 ka_233 (by omega) (by omega) (by omega))).trans (congrArg Int32.toInt ((eA_c ((hF300763.2.1 239 ma_X11_isSign_231_239))).trans hv311460)).symm)⟩) (fun e => ⟨(congrArg Int32.toInt (((eA_sA_ne (i := v300779.toInt + 98 + 2 * i) hI311453.1 ka_233 (by omega) (by omega) (by omega)).trans (eA_sA_ne (i := v300779.toInt + 98 + 2 * i) hI311399.1 ka_233 (by omega) (by omega) (by omega))))).trans (q311413 i i0 (by omega)).1, (congrArg Int32.toInt (((eA_sA_ne (i := v300779.toInt + 98 + 2 * i + 1) hI311453.1 ka_233 (by omega) (by omega) (by omega)).trans (eA_sA_ne (i := v300779.toInt + 98 + 2 * i + 1) hI311399.1 ka_233 (by omega) (by omega) (by omega))))).trans (q311413 i i0 (by omega)).2⟩))⟩ ⟨by omega, by omega⟩
              · have c310799_ : x310774.toInt < v310798.toInt := en_i_ge_f c310799
                refine At.enter rfl ?_
                refine r_aload_n e310782 ?_
                refine q_getR (Sh.ref hI310776.1 kx_231 rfl) ?_
                refine r_iload_n e310783 ?_
                refine r_iconst 2 rfl ?_
                refine q_iadd (v300779.toInt + 2) rfl (by omega) (fun v311465 hv311465 => ?_)
                refine r_iload_n e310784 ?_
                refine q_iadd (v311465.toInt + x310774.toInt) rfl (by omega) (fun v311466 hv311466 => ?_)
                refine r_aload_n e310782 ?_
                refine q_getR (Sh.ref hI310776.1 kx_231 rfl) ?_
                refine r_iload_n e310784 ?_
                obtain ⟨v311467, hv311467⟩ : ∃ v, eA g268538 237 x310774.toInt = v := ⟨_, rfl⟩
                refine q_iald (Sh.arr hI310776.1 ka_237) x310774.toInt rfl (by omega) v311467 ((eA_c ((q310786.2.1 237 (by decide)).trans (hF300763.2.1 237 ma_X11_isSign_231_237))).trans hv311467) ?_
                refine q_iast (Sh.arr hI310776.1 ka_233) ((900 * v214810.toInt + x310774.toInt + 112)) (by omega) (by omega) ?_
                have x311470 := HI.eqA hI310776 (p := 233) (j := 2) (((q310789 2 (by decide) (by decide)).trans (((eA_c (hF300763.2.1 233 ma_X11_isSign_231_233)).trans (eA_c (q268547.2.1 233 (by decide)))).trans hv214810)))
                have hI311468 := HI.wfree hI310776 (j := (900 * v214810.toInt + x310774.toInt + 112)) (v := v311467) ⟨by omega, by omega⟩
                have hF311469 := Fr.wA (p := 233) (j := (900 * v214810.toInt + x310774.toInt + 112)) (v := v311467) hF310777 rfl
                refine q_iinc e310784 (x310774.toInt + 1) rfl (by omega) (fun v311471 hv311471 => ?_)
                refine r_goto ?_
                exact ih310780 (96 - v311471.toInt) _ _ ⟨v311471, by first | rfl | omega, hI311468, hF311469, ((gI_sW).trans e310781), (w_p1 (by decide) (Or.inr rfl) e310782), (w_p1 (by decide) (Or.inr rfl) e310783), (w_e1 _ _ _), by omega, (Fr.wA (p := 233) q310786 rfl), ((congrArg Int32.toInt ((eA_sA_ne (i := v300779.toInt + 1) hI310776.1 ka_233 (by omega) (by omega) (by omega)))).trans q310787), (fun i i0 i1 => (Decidable.em (i = x310774.toInt)).elim (fun e => by rw [e]; exact (congrArg Int32.toInt (eA_sA_eq hI310776.1 ka_233 (by omega) (by omega) (by omega))).trans (congrArg Int32.toInt ((eA_c ((hF300763.2.1 237 ma_X11_isSign_231_237))).trans hv311467)).symm) (fun e => (congrArg Int32.toInt ((eA_sA_ne (i := v300779.toInt + 2 + i) hI310776.1 ka_233 (by omega) (by omega) (by omega)))).trans (q310788 i i0 (by omega)))), (fun i i0 i1 => ((eA_sA_ne (i := i) hI310776.1 ka_233 (by omega) (by omega) (by omega))).trans (q310789 i i0 i1))⟩ ⟨by omega, by omega⟩
            · have c300777_ : v268571.toInt ≠ 0 := en_k_eq_f c300777
              exfalso; omega
          · have c300774_ : v268569.toInt ≠ 0 := en_k_eq_f c300774
            refine At.enter rfl ?_
            refine r_aload_n e268545 ?_
            refine r_iconst 0 rfl ?_
            have x311472 := HI.eqI hI300762 (p := 231) (b := 8) ((((hF300763.1 231 8 mf_X11_isSign_231_231_8).trans (q268547.1 231 8 (by decide))).trans hv1))
            have x311473 := HI.eqI hI300762 (p := 231) (b := 9) (((hF300763.1 231 9 mf_X11_isSign_231_231_9).trans e268544))
            have x311474 := HI.eqI hI300762 (p := 231) (b := 10) (((hF300763.1 231 10 mf_X11_isSign_231_231_10).trans hv268567))
            have w26311476 := W26.cong q268552 hI300762 ((hF300763.1 231 9 mf_X11_isSign_231_231_9)) ((hF300763.1 231 10 mf_X11_isSign_231_231_10)) ((hF300763.1 231 11 mf_X11_isSign_231_231_11)) ((hF300763.2.2 231 12 mf_X11_isSign_231_231_12))
            refine r_callV 97 rfl [.ref 231, .int 0] [] (Nat.le_of_ble_eq_true rfl) rfl (T_X11_must_231 _ hI300762 0 (by decide) (by refine ⟨?_, ?_, ?_, ?_⟩ <;> omega) w26311476 (TKM.c q268554 ((hF300763.2.1 236 ma_X11_isSign_231_236)) ((hF300763.1 231 8 mf_X11_isSign_231_231_8)) ((hF300763.1 231 9 mf_X11_isSign_231_231_9)) ((hF300763.1 231 10 mf_X11_isSign_231_231_10)) ((hF300763.1 231 11 mf_X11_isSign_231_231_11)) ((hF300763.2.2 231 12 mf_X11_isSign_231_231_12)))) ?_
            rintro _ _ ⟨g311478, rfl, hI311479, hF311480, rfl, hr311482⟩
            refine At.stn ?_
            have hF311483 := Fr.tr hF300766 hF311480 rfl rfl
            have x311489 := HI.eqI hI300762 (p := 231) (b := 14) (((hF300763.1 231 14 mf_X11_isSign_231_231_14).trans hv268571))
            have x311490 := HI.eqI hI311479 (p := 231) (b := 8) ((((hF311480.1 231 8 mf_X11_must_231_231_8).trans ((hF300763.1 231 8 mf_X11_isSign_231_231_8).trans (q268547.1 231 8 (by decide)))).trans hv1))
            obtain ⟨v311491, hv311491⟩ : ∃ v, gI g311478 231 9 = v := ⟨_, rfl⟩
            have rv311491 := RgF.at hI311479.2.1 (p := 231) (b := 9) rfl
            rw [hv311491] at rv311491
            dsimp only at rv311491
            have tv311491 := congrArg Int32.toInt hv311491
            obtain ⟨v311493, hv311493⟩ : ∃ v, gI g311478 231 10 = v := ⟨_, rfl⟩
            have rv311493 := RgF.at hI311479.2.1 (p := 231) (b := 10) rfl
            rw [hv311493] at rv311493
            dsimp only at rv311493
            have tv311493 := congrArg Int32.toInt hv311493
            obtain ⟨v311495, hv311495⟩ : ∃ v, gI g311478 231 11 = v := ⟨_, rfl⟩
            have tv311495 := congrArg Int32.toInt hv311495
            obtain ⟨v311497, hv311497⟩ : ∃ v, gI g311478 231 14 = v := ⟨_, rfl⟩
            have tv311497 := congrArg Int32.toInt hv311497
            obtain ⟨c311499, c311500, c311501, c311502, c311503, c311504, c311505, c311506⟩ := hr311482
            obtain ⟨v311507, hv311507⟩ : ∃ v, gI g268538 231 13 = v := ⟨_, rfl⟩
            have tv311507 := congrArg Int32.toInt hv311507
            have x311508 := HI.eqI hI300762 (p := 231) (b := 13) (((hF300763.1 231 13 mf_X11_isSign_231_231_13).trans hv311507))
            obtain ⟨v311510, hv311510⟩ : ∃ v, gI g311478 231 13 = v := ⟨_, rfl⟩
            have tv311510 := congrArg Int32.toInt hv311510
            unfold MUSTP at c311506
            rw [TM.c ((hF300763.2.1 236 ma_X11_isSign_231_236)), nM.c ((hF300763.1 231 8 mf_X11_isSign_231_231_8)), pI.c (b := 14) ((hF300763.1 231 14 mf_X11_isSign_231_231_14)), pI.c (b := 13) ((hF300763.1 231 13 mf_X11_isSign_231_231_13)), pI.c (b := 10) ((hF300763.1 231 10 mf_X11_isSign_231_231_10)), pI.c (b := 9) ((hF300763.1 231 9 mf_X11_isSign_231_231_9))] at c311506
            have mu311512 : MUSTP g268538 g311478 0 := c311506
            clear c311506
            have hK311513 := mu311512.1
            refine At.enter rfl ?_
            refine r_aload_n e268545 ?_
            refine r_iconst 0 rfl ?_
            refine q_putI (Sh.int hI311479.1 kx_231 rfl) rfl ?_
            have hI311514 := HI.wI1 hI311479 kx_231 rfl (p := 231) (b := 8) (v := 0) rfl (by decide)
            have hF311515 := Fr.wI (p := 231) (b := 8) (v := 0) hF311483 rfl
            refine r_aload_n e268545 ?_
            refine q_getI (Sh.int hI311514.1 kx_231 rfl) v311497 ((gI_sI_ne (by decide)).trans hv311497) ?_
            refine r_ifs 109 rfl (fun c311516 => ?_) (fun c311516 => ?_)
            · have c311516_ : v311497.toInt = 0 := en_k_eq_t c311516
              obtain ⟨i311517, i311518, i311519⟩ := c311505 (by omega)
              obtain ⟨i311520, i311521⟩ := MUSTP.z mu311512 (by omega) (by omega)
              refine At.enter rfl ?_
              refine r_bipush 110 rfl ?_
              refine r_sipush 900 rfl ?_
              refine r_aload_n e268545 ?_
              refine q_getR (Sh.ref hI311514.1 kx_231 rfl) ?_
              refine r_iconst 2 rfl ?_
              refine q_iald (Sh.arr hI311514.1 ka_233) 2 rfl (by decide) v214810 ((eA_c ((gA_sI).trans ((hF311480.2.1 233 ma_X11_must_231_233).trans ((hF300763.2.1 233 ma_X11_isSign_231_233).trans (q268547.2.1 233 (by decide)))))).trans hv214810) ?_
              refine q_imul (900 * v214810.toInt) rfl (by omega) (fun v311522 hv311522 => ?_)
              refine q_iadd (110 + v311522.toInt) rfl (by omega) (fun v311523 hv311523 => ?_)
              refine r_istore_n _ rfl ?_
              refine r_aload_n (w_p1 (by decide) (Or.inr rfl) e268545) ?_
              refine q_getR (Sh.ref hI311514.1 kx_231 rfl) ?_
              refine r_iload_n (w_e1 _ _ _) ?_
              refine r_iconst 1 rfl ?_
              refine q_iadd (v311523.toInt + 1) rfl (by omega) (fun v311524 hv311524 => ?_)
              refine r_aload_n (w_p1 (by decide) (Or.inr rfl) e268545) ?_
              refine q_getI (Sh.int hI311514.1 kx_231 rfl) v268573 (((gI_sI_ne (by decide)).trans ((hF311480.1 231 15 mf_X11_must_231_231_15).trans (hF300763.1 231 15 mf_X11_isSign_231_231_15))).trans hv268573) ?_
              refine q_iast (Sh.arr hI311514.1 ka_233) ((900 * v214810.toInt + 111)) (by omega) (by omega) ?_
              have x311527 := HI.eqA hI311514 (p := 233) (j := 2) ((((eA_c gA_sI).trans ((eA_c (hF311480.2.1 233 ma_X11_must_231_233)).trans ((eA_c (hF300763.2.1 233 ma_X11_isSign_231_233)).trans (eA_c (q268547.2.1 233 (by decide)))))).trans hv214810))
              have hI311525 := HI.wfree hI311514 (j := (900 * v214810.toInt + 111)) (v := v268573) ⟨by omega, by omega⟩
              have hF311526 := Fr.wA (p := 233) (j := (900 * v214810.toInt + 111)) (v := v268573) hF311515 rfl
              refine r_iconst 0 rfl ?_
              refine r_istore_n _ rfl ?_
              refine Ar.fall 144 rfl ?_
              have x321535 := HI.eqI hI311479 (p := 231) (b := 15) ((((hF311480.1 231 15 mf_X11_must_231_231_15).trans (hF300763.1 231 15 mf_X11_isSign_231_231_15)).trans hv268573))
              have x321536 := HI.eqI hI311479 (p := 231) (b := 17) ((((hF311480.1 231 17 mf_X11_must_231_231_17).trans (hF300763.1 231 17 mf_X11_isSign_231_231_17)).trans hv268575))
              refine w_loopI (fun n_ l_ g_ => ∃ x321518 : Int32, n_ = 96 - x321518.toInt ∧ HI g_ ∧ Fr F_X11_law_231 A_X11_law_231 g0 g_ ∧ gI g_ 231 8 = 0 ∧ en_get 0 l_ = some (.ref 231) ∧ en_get 1 l_ = some (.int v311523) ∧ en_get 2 l_ = some (.int x321518) ∧ (0 ≤ x321518.toInt ∧ x321518.toInt ≤ 96) ∧ (Fr [(231, 8)] [233] g311478 g_) ∧ ((eA g_ 233 (v311523.toInt + 1)).toInt = (gI g311478 231 15).toInt) ∧ (∀ i : Int, 0 ≤ i → i < x321518.toInt → (eA g_ 233 (v311523.toInt + 2 + i)).toInt = (eA g311478 237 i).toInt) ∧ (∀ i : Int, 0 ≤ i → i < 110 → eA g_ 233 i = eA g311478 233 i)) ?_ (96 - 0) ⟨0, by first | rfl | omega, hI311525, hF311526, ((gI_sW).trans (gI_sI_eq hI311479.1 kx_231 rfl _)), (w_p1 (by decide) (Or.inr rfl) (w_p1 (by decide) (Or.inr rfl) e268545)), (w_p1 (by decide) (Or.inr rfl) (w_e1 _ _ _)), (w_e1 _ _ _), by decide, (Fr.wA (p := 233) (Fr.wI (p := 231) (b := 8) Fr.rf rfl) rfl), ((congrArg Int32.toInt (eA_sA_eq hI311514.1 ka_233 (by omega) (by omega) (by omega))).trans (by omega)), (fun i i0 i1 => absurd i1 (by omega)), (fun i i0 i1 => ((eA_sA_ne (i := i) hI311514.1 ka_233 (by omega) (by omega) (by omega)).trans (eA_c gA_sI)))⟩
              rintro n321523 l321522 g321519 ⟨x321518, hm321537, hI321520, hF321521, e321525, e321526, e321527, e321528, r321529, q321530, q321531, q321532, q321533⟩ ih321524
              have tv321538 := congrArg Int32.toInt e321525
              have t321541 := congrArg Int32.toInt ((q321533 2 (by decide) (by decide)).trans (((eA_c (hF311480.2.1 233 ma_X11_must_231_233)).trans ((eA_c (hF300763.2.1 233 ma_X11_isSign_231_233)).trans (eA_c (q268547.2.1 233 (by decide))))).trans hv214810))
              refine At.enter rfl ?_
              refine r_iload_n e321528 ?_
              refine r_bipush 8 rfl ?_
              refine r_aload_n e321526 ?_
              refine q_getI (Sh.int hI321520.1 kx_231 rfl) v268573 (((q321530.1 231 15 (by decide)).trans ((hF311480.1 231 15 mf_X11_must_231_231_15).trans (hF300763.1 231 15 mf_X11_isSign_231_231_15))).trans hv268573) ?_
              refine q_imul (8 * v268573.toInt) rfl (by omega) (fun v321542 hv321542 => ?_)
              have bv321544 := q_bnd x321518
              have bv321545 := q_bnd v321542
              refine r_ics 155 rfl (fun c321543 => ?_) (fun c321543 => ?_)
              · have c321543_ : x321518.toInt ≥ v321542.toInt := en_i_ge_t c321543
                refine At.enter rfl ?_
                refine r_iconst 0 rfl ?_
                refine r_istore_n _ rfl ?_
                refine Ar.fall 179 rfl ?_
                refine w_loopI (fun n_ l_ g_ => ∃ x322141 : Int32, n_ = 400 - x322141.toInt ∧ HI g_ ∧ Fr F_X11_law_231 A_X11_law_231 g0 g_ ∧ gI g_ 231 8 = 0 ∧ en_get 0 l_ = some (.ref 231) ∧ en_get 1 l_ = some (.int v311523) ∧ en_get 2 l_ = some (.int x322141) ∧ (0 ≤ x322141.toInt ∧ x322141.toInt ≤ 400) ∧ (Fr [(231, 8)] [233] g311478 g_) ∧ ((eA g_ 233 (v311523.toInt + 1)).toInt = (gI g311478 231 15).toInt) ∧ (∀ i : Int, 0 ≤ i → i < 8 * (gI g311478 231 15).toInt → (eA g_ 233 (v311523.toInt + 2 + i)).toInt = (eA g311478 237 i).toInt) ∧ (∀ i : Int, 0 ≤ i → i < 110 → eA g_ 233 i = eA g311478 233 i) ∧ (∀ i : Int, 0 ≤ i → i < x322141.toInt → (eA g_ 233 (v311523.toInt + 98 + 2 * i)).toInt = (eA g311478 238 i).toInt ∧ (eA g_ 233 (v311523.toInt + 98 + 2 * i + 1)).toInt = (eA g311478 239 i).toInt)) ?_ (400 - 0) ⟨0, by first | rfl | omega, hI321520, hF321521, e321525, (w_p1 (by decide) (Or.inr rfl) e321526), (w_p1 (by decide) (Or.inr rfl) e321527), (w_e1 _ _ _), by decide, (Fr.tr Fr.rf q321530 rfl rfl), ((congrArg Int32.toInt (rfl)).trans q321531), (fun i i0 i1 => q321532 i i0 (by omega)), (fun i i0 i1 => (rfl).trans (q321533 i i0 i1)), (fun i i0 i1 => absurd i1 (by omega))⟩
                rintro n322146 l322145 g322142 ⟨x322141, hm322161, hI322143, hF322144, e322148, e322149, e322150, e322151, r322152, q322153, q322154, q322155, q322156, q322157⟩ ih322147
                have tv322162 := congrArg Int32.toInt e322148
                have t322165 := congrArg Int32.toInt ((q322156 2 (by decide) (by decide)).trans (((eA_c (hF311480.2.1 233 ma_X11_must_231_233)).trans ((eA_c (hF300763.2.1 233 ma_X11_isSign_231_233)).trans (eA_c (q268547.2.1 233 (by decide))))).trans hv214810))
                refine At.enter rfl ?_
                refine r_iload_n e322151 ?_
                refine r_aload_n e322149 ?_
                refine q_getI (Sh.int hI322143.1 kx_231 rfl) v268575 (((q322153.1 231 17 (by decide)).trans ((hF311480.1 231 17 mf_X11_must_231_231_17).trans (hF300763.1 231 17 mf_X11_isSign_231_231_17))).trans hv268575) ?_
                have bv322167 := q_bnd x322141
                have bv322168 := q_bnd v268575
                refine r_ics 187 rfl (fun c322166 => ?_) (fun c322166 => ?_)
                · have c322166_ : x322141.toInt ≥ v268575.toInt := en_i_ge_t c322166
                  refine At.enter rfl ?_
                  refine r_aload_n e322149 ?_
                  refine q_getR (Sh.ref hI322143.1 kx_231 rfl) ?_
                  refine r_iconst 2 rfl ?_
                  refine r_dup2 ⟨rfl, rfl⟩ ?_
                  refine q_iald (Sh.arr hI322143.1 ka_233) 2 rfl (by decide) v214810 ((q322156 2 (by decide) (by decide)).trans (((eA_c (hF311480.2.1 233 ma_X11_must_231_233)).trans ((eA_c (hF300763.2.1 233 ma_X11_isSign_231_233)).trans (eA_c (q268547.2.1 233 (by decide))))).trans hv214810)) ?_
                  refine r_iconst 1 rfl ?_
                  refine q_iadd (v214810.toInt + 1) rfl (by omega) (fun v322169 hv322169 => ?_)
                  refine q_iast (Sh.arr hI322143.1 ka_233) (2) rfl (by decide) ?_
                  have x322172 := HI.eqA hI322143 (p := 233) (j := 2) (((q322156 2 (by decide) (by decide)).trans (((eA_c (hF311480.2.1 233 ma_X11_must_231_233)).trans ((eA_c (hF300763.2.1 233 ma_X11_isSign_231_233)).trans (eA_c (q268547.2.1 233 (by decide))))).trans hv214810)))
                  have hI322170 := HI.wt2 hI322143 (v := v322169) (by omega) (by omega) (by rw [show 110 + 900 * (eA _ 233 2).toInt = v311523.toInt by omega]; exact LAW.mk (CLS.cong2 (q268553 (by omega)).2 hI311479 (((hF311480.2.1 238 ma_X11_must_231_238).trans (hF300763.2.1 238 ma_X11_isSign_231_238))) (((hF311480.2.1 239 ma_X11_must_231_239).trans (hF300763.2.1 239 ma_X11_isSign_231_239))) (((hF311480.2.1 237 ma_X11_must_231_237).trans (hF300763.2.1 237 ma_X11_isSign_231_237))) (((hF311480.1 231 15 mf_X11_must_231_231_15).trans (hF300763.1 231 15 mf_X11_isSign_231_231_15))) (((hF311480.1 231 17 mf_X11_must_231_231_17).trans (hF300763.1 231 17 mf_X11_isSign_231_231_17)))) ⟨by omega, by omega⟩ (by omega) q322154 q322155 (fun i i0 i1 => q322157 i i0 (by omega)))
                  have hF322171 := Fr.wA (p := 233) (j := 2) (v := v322169) hF322144 rfl
                  refine r_aload_n e322149 ?_
                  refine r_aload_n e322149 ?_
                  refine q_getR (Sh.ref hI322170.1 kx_231 rfl) ?_
                  refine r_iconst 2 rfl ?_
                  refine q_iald (Sh.arr hI322170.1 ka_233) 2 rfl (by decide) v322169 (eA_sA_eq hI322143.1 ka_233 (by first | rfl | omega) (by first | decide | omega) (by first | decide | omega)) ?_
                  refine r_iconst 1 rfl ?_
                  refine q_isub (v322169.toInt - 1) rfl (by omega) (fun v322173 hv322173 => ?_)
                  refine r_callV 255 rfl [.ref 231, .int v322173] [] (Nat.le_of_ble_eq_true rfl) rfl (T_X11_tell_231 _ hI322170 v322173 (by omega)) ?_
                  rintro _ _ ⟨g322174, rfl, hI322175, hF322176, v322177, rfl, hr322178⟩
                  refine At.sti ?_
                  have hF322179 := Fr.tr hF322171 hF322176 rfl rfl
                  refine At.enter rfl ?_
                  refine r_ireti ?_
                  have x322180 := HI.eqI hI322175 (p := 231) (b := 8) ((((hF322176.1 231 8 mf_X11_tell_231_231_8).trans (gI_sW)).trans e322148))
                  have x322182 := HI.eqA hI0 (p := 233) (j := 2) (hv214810)
                  have x322183 := HI.eqA hI322175 (p := 233) (j := 2) (((eA_c (hF322176.2.1 233 ma_X11_tell_231_233)).trans (eA_sA_eq hI322143.1 ka_233 (by first | rfl | omega) (by first | decide | omega) (by first | decide | omega))))
                  have x322188 := HI.eqI hI322175 (p := 231) (b := 13) ((((hF322176.1 231 13 mf_X11_tell_231_231_13).trans ((gI_sW).trans (q322153.1 231 13 (by decide)))).trans hv311510))
                  have ce := CDM.end_ q268554
                  have y322189 : pI g268538 11 = (gI g268538 231 11).toInt := rfl
                  have y322190 : (gI g311478 231 13).toInt = (gI g268538 231 9).toInt := (mu311512.2.2.1 (show (gI g268538 231 14).toInt = 0 from by omega) (by omega)).2
                  obtain ⟨v322192, hv322192⟩ : ∃ v, gI g322174 231 1 = v := ⟨_, rfl⟩
                  have tv322192 := congrArg Int32.toInt hv322192
                  exact ⟨_, rfl, hI322175, hF322179, _, rfl, by omega, ⟨(fun i i0 i1 i2 => ((eA_c (hF322176.2.1 233 ma_X11_tell_231_233)).trans ((eA_sA_ne (i := i) hI322143.1 ka_233 (by omega) (by omega) (by omega)).trans ((q322156 i i0 i1).trans (eA_c (((hF311480.2.1 233 ma_X11_must_231_233).trans ((hF300763.2.1 233 ma_X11_isSign_231_233).trans (q268547.2.1 233 (by decide)))))))))), by omega, Or.inr ⟨show (eA g0 233 2).toInt ≠ 6 from by omega, ⟨_, hskp0, Or.inl ⟨by omega, CLM.fin q268555 (show (gI g268538 231 14).toInt = 0 from by omega) (TKM.someC q268554 ((q268547.2.1 236 (by decide))) ((q268547.1 231 8 (by decide)))).choose_spec (by omega) (show (gI _ 231 13).toInt = (gI g268538 231 13).toInt from by omega)⟩⟩, Or.inr ⟨show _ = (eA g0 233 2).toInt from by omega, by omega, show (eA _ 233 2).toInt = (eA g0 233 2).toInt + 1 from by omega⟩⟩, (SU.mk (by omega))⟩⟩
                · have c322166_ : x322141.toInt < v268575.toInt := en_i_ge_f c322166
                  refine At.enter rfl ?_
                  refine r_aload_n e322149 ?_
                  refine q_getR (Sh.ref hI322143.1 kx_231 rfl) ?_
                  refine r_iload_n e322150 ?_
                  refine r_bipush 98 rfl ?_
                  refine q_iadd (v311523.toInt + 98) rfl (by omega) (fun v322194 hv322194 => ?_)
                  refine r_iconst 2 rfl ?_
                  refine r_iload_n e322151 ?_
                  refine q_imul (2 * x322141.toInt) rfl (by omega) (fun v322195 hv322195 => ?_)
                  refine q_iadd (v322194.toInt + v322195.toInt) rfl (by omega) (fun v322196 hv322196 => ?_)
                  refine r_aload_n e322149 ?_
                  refine q_getR (Sh.ref hI322143.1 kx_231 rfl) ?_
                  refine r_iload_n e322151 ?_
                  obtain ⟨v322197, hv322197⟩ : ∃ v, eA g268538 238 x322141.toInt = v := ⟨_, rfl⟩
                  refine q_iald (Sh.arr hI322143.1 ka_238) x322141.toInt rfl (by omega) v322197 ((eA_c ((q322153.2.1 238 (by decide)).trans ((hF311480.2.1 238 ma_X11_must_231_238).trans (hF300763.2.1 238 ma_X11_isSign_231_238)))).trans hv322197) ?_
                  refine q_iast (Sh.arr hI322143.1 ka_233) ((900 * v214810.toInt + 2 * x322141.toInt + 208)) (by omega) (by omega) ?_
                  have x322200 := HI.eqA hI322143 (p := 233) (j := 2) (((q322156 2 (by decide) (by decide)).trans (((eA_c (hF311480.2.1 233 ma_X11_must_231_233)).trans ((eA_c (hF300763.2.1 233 ma_X11_isSign_231_233)).trans (eA_c (q268547.2.1 233 (by decide))))).trans hv214810)))
                  have hI322198 := HI.wfree hI322143 (j := (900 * v214810.toInt + 2 * x322141.toInt + 208)) (v := v322197) ⟨by omega, by omega⟩
                  have hF322199 := Fr.wA (p := 233) (j := (900 * v214810.toInt + 2 * x322141.toInt + 208)) (v := v322197) hF322144 rfl
                  refine r_aload_n e322149 ?_
                  refine q_getR (Sh.ref hI322198.1 kx_231 rfl) ?_
                  refine r_iload_n e322150 ?_
                  refine r_bipush 98 rfl ?_
                  refine q_iadd (v311523.toInt + 98) rfl (by omega) (fun v322201 hv322201 => ?_)
                  refine r_iconst 2 rfl ?_
                  refine r_iload_n e322151 ?_
                  refine q_imul (2 * x322141.toInt) rfl (by omega) (fun v322202 hv322202 => ?_)
                  refine q_iadd (v322201.toInt + v322202.toInt) rfl (by omega) (fun v322203 hv322203 => ?_)
                  refine r_iconst 1 rfl ?_
                  refine q_iadd (v322203.toInt + 1) rfl (by omega) (fun v322204 hv322204 => ?_)
                  refine r_aload_n e322149 ?_
                  refine q_getR (Sh.ref hI322198.1 kx_231 rfl) ?_
                  refine r_iload_n e322151 ?_
                  obtain ⟨v322205, hv322205⟩ : ∃ v, eA g268538 239 x322141.toInt = v := ⟨_, rfl⟩
                  refine q_iald (Sh.arr hI322198.1 ka_239) x322141.toInt rfl (by omega) v322205 ((eA_c ((gA_sA_ne (by decide)).trans ((q322153.2.1 239 (by decide)).trans ((hF311480.2.1 239 ma_X11_must_231_239).trans (hF300763.2.1 239 ma_X11_isSign_231_239))))).trans hv322205) ?_
                  refine q_iast (Sh.arr hI322198.1 ka_233) ((900 * v214810.toInt + 2 * x322141.toInt + 209)) (by omega) (by omega) ?_
                  have x322208 := HI.eqA hI322198 (p := 233) (j := 2) (((eA_sA_ne hI322143.1 ka_233 (by first | decide | omega) (by first | decide | omega) (by first | decide | omega)).trans ((q322156 2 (by decide) (by decide)).trans (((eA_c (hF311480.2.1 233 ma_X11_must_231_233)).trans ((eA_c (hF300763.2.1 233 ma_X11_isSign_231_233)).trans (eA_c (q268547.2.1 233 (by decide))))).trans hv214810))))
                  have hI322206 := HI.wfree hI322198 (j := (900 * v214810.toInt + 2 * x322141.toInt + 209)) (v := v322205) ⟨by omega, by omega⟩
                  have hF322207 := Fr.wA (p := 233) (j := (900 * v214810.toInt + 2 * x322141.toInt + 209)) (v := v322205) hF322199 rfl
                  refine q_iinc e322151 (x322141.toInt + 1) rfl (by omega) (fun v322209 hv322209 => ?_)
                  refine r_goto ?_
                  exact ih322147 (400 - v322209.toInt) _ _ ⟨v322209, by first | rfl | omega, hI322206, hF322207, (((gI_sW).trans (gI_sW)).trans e322148), (w_p1 (by decide) (Or.inr rfl) e322149), (w_p1 (by decide) (Or.inr rfl) e322150), (w_e1 _ _ _), by omega, (Fr.wA (p := 233) (Fr.wA (p := 233) q322153 rfl) rfl), ((congrArg Int32.toInt (((eA_sA_ne (i := v311523.toInt + 1) hI322198.1 ka_233 (by omega) (by omega) (by omega)).trans (eA_sA_ne (i := v311523.toInt + 1) hI322143.1 ka_233 (by omega) (by omega) (by omega))))).trans q322154), (fun i i0 i1 => (congrArg Int32.toInt (((eA_sA_ne (i := v311523.toInt + 2 + i) hI322198.1 ka_233 (by omega) (by omega) (by omega)).trans (eA_sA_ne (i := v311523.toInt + 2 + i) hI322143.1 ka_233 (by omega) (by omega) (by omega))))).trans (q322155 i i0 i1)), (fun i i0 i1 => (((eA_sA_ne (i := i) hI322198.1 ka_233 (by omega) (by omega) (by omega)).trans (eA_sA_ne (i := i) hI322143.1 ka_233 (by omega) (by omega) (by omega)))).trans (q322156 i i0 i1)), (fun i i0 i1 => (Decidable.em (i = x322141.toInt)).elim (fun e => by rw [e]; exact ⟨((congrArg Int32.toInt ((eA_sA_ne (i := v311523.toInt + 98 + 2 * x322141.toInt) hI322198.1 ka_233 (by omega) (by omega) (by omega)).trans (eA_sA_eq hI322143.1 ka_233 (by omega) (by omega) (by omega)))).trans (congrArg Int32.toInt ((eA_c (((hF311480.2.1 238 ma_X11_must_231_238).trans (hF300763.2.1 238 ma_X11_isSign_231_238)))).trans hv322197)).symm), ((congrArg Int32.toInt (eA_sA_eq hI322198.1 ka_233 (by omega) (by omega) (by omega))).trans (congrArg Int32.toInt ((eA_c (((hF311480.2.1 239 ma_X11_must_231_239).trans (hF300763.2.1 239 ma_X11_isSign_231_239)))).trans hv322205)).symm)⟩) (fun e => ⟨(congrArg Int32.toInt (((eA_sA_ne (i := v311523.toInt + 98 + 2 * i) hI322198.1 ka_233 (by omega) (by omega) (by omega)).trans (eA_sA_ne (i := v311523.toInt + 98 + 2 * i) hI322143.1 ka_233 (by omega) (by omega) (by omega))))).trans (q322157 i i0 (by omega)).1, (congrArg Int32.toInt (((eA_sA_ne (i := v311523.toInt + 98 + 2 * i + 1) hI322198.1 ka_233 (by omega) (by omega) (by omega)).trans (eA_sA_ne (i := v311523.toInt + 98 + 2 * i + 1) hI322143.1 ka_233 (by omega) (by omega) (by omega))))).trans (q322157 i i0 (by omega)).2⟩))⟩ ⟨by omega, by omega⟩
              · have c321543_ : x321518.toInt < v321542.toInt := en_i_ge_f c321543
                refine At.enter rfl ?_
                refine r_aload_n e321526 ?_
                refine q_getR (Sh.ref hI321520.1 kx_231 rfl) ?_
                refine r_iload_n e321527 ?_
                refine r_iconst 2 rfl ?_
                refine q_iadd (v311523.toInt + 2) rfl (by omega) (fun v322210 hv322210 => ?_)
                refine r_iload_n e321528 ?_
                refine q_iadd (v322210.toInt + x321518.toInt) rfl (by omega) (fun v322211 hv322211 => ?_)
                refine r_aload_n e321526 ?_
                refine q_getR (Sh.ref hI321520.1 kx_231 rfl) ?_
                refine r_iload_n e321528 ?_
                obtain ⟨v322212, hv322212⟩ : ∃ v, eA g268538 237 x321518.toInt = v := ⟨_, rfl⟩
                refine q_iald (Sh.arr hI321520.1 ka_237) x321518.toInt rfl (by omega) v322212 ((eA_c ((q321530.2.1 237 (by decide)).trans ((hF311480.2.1 237 ma_X11_must_231_237).trans (hF300763.2.1 237 ma_X11_isSign_231_237)))).trans hv322212) ?_
                refine q_iast (Sh.arr hI321520.1 ka_233) ((900 * v214810.toInt + x321518.toInt + 112)) (by omega) (by omega) ?_
                have x322215 := HI.eqA hI321520 (p := 233) (j := 2) (((q321533 2 (by decide) (by decide)).trans (((eA_c (hF311480.2.1 233 ma_X11_must_231_233)).trans ((eA_c (hF300763.2.1 233 ma_X11_isSign_231_233)).trans (eA_c (q268547.2.1 233 (by decide))))).trans hv214810)))
                have hI322213 := HI.wfree hI321520 (j := (900 * v214810.toInt + x321518.toInt + 112)) (v := v322212) ⟨by omega, by omega⟩
                have hF322214 := Fr.wA (p := 233) (j := (900 * v214810.toInt + x321518.toInt + 112)) (v := v322212) hF321521 rfl
                refine q_iinc e321528 (x321518.toInt + 1) rfl (by omega) (fun v322216 hv322216 => ?_)
                refine r_goto ?_
                exact ih321524 (96 - v322216.toInt) _ _ ⟨v322216, by first | rfl | omega, hI322213, hF322214, ((gI_sW).trans e321525), (w_p1 (by decide) (Or.inr rfl) e321526), (w_p1 (by decide) (Or.inr rfl) e321527), (w_e1 _ _ _), by omega, (Fr.wA (p := 233) q321530 rfl), ((congrArg Int32.toInt ((eA_sA_ne (i := v311523.toInt + 1) hI321520.1 ka_233 (by omega) (by omega) (by omega)))).trans q321531), (fun i i0 i1 => (Decidable.em (i = x321518.toInt)).elim (fun e => by rw [e]; exact (congrArg Int32.toInt (eA_sA_eq hI321520.1 ka_233 (by omega) (by omega) (by omega))).trans (congrArg Int32.toInt ((eA_c (((hF311480.2.1 237 ma_X11_must_231_237).trans (hF300763.2.1 237 ma_X11_isSign_231_237)))).trans hv322212)).symm) (fun e => (congrArg Int32.toInt ((eA_sA_ne (i := v311523.toInt + 2 + i) hI321520.1 ka_233 (by omega) (by omega) (by omega)))).trans (q321532 i i0 (by omega)))), (fun i i0 i1 => ((eA_sA_ne (i := i) hI321520.1 ka_233 (by omega) (by omega) (by omega))).trans (q321533 i i0 i1))⟩ ⟨by omega, by omega⟩
            · have c311516_ : v311497.toInt ≠ 0 := en_k_eq_f c311516
              clear c311505
              have i322217 := MUSTP.w mu311512 (by omega)
              refine At.enter rfl ?_
              refine r_aload_n e268545 ?_
              refine r_bipush (-6) rfl ?_
              refine r_callV 115 rfl [.ref 231, .int (-6)] [] (Nat.le_of_ble_eq_true rfl) rfl (T_X11_tell_231 _ hI311514 (-6) (by decide)) ?_
              rintro _ _ ⟨g322218, rfl, hI322219, hF322220, v322221, rfl, hr322222⟩
              refine At.sti ?_
              have hF322223 := Fr.tr hF311515 hF322220 rfl rfl
              have zv322224 : ((-6) : Int32).toInt = (-6) := rfl
              refine At.enter rfl ?_
              refine r_ireti ?_
              have x322225 := HI.eqI hI322219 (p := 231) (b := 8) (((hF322220.1 231 8 mf_X11_tell_231_231_8).trans (gI_sI_eq hI311479.1 kx_231 rfl _)))
              have x322227 := HI.eqA hI0 (p := 233) (j := 2) (hv214810)
              have x322228 := HI.eqA hI322219 (p := 233) (j := 2) ((((eA_c (hF322220.2.1 233 ma_X11_tell_231_233)).trans ((eA_c gA_sI).trans ((eA_c (hF311480.2.1 233 ma_X11_must_231_233)).trans ((eA_c (hF300763.2.1 233 ma_X11_isSign_231_233)).trans (eA_c (q268547.2.1 233 (by decide))))))).trans hv214810))
              have x322233 := HI.eqI hI322219 (p := 231) (b := 13) ((((hF322220.1 231 13 mf_X11_tell_231_231_13).trans (gI_sI_ne (by decide))).trans hv311510))
              have ce := CDM.end_ q268554
              have y322234 : pI g268538 11 = (gI g268538 231 11).toInt := rfl
              have y322235 : (gI g311478 231 13).toInt = (gI g268538 231 9).toInt := (mu311512.2.2.1 (show (gI g268538 231 14).toInt = 0 from by omega) (by omega)).2
              obtain ⟨v322237, hv322237⟩ : ∃ v, gI g322218 231 1 = v := ⟨_, rfl⟩
              have tv322237 := congrArg Int32.toInt hv322237
              exact ⟨_, rfl, hI322219, hF322223, _, rfl, by omega, ⟨(fun i i0 i1 i2 => eA_c (((hF322220.2.1 233 ma_X11_tell_231_233).trans ((gA_sI).trans ((hF311480.2.1 233 ma_X11_must_231_233).trans ((hF300763.2.1 233 ma_X11_isSign_231_233).trans (q268547.2.1 233 (by decide)))))))), by omega, Or.inr ⟨show (eA g0 233 2).toInt ≠ 6 from by omega, ⟨_, hskp0, Or.inr ⟨by omega, CLM.faild q268555 (show (gI g268538 231 14).toInt = 0 from by omega) (TKM.someC q268554 ((q268547.2.1 236 (by decide))) ((q268547.1 231 8 (by decide)))).choose_spec (by omega) (by omega) (show (gI _ 231 13).toInt = (gI g268538 231 9).toInt from by omega)⟩⟩, Or.inl ⟨by omega, (show (eA _ 233 2).toInt = (eA g0 233 2).toInt from by omega)⟩⟩, (SU.mk (by omega))⟩⟩
      · have c300771_ : v300764.toInt ≠ 0 := en_k_eq_f c300771
        have i322239 := BL.yes hb300770 (by omega)
        refine At.enter rfl ?_
        refine r_aload_n e268545 ?_
        have x322240 := HI.eqI hI300762 (p := 231) (b := 8) ((((hF300763.1 231 8 mf_X11_isSign_231_231_8).trans (q268547.1 231 8 (by decide))).trans hv1))
        have x322241 := HI.eqI hI300762 (p := 231) (b := 10) (((hF300763.1 231 10 mf_X11_isSign_231_231_10).trans hv268567))
        refine r_callV 71 rfl [.ref 231] [] (Nat.le_of_ble_eq_true rfl) rfl (T_X11_next_231 _ hI300762 (by omega)) ?_
        rintro _ _ ⟨g322242, rfl, hI322243, hF322244, rfl, hr322246⟩
        refine At.stn ?_
        have hF322247 := Fr.tr hF300766 hF322244 rfl rfl
        have x322250 := HI.eqI hI322243 (p := 231) (b := 8) ((((hF322244.1 231 8 mf_X11_next_231_231_8).trans ((hF300763.1 231 8 mf_X11_isSign_231_231_8).trans (q268547.1 231 8 (by decide)))).trans hv1))
        obtain ⟨v322251, hv322251⟩ : ∃ v, gI g322242 231 9 = v := ⟨_, rfl⟩
        have rv322251 := RgF.at hI322243.2.1 (p := 231) (b := 9) rfl
        rw [hv322251] at rv322251
        dsimp only at rv322251
        have tv322251 := congrArg Int32.toInt hv322251
        obtain ⟨v322253, hv322253⟩ : ∃ v, gI g322242 231 10 = v := ⟨_, rfl⟩
        have rv322253 := RgF.at hI322243.2.1 (p := 231) (b := 10) rfl
        rw [hv322253] at rv322253
        dsimp only at rv322253
        have tv322253 := congrArg Int32.toInt hv322253
        obtain ⟨v322255, hv322255⟩ : ∃ v, gI g322242 231 11 = v := ⟨_, rfl⟩
        have tv322255 := congrArg Int32.toInt hv322255
        obtain ⟨c322257, c322258, c322259, c322260, c322261, c322262, c322263⟩ := hr322246
        have tok322264_ := c322263.2
        rw [TM.c ((hF300763.2.1 236 ma_X11_isSign_231_236)), nM.c ((hF300763.1 231 8 mf_X11_isSign_231_231_8)), pI.c (b := 10) ((hF300763.1 231 10 mf_X11_isSign_231_231_10))] at tok322264_
        have tok322264 := TKM.tok q268554 tok322264_
        rw [TM.c ((q268547.2.1 236 (by decide))), nM.c ((q268547.1 231 8 (by decide)))] at tok322264
        have hK322265 := c322263.1
        refine At.enter rfl ?_
        refine r_aload_n e268545 ?_
        have x322270 := HI.eqI hI322243 (p := 231) (b := 14) ((((hF322244.1 231 14 mf_X11_next_231_231_14).trans (hF300763.1 231 14 mf_X11_isSign_231_231_14)).trans hv268571))
        have x322271 := HI.eqI hI322243 (p := 231) (b := 15) ((((hF322244.1 231 15 mf_X11_next_231_231_15).trans (hF300763.1 231 15 mf_X11_isSign_231_231_15)).trans hv268573))
        have x322272 := HI.eqI hI322243 (p := 231) (b := 17) ((((hF322244.1 231 17 mf_X11_next_231_231_17).trans (hF300763.1 231 17 mf_X11_isSign_231_231_17)).trans hv268575))
        obtain ⟨v322273, hv322273⟩ : ∃ v, gI g268538 231 13 = v := ⟨_, rfl⟩
        have tv322273 := congrArg Int32.toInt hv322273
        have x322274 := HI.eqI hI322243 (p := 231) (b := 13) ((((hF322244.1 231 13 mf_X11_next_231_231_13).trans (hF300763.1 231 13 mf_X11_isSign_231_231_13)).trans hv322273))
        obtain ⟨v322275, hv322275⟩ : ∃ v, gI g268538 231 20 = v := ⟨_, rfl⟩
        have tv322275 := congrArg Int32.toInt hv322275
        have x322276 := HI.eqI hI322243 (p := 231) (b := 20) ((((hF322244.1 231 20 mf_X11_next_231_231_20).trans (hF300763.1 231 20 mf_X11_isSign_231_231_20)).trans hv322275))
        have y322277 := (q268553 (by omega)).1
        refine r_callV 75 rfl [.ref 231] [] (Nat.le_of_ble_eq_true rfl) rfl (T_X11_readClause_231 _ hI322243 (by refine ⟨?_, ?_, ?_, ?_⟩ <;> omega) (by omega) (by omega) c322262 (CLS.cong2 (q268553 (by omega)).2 hI322243 (((hF322244.2.1 238 ma_X11_next_231_238).trans (hF300763.2.1 238 ma_X11_isSign_231_238))) (((hF322244.2.1 239 ma_X11_next_231_239).trans (hF300763.2.1 239 ma_X11_isSign_231_239))) (((hF322244.2.1 237 ma_X11_next_231_237).trans (hF300763.2.1 237 ma_X11_isSign_231_237))) (((hF322244.1 231 15 mf_X11_next_231_231_15).trans (hF300763.1 231 15 mf_X11_isSign_231_231_15))) (((hF322244.1 231 17 mf_X11_next_231_231_17).trans (hF300763.1 231 17 mf_X11_isSign_231_231_17)))) hK322265) ?_
        rintro _ _ ⟨g322278, rfl, hI322279, hF322280, rfl, hr322282⟩
        refine At.stn ?_
        have hF322283 := Fr.tr hF322247 hF322280 rfl rfl
        have x322285 := HI.eqI hI322279 (p := 231) (b := 8) ((((hF322280.1 231 8 mf_X11_readClause_231_231_8).trans ((hF322244.1 231 8 mf_X11_next_231_231_8).trans ((hF300763.1 231 8 mf_X11_isSign_231_231_8).trans (q268547.1 231 8 (by decide))))).trans hv1))
        obtain ⟨v322286, hv322286⟩ : ∃ v, gI g322278 231 9 = v := ⟨_, rfl⟩
        have rv322286 := RgF.at hI322279.2.1 (p := 231) (b := 9) rfl
        rw [hv322286] at rv322286
        dsimp only at rv322286
        have tv322286 := congrArg Int32.toInt hv322286
        obtain ⟨v322288, hv322288⟩ : ∃ v, gI g322278 231 10 = v := ⟨_, rfl⟩
        have rv322288 := RgF.at hI322279.2.1 (p := 231) (b := 10) rfl
        rw [hv322288] at rv322288
        dsimp only at rv322288
        have tv322288 := congrArg Int32.toInt hv322288
        obtain ⟨v322290, hv322290⟩ : ∃ v, gI g322278 231 11 = v := ⟨_, rfl⟩
        have tv322290 := congrArg Int32.toInt hv322290
        obtain ⟨v322292, hv322292⟩ : ∃ v, gI g322278 231 14 = v := ⟨_, rfl⟩
        have tv322292 := congrArg Int32.toInt hv322292
        obtain ⟨v322294, hv322294⟩ : ∃ v, gI g322278 231 15 = v := ⟨_, rfl⟩
        have rv322294 := RgF.at hI322279.2.1 (p := 231) (b := 15) rfl
        rw [hv322294] at rv322294
        dsimp only at rv322294
        have tv322294 := congrArg Int32.toInt hv322294
        obtain ⟨v322296, hv322296⟩ : ∃ v, gI g322278 231 17 = v := ⟨_, rfl⟩
        have rv322296 := RgF.at hI322279.2.1 (p := 231) (b := 17) rfl
        rw [hv322296] at rv322296
        dsimp only at rv322296
        have tv322296 := congrArg Int32.toInt hv322296
        obtain ⟨c322298, c322299, c322300, c322301, c322302, c322303, c322304, c322305⟩ := hr322282
        have hK322306 := c322305.1
        obtain ⟨v322307, hv322307⟩ : ∃ v, gI g322278 231 13 = v := ⟨_, rfl⟩
        have tv322307 := congrArg Int32.toInt hv322307
        refine At.enter rfl ?_
        refine r_goto ?_
        exact ih268543 (400 - v322286.toInt) _ _ ⟨v322286, by first | rfl | omega, hI322279, hF322283, hv322286, e268545, by omega, (Fr.tr (Fr.tr (Fr.tr q268547 hF300763 rfl rfl) hF322244 rfl rfl) hF322280 rfl rfl), by omega, by omega, by omega, by omega, c322302, c322304, hK322306, (CPM.at_ c322305.2 (((hF322244.2.1 236 ma_X11_next_231_236).trans ((hF300763.2.1 236 ma_X11_isSign_231_236).trans (q268547.2.1 236 (by decide))))) (((hF322244.1 231 8 mf_X11_next_231_231_8).trans ((hF300763.1 231 8 mf_X11_isSign_231_231_8).trans (q268547.1 231 8 (by decide))))) (CLM.semi q268555 (show (gI g268538 231 14).toInt = 0 from by omega) tok322264 (by omega) (pI.c (((hF322244.1 231 20 mf_X11_next_231_231_20).trans (hF300763.1 231 20 mf_X11_isSign_231_231_20)))) (pI.c (((hF322244.1 231 15 mf_X11_next_231_231_15).trans (hF300763.1 231 15 mf_X11_isSign_231_231_15)))) ((pI.c (((hF322244.1 231 14 mf_X11_next_231_231_14).trans (hF300763.1 231 14 mf_X11_isSign_231_231_14)))).trans (show (gI g268538 231 14).toInt = 0 from by omega)) (pI.c (((hF322244.1 231 13 mf_X11_next_231_231_13).trans (hF300763.1 231 13 mf_X11_isSign_231_231_13))))))⟩ ⟨by omega, by omega⟩
  · have c214811_ : v214810.toInt = 6 := en_i_ne_f c214811
    refine At.enter rfl ?_
    refine r_aload_n rfl ?_
    refine r_iconst 0 rfl ?_
    refine q_putI (Sh.int hI214808.1 kx_231 rfl) rfl ?_
    have hI322317 := HI.wI1 hI214808 kx_231 rfl (p := 231) (b := 8) (v := 0) rfl (by decide)
    have hF322318 := Fr.wI (p := 231) (b := 8) (v := 0) hF214809 rfl
    refine r_aload_n rfl ?_
    refine r_bipush (-5) rfl ?_
    refine r_callV 27 rfl [.ref 231, .int (-5)] [] (Nat.le_of_ble_eq_true rfl) rfl (T_X11_tell_231 _ hI322317 (-5) (by decide)) ?_
    rintro _ _ ⟨g322319, rfl, hI322320, hF322321, v322322, rfl, hr322323⟩
    refine At.sti ?_
    have hF322324 := Fr.tr hF322318 hF322321 rfl rfl
    have zv322325 : ((-5) : Int32).toInt = (-5) := rfl
    refine At.enter rfl ?_
    refine r_ireti ?_
    have x322326 := HI.eqI hI322320 (p := 231) (b := 8) (((hF322321.1 231 8 mf_X11_tell_231_231_8).trans (gI_sI_eq hI214808.1 kx_231 rfl _)))
    have zv322327 : (0 : Int32).toInt = 0 := rfl
    have x322328 := HI.eqA hI0 (p := 233) (j := 2) (hv214810)
    have x322329 := HI.eqA hI322320 (p := 233) (j := 2) ((((eA_c (hF322321.2.1 233 ma_X11_tell_231_233)).trans ((eA_c gA_sI).trans (eA_c gA_sI))).trans hv214810))
    obtain ⟨v322330, hv322330⟩ : ∃ v, gI g322319 231 1 = v := ⟨_, rfl⟩
    have tv322330 := congrArg Int32.toInt hv322330
    exact ⟨_, rfl, hI322320, hF322324, _, rfl, by omega, ⟨(fun i i0 i1 i2 => eA_c (((hF322321.2.1 233 ma_X11_tell_231_233).trans ((gA_sI).trans (gA_sI))))), by omega, Or.inl ⟨show (eA g0 233 2).toInt = 6 from by omega, by omega, pI.c (((hF322321.1 231 13 mf_X11_tell_231_231_13).trans ((gI_sI_ne (by decide)).trans (gI_sI_ne (by decide))))), (show (eA _ 233 2).toInt = (eA g0 233 2).toInt from by omega)⟩, (SU.mk (by omega))⟩⟩
